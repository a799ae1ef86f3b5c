theorem iR_neg {x : Int32} {n : Nat} (h : x < 0) : iR x n = false := by
  rw [Int32.lt_iff_toInt_lt, Int32.toInt_zero] at h
  have z : ¬ 0 ≤ x.toInt := by omega
  simp [iR, z]
theorem iR_big {x : Int32} {n : Nat} (hn : n < 2 ^ 31) (h : nI n ≤ x) : iR x n = false := by
  rw [Int32.le_iff_toInt_le, nI_toInt hn] at h
  have z : ¬ x.toInt < n := by omega
  simp [iR, z]
theorem iR_mid {x : Int32} {n : Nat} (hn : n < 2 ^ 31) (h0 : ¬ x < 0) (h : ¬ nI n ≤ x) : iR x n = true := by
  rw [Int32.lt_iff_toInt_lt, Int32.toInt_zero] at h0
  rw [Int32.le_iff_toInt_le, nI_toInt hn] at h
  have z1 : 0 ≤ x.toInt := by omega
  have z2 : x.toInt < n := by omega
  simp [iR, z1, z2]
theorem c_in5 {O : gOm} {d : Nat} {m : gMem} {x : Int32} : Ca O d kX7_in [.long x.toInt64, .long 0, .long 5] (some (.int (bI (iR x 6)))) m m := by
  rw [← iR_in x (n := 6) (by omega), show (nI 6 - nI 1).toInt64 = 5 by decide +kernel]
  exact c_in
theorem c_in1 {O : gOm} {d : Nat} {m : gMem} {x : Int32} : Ca O d kX7_in [.long x.toInt64, .long 0, .long 1] (some (.int (bI (iR x 2)))) m m := by
  rw [← iR_in x (n := 2) (by omega), show (nI 2 - nI 1).toInt64 = 1 by decide +kernel]
  exact c_in
theorem Inv.thr {m : gMem} (h : Inv m) : Inv (gup m 46 0 (nI 0)) := by
  obtain ⟨P, N, lw, hr, a, c, L, lim, h1, h2, h3, h4, h5, h6, h7, h8⟩ := h
  refine ⟨P, N, lw, hr, a, c, L, lim, h1, h2.kept rfl rfl rfl rfl rfl rfl, ?_, h4.kept rfl rfl rfl rfl rfl rfl rfl, h5.kept rfl rfl rfl rfl rfl rfl, h6.kept rfl rfl rfl rfl rfl rfl rfl rfl rfl rfl rfl rfl, h7.kept rfl rfl rfl rfl rfl rfl rfl, h8.kept rfl rfl rfl rfl⟩
  rcases h1 with ⟨e, -⟩ | ⟨e, -⟩
  · rw [show (gup m 46 0 (nI 0)).2 0 = 29 from e]
    rw [e] at h3
    exact h3.kept rfl rfl rfl rfl rfl rfl rfl rfl rfl rfl
  · rw [show (gup m 46 0 (nI 0)).2 0 = 35 from e]
    rw [e] at h3
    exact h3.kept rfl rfl rfl rfl rfl rfl rfl rfl rfl rfl
theorem c_isHour {O : gOm} {d : Nat} {m : gMem} {x : Int32} : Ca O d kX6_isHour [.int x] (some (.int (bI (iR x 6)))) m m := by
  show Go O d kX6_isHour _ m 0 [.int x] [] m
  refine go_iload_n dX6_isHour_0 rfl ?_
  refine go_if_lt 14 dX6_isHour_1 (by decide) (fun h1 => ?_) (fun h1 => ?_)
  · have er := iR_neg (n := 6) h1
    refine go_iconst (nI 0) dX6_isHour_14 (by decide +kernel) ?_
    exact go_zret dX6_isHour_15 rfl (by first | exact Or.inl rfl | exact Or.inr rfl) (by rw [er]; rfl) rfl
  · refine go_iload_n dX6_isHour_4 rfl ?_
    refine go_bipush (nI 6) dX6_isHour_5 (by decide +kernel) ?_
    refine go_icmp_ge 14 dX6_isHour_7 (by decide) (fun h7 => ?_) (fun h7 => ?_)
    · have er := iR_big (n := 6) (by omega) h7
      refine go_iconst (nI 0) dX6_isHour_14 (by decide +kernel) ?_
      exact go_zret dX6_isHour_15 rfl (by first | exact Or.inl rfl | exact Or.inr rfl) (by rw [er]; rfl) rfl
    · have er := iR_mid (n := 6) (by omega) h1 h7
      refine go_iconst (nI 1) dX6_isHour_10 (by decide +kernel) ?_
      refine go_goto 15 dX6_isHour_11 (by decide) ?_
      exact go_zret dX6_isHour_15 rfl (by first | exact Or.inl rfl | exact Or.inr rfl) (by rw [er]; rfl) rfl
theorem c_isPerson_29 {O : gOm} {d : Nat} {m : gMem} {x : Int32} {n : Nat} (hT : m.2 0 = 29) (hn : m.1 29 5 = nI n) (h6 : n ≤ 6) : Ca O d kX6_isPerson [.ref 0, .int x] (some (.int (bI (iR x n)))) m m := by
  show Go O d kX6_isPerson _ m 0 [.ref 0, .int x] [] m
  refine go_iload_n dX6_isPerson_0 rfl ?_
  refine go_if_lt 19 dX6_isPerson_1 (by decide) (fun h1 => ?_) (fun h1 => ?_)
  · have er := iR_neg (n := n) h1
    refine go_iconst (nI 0) dX6_isPerson_19 (by decide +kernel) ?_
    exact go_zret dX6_isPerson_20 rfl (by first | exact Or.inl rfl | exact Or.inr rfl) (by rw [er]; rfl) rfl
  · refine go_iload_n dX6_isPerson_4 rfl ?_
    refine go_aload_n dX6_isPerson_5 rfl ?_
    refine go_getm dX6_isPerson_6 fX6_47 rfl (by decide) (by decide) (by decide) rfl hT ?_
    refine go_geti dX6_isPerson_9 fX6_85 rfl (by decide) (by decide) (by decide) rfl hn ?_
    refine go_icmp_ge 19 dX6_isPerson_12 (by decide) (fun h12 => ?_) (fun h12 => ?_)
    · have er := iR_big (n := n) (by omega) h12
      refine go_iconst (nI 0) dX6_isPerson_19 (by decide +kernel) ?_
      exact go_zret dX6_isPerson_20 rfl (by first | exact Or.inl rfl | exact Or.inr rfl) (by rw [er]; rfl) rfl
    · have er := iR_mid (n := n) (by omega) h1 h12
      refine go_iconst (nI 1) dX6_isPerson_15 (by decide +kernel) ?_
      refine go_goto 20 dX6_isPerson_16 (by decide) ?_
      exact go_zret dX6_isPerson_20 rfl (by first | exact Or.inl rfl | exact Or.inr rfl) (by rw [er]; rfl) rfl
theorem c_isNews_29 {O : gOm} {d : Nat} {m : gMem} {x : Int32} {n : Nat} (hT : m.2 0 = 29) (hn : m.1 29 6 = nI n) (h6 : n ≤ 6) : Ca O d kX6_isNews [.ref 0, .int x] (some (.int (bI (iR x n)))) m m := by
  show Go O d kX6_isNews _ m 0 [.ref 0, .int x] [] m
  refine go_iload_n dX6_isNews_0 rfl ?_
  refine go_if_lt 19 dX6_isNews_1 (by decide) (fun h1 => ?_) (fun h1 => ?_)
  · have er := iR_neg (n := n) h1
    refine go_iconst (nI 0) dX6_isNews_19 (by decide +kernel) ?_
    exact go_zret dX6_isNews_20 rfl (by first | exact Or.inl rfl | exact Or.inr rfl) (by rw [er]; rfl) rfl
  · refine go_iload_n dX6_isNews_4 rfl ?_
    refine go_aload_n dX6_isNews_5 rfl ?_
    refine go_getm dX6_isNews_6 fX6_47 rfl (by decide) (by decide) (by decide) rfl hT ?_
    refine go_geti dX6_isNews_9 fX6_88 rfl (by decide) (by decide) (by decide) rfl hn ?_
    refine go_icmp_ge 19 dX6_isNews_12 (by decide) (fun h12 => ?_) (fun h12 => ?_)
    · have er := iR_big (n := n) (by omega) h12
      refine go_iconst (nI 0) dX6_isNews_19 (by decide +kernel) ?_
      exact go_zret dX6_isNews_20 rfl (by first | exact Or.inl rfl | exact Or.inr rfl) (by rw [er]; rfl) rfl
    · have er := iR_mid (n := n) (by omega) h1 h12
      refine go_iconst (nI 1) dX6_isNews_15 (by decide +kernel) ?_
      refine go_goto 20 dX6_isNews_16 (by decide) ?_
      exact go_zret dX6_isNews_20 rfl (by first | exact Or.inl rfl | exact Or.inr rfl) (by rw [er]; rfl) rfl
theorem c_leftOfX_29 {O : gOm} {d : Nat} {m : gMem} {n a b : Nat} (hT : m.2 0 = 29) (hn : n < 3) (ha : m.1 32 n = nI a) (hb : nI 0 + m.1 7 (n * 3 + 0) + m.1 7 (n * 3 + 1) + m.1 7 (n * 3 + 2) = nI b) (hab : b ≤ a) : Ca O (d + 1) kX6_leftOf [.ref 0, .int (nI n)] (some (.int (nI (a - b)))) m m := by
  show Go O (d + 1) kX6_leftOf _ m 0 [.ref 0, .int (nI n)] [] m
  refine go_aload_n dX6_leftOf_0 rfl ?_
  refine go_getm dX6_leftOf_1 fX6_47 rfl (by decide) (by decide) (by decide) rfl hT ?_
  refine go_getc dX6_leftOf_4 fX6_119 rfl (by decide) (by decide) (by decide) rfl ?_
  refine go_iload_n dX6_leftOf_7 rfl ?_
  refine go_iald dX6_leftOf_8 rfl (by decide) rfl (by omega) (by decide) ha ?_
  refine go_aload_n dX6_leftOf_9 rfl ?_
  refine go_getc dX6_leftOf_10 fX6_19 rfl (by decide) (by decide) (by decide) rfl ?_
  refine go_iload_n dX6_leftOf_13 rfl ?_
  refine go_callV1 (K' := kX5_tellingsOf) [_] dX6_leftOf_14 mX6_126 lX5_tellingsOf rfl (by decide) rfl (by decide) rfl rfl (Nat.le_of_ble_eq_true rfl) (Nat.le_of_ble_eq_true rfl) (c_tellingsOf_3 hn) ?_
  refine go_isub dX6_leftOf_17 ((congrArg (fun z => nI a - z) hb).trans (pk_sub hab)) ?_
  exact go_iret dX6_leftOf_18 rfl rfl rfl
theorem c_isPerson_35 {O : gOm} {d : Nat} {m : gMem} {x : Int32} {n : Nat} (hT : m.2 0 = 35) (hn : m.1 35 5 = nI n) (h6 : n ≤ 6) : Ca O d kX6_isPerson [.ref 0, .int x] (some (.int (bI (iR x n)))) m m := by
  show Go O d kX6_isPerson _ m 0 [.ref 0, .int x] [] m
  refine go_iload_n dX6_isPerson_0 rfl ?_
  refine go_if_lt 19 dX6_isPerson_1 (by decide) (fun h1 => ?_) (fun h1 => ?_)
  · have er := iR_neg (n := n) h1
    refine go_iconst (nI 0) dX6_isPerson_19 (by decide +kernel) ?_
    exact go_zret dX6_isPerson_20 rfl (by first | exact Or.inl rfl | exact Or.inr rfl) (by rw [er]; rfl) rfl
  · refine go_iload_n dX6_isPerson_4 rfl ?_
    refine go_aload_n dX6_isPerson_5 rfl ?_
    refine go_getm dX6_isPerson_6 fX6_47 rfl (by decide) (by decide) (by decide) rfl hT ?_
    refine go_geti dX6_isPerson_9 fX6_85 rfl (by decide) (by decide) (by decide) rfl hn ?_
    refine go_icmp_ge 19 dX6_isPerson_12 (by decide) (fun h12 => ?_) (fun h12 => ?_)
    · have er := iR_big (n := n) (by omega) h12
      refine go_iconst (nI 0) dX6_isPerson_19 (by decide +kernel) ?_
      exact go_zret dX6_isPerson_20 rfl (by first | exact Or.inl rfl | exact Or.inr rfl) (by rw [er]; rfl) rfl
    · have er := iR_mid (n := n) (by omega) h1 h12
      refine go_iconst (nI 1) dX6_isPerson_15 (by decide +kernel) ?_
      refine go_goto 20 dX6_isPerson_16 (by decide) ?_
      exact go_zret dX6_isPerson_20 rfl (by first | exact Or.inl rfl | exact Or.inr rfl) (by rw [er]; rfl) rfl
theorem c_isNews_35 {O : gOm} {d : Nat} {m : gMem} {x : Int32} {n : Nat} (hT : m.2 0 = 35) (hn : m.1 35 6 = nI n) (h6 : n ≤ 6) : Ca O d kX6_isNews [.ref 0, .int x] (some (.int (bI (iR x n)))) m m := by
  show Go O d kX6_isNews _ m 0 [.ref 0, .int x] [] m
  refine go_iload_n dX6_isNews_0 rfl ?_
  refine go_if_lt 19 dX6_isNews_1 (by decide) (fun h1 => ?_) (fun h1 => ?_)
  · have er := iR_neg (n := n) h1
    refine go_iconst (nI 0) dX6_isNews_19 (by decide +kernel) ?_
    exact go_zret dX6_isNews_20 rfl (by first | exact Or.inl rfl | exact Or.inr rfl) (by rw [er]; rfl) rfl
  · refine go_iload_n dX6_isNews_4 rfl ?_
    refine go_aload_n dX6_isNews_5 rfl ?_
    refine go_getm dX6_isNews_6 fX6_47 rfl (by decide) (by decide) (by decide) rfl hT ?_
    refine go_geti dX6_isNews_9 fX6_88 rfl (by decide) (by decide) (by decide) rfl hn ?_
    refine go_icmp_ge 19 dX6_isNews_12 (by decide) (fun h12 => ?_) (fun h12 => ?_)
    · have er := iR_big (n := n) (by omega) h12
      refine go_iconst (nI 0) dX6_isNews_19 (by decide +kernel) ?_
      exact go_zret dX6_isNews_20 rfl (by first | exact Or.inl rfl | exact Or.inr rfl) (by rw [er]; rfl) rfl
    · have er := iR_mid (n := n) (by omega) h1 h12
      refine go_iconst (nI 1) dX6_isNews_15 (by decide +kernel) ?_
      refine go_goto 20 dX6_isNews_16 (by decide) ?_
      exact go_zret dX6_isNews_20 rfl (by first | exact Or.inl rfl | exact Or.inr rfl) (by rw [er]; rfl) rfl
theorem c_leftOfX_35 {O : gOm} {d : Nat} {m : gMem} {n a b : Nat} (hT : m.2 0 = 35) (hn : n < 3) (ha : m.1 38 n = nI a) (hb : nI 0 + m.1 7 (n * 3 + 0) + m.1 7 (n * 3 + 1) + m.1 7 (n * 3 + 2) = nI b) (hab : b ≤ a) : Ca O (d + 1) kX6_leftOf [.ref 0, .int (nI n)] (some (.int (nI (a - b)))) m m := by
  show Go O (d + 1) kX6_leftOf _ m 0 [.ref 0, .int (nI n)] [] m
  refine go_aload_n dX6_leftOf_0 rfl ?_
  refine go_getm dX6_leftOf_1 fX6_47 rfl (by decide) (by decide) (by decide) rfl hT ?_
  refine go_getc dX6_leftOf_4 fX6_119 rfl (by decide) (by decide) (by decide) rfl ?_
  refine go_iload_n dX6_leftOf_7 rfl ?_
  refine go_iald dX6_leftOf_8 rfl (by decide) rfl (by omega) (by decide) ha ?_
  refine go_aload_n dX6_leftOf_9 rfl ?_
  refine go_getc dX6_leftOf_10 fX6_19 rfl (by decide) (by decide) (by decide) rfl ?_
  refine go_iload_n dX6_leftOf_13 rfl ?_
  refine go_callV1 (K' := kX5_tellingsOf) [_] dX6_leftOf_14 mX6_126 lX5_tellingsOf rfl (by decide) rfl (by decide) rfl rfl (Nat.le_of_ble_eq_true rfl) (Nat.le_of_ble_eq_true rfl) (c_tellingsOf_3 hn) ?_
  refine go_isub dX6_leftOf_17 ((congrArg (fun z => nI a - z) hb).trans (pk_sub hab)) ?_
  exact go_iret dX6_leftOf_18 rfl rfl rfl
theorem op_where_29 {O : gOm} {d : Nat} {m : gMem} {P N lw hr : Nat} {lim : Nat → Nat} {p h : Int32} (hT : m.2 0 = 29) (hd : IvD m P N lw lim) (ht : IvT m 29 P N lw) (hp : IvP m N lim hr) : ∃ r, Ca O (d + 4) kX6_where [.ref 0, .int p, .int h] (some (.int r)) m m ∧ Ca O (d + 4) kX7_where [.ref 46, .int p, .int h] (some (.int r)) m (gup m 46 0 (nI 0)) := by
  obtain ⟨hP, hP6, hN, hN3, hlw, hl3, hw, hlim, hfs⟩ := hd
  obtain ⟨t5, t6, t7, tp, tg, tn⟩ := ht
  obtain ⟨⟨s4, sk, st, sa, spl⟩, h11, ok1, ok2, ok3, ok4, ok5⟩ := hp
  cases hip : iR p P with
  | false =>
    refine ⟨-1, ?_, ?_⟩
    · show Go O (d + 4) kX6_where _ _ 0 [.ref 0, .int p, .int h] [] m
      refine go_aload_n dX6_where_0 rfl ?_
      refine go_iload_n dX6_where_1 rfl ?_
      refine go_callV1 (K' := kX6_isPerson) [_] dX6_where_2 mX6_105 lX6_isPerson rfl (by decide) rfl (by decide) rfl rfl (Nat.le_of_ble_eq_true rfl) (Nat.le_of_ble_eq_true rfl) (c_isPerson_29 hT t5 hP6) ?_
      refine go_if_ne 10 dX6_where_5 (by decide) (fun h => absurd h (fun z => z (bI_0.mpr hip))) (fun h5 => ?_)
      refine go_iconst (-1) dX6_where_8 (by decide +kernel) ?_
      exact go_iret dX6_where_9 rfl rfl rfl
    · show Go O (d + 4) kX7_where _ _ 0 [.ref 46, .int p, .int h] [] m
      refine go_aload_n dX7_where_0 rfl ?_
      refine go_iconst (nI 0) dX7_where_1 (by decide +kernel) ?_
      refine go_puti dX7_where_2 fX7_77 rfl (by decide) (by decide) (by decide) rfl (fun _ _ _ h => by cases h; rfl) (Or.inl rfl) ?_
      refine go_aload_n dX7_where_5 rfl ?_
      refine go_iload_n dX7_where_6 rfl ?_
      refine go_callV1 (K' := kX7_noOne) [_] dX7_where_7 mX7_150 lX7_noOne rfl (by decide) rfl (by decide) rfl rfl (Nat.le_of_ble_eq_true rfl) (Nat.le_of_ble_eq_true rfl) (c_noOne hP hP6) ?_
      refine go_if_eq 15 dX7_where_10 (by decide) (fun h => absurd h (bI_n0.mpr (by rw [hip]; rfl))) (fun h10 => ?_)
      refine go_iconst (-1) dX7_where_13 (by decide +kernel) ?_
      exact go_iret dX7_where_14 rfl rfl rfl
  | true =>
    obtain ⟨p, hpP, rfl⟩ := iR_of hip
    cases hih : iR h 6 with
    | false =>
      refine ⟨-2, ?_, ?_⟩
      · show Go O (d + 4) kX6_where _ _ 0 [.ref 0, .int (nI p), .int h] [] m
        refine go_aload_n dX6_where_0 rfl ?_
        refine go_iload_n dX6_where_1 rfl ?_
        refine go_callV1 (K' := kX6_isPerson) [_] dX6_where_2 mX6_105 lX6_isPerson rfl (by decide) rfl (by decide) rfl rfl (Nat.le_of_ble_eq_true rfl) (Nat.le_of_ble_eq_true rfl) (c_isPerson_29 hT t5 hP6) ?_
        refine go_if_ne 10 dX6_where_5 (by decide) (fun h5 => ?_) (fun h => absurd h (bI_n0.mpr hip))
        refine go_iload_n dX6_where_10 rfl ?_
        refine go_callS1 (K' := kX6_isHour) [_] dX6_where_11 mX6_109 lX6_isHour rfl rfl (Nat.le_of_ble_eq_true rfl) (Nat.le_of_ble_eq_true rfl) (c_isHour) ?_
        refine go_if_eq 29 dX6_where_14 (by decide) (fun h14 => ?_) (fun h => absurd (bI_0.mpr hih) h)
        refine go_bipush (-2) dX6_where_29 (by decide +kernel) ?_
        exact go_iret dX6_where_31 rfl rfl rfl
      · show Go O (d + 4) kX7_where _ _ 0 [.ref 46, .int (nI p), .int h] [] m
        refine go_aload_n dX7_where_0 rfl ?_
        refine go_iconst (nI 0) dX7_where_1 (by decide +kernel) ?_
        refine go_puti dX7_where_2 fX7_77 rfl (by decide) (by decide) (by decide) rfl (fun _ _ _ h => by cases h; rfl) (Or.inl rfl) ?_
        refine go_aload_n dX7_where_5 rfl ?_
        refine go_iload_n dX7_where_6 rfl ?_
        refine go_callV1 (K' := kX7_noOne) [_] dX7_where_7 mX7_150 lX7_noOne rfl (by decide) rfl (by decide) rfl rfl (Nat.le_of_ble_eq_true rfl) (Nat.le_of_ble_eq_true rfl) (c_noOne hP hP6) ?_
        refine go_if_eq 15 dX7_where_10 (by decide) (fun h10 => ?_) (fun h => absurd (bI_0.mpr (by rw [hip]; rfl)) h)
        refine go_iload_n dX7_where_15 rfl ?_
        refine go_i2l dX7_where_16 rfl ?_
        refine go_lconst 0 dX7_where_17 (by decide +kernel) ?_
        refine go_ldc2 kcX7_153 dX7_where_18 ?_
        refine go_callS1 (K' := kX7_in) [_, _, _] dX7_where_21 mX7_84 lX7_in rfl rfl (Nat.le_of_ble_eq_true rfl) (Nat.le_of_ble_eq_true rfl) (c_in5) ?_
        refine go_if_eq 41 dX7_where_24 (by decide) (fun h24 => ?_) (fun h => absurd (bI_0.mpr hih) h)
        refine go_bipush (-2) dX7_where_41 (by decide +kernel) ?_
        exact go_iret dX7_where_43 rfl rfl rfl
    | true =>
      obtain ⟨h, hh, rfl⟩ := iR_of hih
      refine ⟨m.1 48 (6 * p + h), ?_, ?_⟩
      · show Go O (d + 4) kX6_where _ _ 0 [.ref 0, .int (nI p), .int (nI h)] [] m
        refine go_aload_n dX6_where_0 rfl ?_
        refine go_iload_n dX6_where_1 rfl ?_
        refine go_callV1 (K' := kX6_isPerson) [_] dX6_where_2 mX6_105 lX6_isPerson rfl (by decide) rfl (by decide) rfl rfl (Nat.le_of_ble_eq_true rfl) (Nat.le_of_ble_eq_true rfl) (c_isPerson_29 hT t5 hP6) ?_
        refine go_if_ne 10 dX6_where_5 (by decide) (fun h5 => ?_) (fun h => absurd h (bI_n0.mpr hip))
        refine go_iload_n dX6_where_10 rfl ?_
        refine go_callS1 (K' := kX6_isHour) [_] dX6_where_11 mX6_109 lX6_isHour rfl rfl (Nat.le_of_ble_eq_true rfl) (Nat.le_of_ble_eq_true rfl) (c_isHour) ?_
        refine go_if_eq 29 dX6_where_14 (by decide) (fun h => absurd h (bI_n0.mpr hih)) (fun h14 => ?_)
        refine go_aload_n dX6_where_17 rfl ?_
        refine go_getm dX6_where_18 fX6_47 rfl (by decide) (by decide) (by decide) rfl hT ?_
        refine go_iload_n dX6_where_21 rfl ?_
        refine go_iload_n dX6_where_22 rfl ?_
        refine go_callV1 (K' := kX1_placeOf) [_, _] dX6_where_23 mX6_112 lX1_placeOf rfl (by decide) rfl (by decide) rfl rfl (Nat.le_of_ble_eq_true rfl) (Nat.le_of_ble_eq_true rfl) (c_placeOf_29 (by omega) hh (tp p h hpP hh)) ?_
        refine go_goto 31 dX6_where_26 (by decide) ?_
        exact go_iret dX6_where_31 rfl rfl rfl
      · show Go O (d + 4) kX7_where _ _ 0 [.ref 46, .int (nI p), .int (nI h)] [] m
        refine go_aload_n dX7_where_0 rfl ?_
        refine go_iconst (nI 0) dX7_where_1 (by decide +kernel) ?_
        refine go_puti dX7_where_2 fX7_77 rfl (by decide) (by decide) (by decide) rfl (fun _ _ _ h => by cases h; rfl) (Or.inl rfl) ?_
        refine go_aload_n dX7_where_5 rfl ?_
        refine go_iload_n dX7_where_6 rfl ?_
        refine go_callV1 (K' := kX7_noOne) [_] dX7_where_7 mX7_150 lX7_noOne rfl (by decide) rfl (by decide) rfl rfl (Nat.le_of_ble_eq_true rfl) (Nat.le_of_ble_eq_true rfl) (c_noOne hP hP6) ?_
        refine go_if_eq 15 dX7_where_10 (by decide) (fun h10 => ?_) (fun h => absurd (bI_0.mpr (by rw [hip]; rfl)) h)
        refine go_iload_n dX7_where_15 rfl ?_
        refine go_i2l dX7_where_16 rfl ?_
        refine go_lconst 0 dX7_where_17 (by decide +kernel) ?_
        refine go_ldc2 kcX7_153 dX7_where_18 ?_
        refine go_callS1 (K' := kX7_in) [_, _, _] dX7_where_21 mX7_84 lX7_in rfl rfl (Nat.le_of_ble_eq_true rfl) (Nat.le_of_ble_eq_true rfl) (c_in5) ?_
        refine go_if_eq 41 dX7_where_24 (by decide) (fun h => absurd h (bI_n0.mpr hih)) (fun h24 => ?_)
        refine go_aload_n dX7_where_27 rfl ?_
        refine go_getc dX7_where_28 fX7_13 rfl (by decide) (by decide) (by decide) rfl ?_
        refine go_bipush (nI 6) dX7_where_31 (by decide +kernel) ?_
        refine go_iload_n dX7_where_33 rfl ?_
        first | refine go_imul_n dX7_where_34 ?_ | refine go_imul dX7_where_34 rfl ?_
        refine go_iload_n dX7_where_35 rfl ?_
        first | refine go_iadd_n dX7_where_36 ?_ | refine go_iadd dX7_where_36 rfl ?_
        refine go_iald dX7_where_37 rfl (by decide) rfl (by omega) (by decide) rfl ?_
        refine go_goto 43 dX7_where_38 (by decide) ?_
        exact go_iret dX7_where_43 rfl rfl rfl
theorem op_told_29 {O : gOm} {d : Nat} {m : gMem} {P N lw hr : Nat} {lim : Nat → Nat} {p n : Int32} (hT : m.2 0 = 29) (hd : IvD m P N lw lim) (ht : IvT m 29 P N lw) (hp : IvP m N lim hr) : ∃ r, Ca O (d + 4) kX6_told [.ref 0, .int p, .int n] (some (.int r)) m m ∧ Ca O (d + 4) kX7_told [.ref 46, .int p, .int n] (some (.int r)) m (gup m 46 0 (nI 0)) := by
  obtain ⟨hP, hP6, hN, hN3, hlw, hl3, hw, hlim, hfs⟩ := hd
  obtain ⟨t5, t6, t7, tp, tg, tn⟩ := ht
  obtain ⟨⟨s4, sk, st, sa, spl⟩, h11, ok1, ok2, ok3, ok4, ok5⟩ := hp
  cases hip : iR p P with
  | false =>
    refine ⟨-1, ?_, ?_⟩
    · show Go O (d + 4) kX6_told _ _ 0 [.ref 0, .int p, .int n] [] m
      refine go_aload_n dX6_told_0 rfl ?_
      refine go_iload_n dX6_told_1 rfl ?_
      refine go_callV1 (K' := kX6_isPerson) [_] dX6_told_2 mX6_105 lX6_isPerson rfl (by decide) rfl (by decide) rfl rfl (Nat.le_of_ble_eq_true rfl) (Nat.le_of_ble_eq_true rfl) (c_isPerson_29 hT t5 hP6) ?_
      refine go_if_eq 16 dX6_told_5 (by decide) (fun h5 => ?_) (fun h => absurd (bI_0.mpr hip) h)
      refine go_iconst (-1) dX6_told_16 (by decide +kernel) ?_
      exact go_iret dX6_told_17 rfl rfl rfl
    · show Go O (d + 4) kX7_told _ _ 0 [.ref 46, .int p, .int n] [] m
      refine go_aload_n dX7_told_0 rfl ?_
      refine go_iconst (nI 0) dX7_told_1 (by decide +kernel) ?_
      refine go_puti dX7_told_2 fX7_77 rfl (by decide) (by decide) (by decide) rfl (fun _ _ _ h => by cases h; rfl) (Or.inl rfl) ?_
      refine go_aload_n dX7_told_5 rfl ?_
      refine go_iload_n dX7_told_6 rfl ?_
      refine go_callV1 (K' := kX7_noOne) [_] dX7_told_7 mX7_150 lX7_noOne rfl (by decide) rfl (by decide) rfl rfl (Nat.le_of_ble_eq_true rfl) (Nat.le_of_ble_eq_true rfl) (c_noOne hP hP6) ?_
      refine go_if_ne 21 dX7_told_10 (by decide) (fun h10 => ?_) (fun h => absurd h (bI_n0.mpr (by rw [hip]; rfl)))
      refine go_iconst (-1) dX7_told_21 (by decide +kernel) ?_
      refine go_goto 39 dX7_told_22 (by decide) ?_
      exact go_iret dX7_told_39 rfl rfl rfl
  | true =>
    obtain ⟨p, hpP, rfl⟩ := iR_of hip
    cases hin : iR n N with
    | false =>
      refine ⟨-1, ?_, ?_⟩
      · show Go O (d + 4) kX6_told _ _ 0 [.ref 0, .int (nI p), .int n] [] m
        refine go_aload_n dX6_told_0 rfl ?_
        refine go_iload_n dX6_told_1 rfl ?_
        refine go_callV1 (K' := kX6_isPerson) [_] dX6_told_2 mX6_105 lX6_isPerson rfl (by decide) rfl (by decide) rfl rfl (Nat.le_of_ble_eq_true rfl) (Nat.le_of_ble_eq_true rfl) (c_isPerson_29 hT t5 hP6) ?_
        refine go_if_eq 16 dX6_told_5 (by decide) (fun h => absurd h (bI_n0.mpr hip)) (fun h5 => ?_)
        refine go_aload_n dX6_told_8 rfl ?_
        refine go_iload_n dX6_told_9 rfl ?_
        refine go_callV1 (K' := kX6_isNews) [_] dX6_told_10 mX6_116 lX6_isNews rfl (by decide) rfl (by decide) rfl rfl (Nat.le_of_ble_eq_true rfl) (Nat.le_of_ble_eq_true rfl) (c_isNews_29 hT t6 (by omega)) ?_
        refine go_if_ne 18 dX6_told_13 (by decide) (fun h => absurd h (fun z => z (bI_0.mpr hin))) (fun h13 => ?_)
        refine go_iconst (-1) dX6_told_16 (by decide +kernel) ?_
        exact go_iret dX6_told_17 rfl rfl rfl
      · show Go O (d + 4) kX7_told _ _ 0 [.ref 46, .int (nI p), .int n] [] m
        refine go_aload_n dX7_told_0 rfl ?_
        refine go_iconst (nI 0) dX7_told_1 (by decide +kernel) ?_
        refine go_puti dX7_told_2 fX7_77 rfl (by decide) (by decide) (by decide) rfl (fun _ _ _ h => by cases h; rfl) (Or.inl rfl) ?_
        refine go_aload_n dX7_told_5 rfl ?_
        refine go_iload_n dX7_told_6 rfl ?_
        refine go_callV1 (K' := kX7_noOne) [_] dX7_told_7 mX7_150 lX7_noOne rfl (by decide) rfl (by decide) rfl rfl (Nat.le_of_ble_eq_true rfl) (Nat.le_of_ble_eq_true rfl) (c_noOne hP hP6) ?_
        refine go_if_ne 21 dX7_told_10 (by decide) (fun h => absurd h (fun z => z (bI_0.mpr (by rw [hip]; rfl)))) (fun h10 => ?_)
        refine go_aload_n dX7_told_13 rfl ?_
        refine go_iload_n dX7_told_14 rfl ?_
        refine go_callV1 (K' := kX7_noNews) [_] dX7_told_15 mX7_155 lX7_noNews rfl (by decide) rfl (by decide) rfl rfl (Nat.le_of_ble_eq_true rfl) (Nat.le_of_ble_eq_true rfl) (c_noNews hN (by omega)) ?_
        refine go_if_eq 25 dX7_told_18 (by decide) (fun h => absurd h (bI_n0.mpr (by rw [hin]; rfl))) (fun h18 => ?_)
        refine go_iconst (-1) dX7_told_21 (by decide +kernel) ?_
        refine go_goto 39 dX7_told_22 (by decide) ?_
        exact go_iret dX7_told_39 rfl rfl rfl
    | true =>
      obtain ⟨n, hnN, rfl⟩ := iR_of hin
      refine ⟨m.1 52 (6 + 6 * n + p), ?_, ?_⟩
      · show Go O (d + 4) kX6_told _ _ 0 [.ref 0, .int (nI p), .int (nI n)] [] m
        refine go_aload_n dX6_told_0 rfl ?_
        refine go_iload_n dX6_told_1 rfl ?_
        refine go_callV1 (K' := kX6_isPerson) [_] dX6_told_2 mX6_105 lX6_isPerson rfl (by decide) rfl (by decide) rfl rfl (Nat.le_of_ble_eq_true rfl) (Nat.le_of_ble_eq_true rfl) (c_isPerson_29 hT t5 hP6) ?_
        refine go_if_eq 16 dX6_told_5 (by decide) (fun h => absurd h (bI_n0.mpr hip)) (fun h5 => ?_)
        refine go_aload_n dX6_told_8 rfl ?_
        refine go_iload_n dX6_told_9 rfl ?_
        refine go_callV1 (K' := kX6_isNews) [_] dX6_told_10 mX6_116 lX6_isNews rfl (by decide) rfl (by decide) rfl rfl (Nat.le_of_ble_eq_true rfl) (Nat.le_of_ble_eq_true rfl) (c_isNews_29 hT t6 (by omega)) ?_
        refine go_if_ne 18 dX6_told_13 (by decide) (fun h13 => ?_) (fun h => absurd h (bI_n0.mpr hin))
        refine go_aload_n dX6_told_18 rfl ?_
        refine go_getc dX6_told_19 fX6_19 rfl (by decide) (by decide) (by decide) rfl ?_
        refine go_getc dX6_told_22 fX6_136 rfl (by decide) (by decide) (by decide) rfl ?_
        refine go_iload_n dX6_told_25 rfl ?_
        refine go_iconst (nI 3) dX6_told_26 (by decide +kernel) ?_
        first | refine go_imul_n dX6_told_27 ?_ | refine go_imul dX6_told_27 rfl ?_
        refine go_iload_n dX6_told_28 rfl ?_
        first | refine go_iadd_n dX6_told_29 ?_ | refine go_iadd dX6_told_29 rfl ?_
        refine go_iald dX6_told_30 rfl (by decide) rfl (by omega) (by decide) (st p n (by omega) (by omega)) ?_
        exact go_iret dX6_told_31 rfl rfl rfl
      · show Go O (d + 4) kX7_told _ _ 0 [.ref 46, .int (nI p), .int (nI n)] [] m
        refine go_aload_n dX7_told_0 rfl ?_
        refine go_iconst (nI 0) dX7_told_1 (by decide +kernel) ?_
        refine go_puti dX7_told_2 fX7_77 rfl (by decide) (by decide) (by decide) rfl (fun _ _ _ h => by cases h; rfl) (Or.inl rfl) ?_
        refine go_aload_n dX7_told_5 rfl ?_
        refine go_iload_n dX7_told_6 rfl ?_
        refine go_callV1 (K' := kX7_noOne) [_] dX7_told_7 mX7_150 lX7_noOne rfl (by decide) rfl (by decide) rfl rfl (Nat.le_of_ble_eq_true rfl) (Nat.le_of_ble_eq_true rfl) (c_noOne hP hP6) ?_
        refine go_if_ne 21 dX7_told_10 (by decide) (fun h => absurd h (fun z => z (bI_0.mpr (by rw [hip]; rfl)))) (fun h10 => ?_)
        refine go_aload_n dX7_told_13 rfl ?_
        refine go_iload_n dX7_told_14 rfl ?_
        refine go_callV1 (K' := kX7_noNews) [_] dX7_told_15 mX7_155 lX7_noNews rfl (by decide) rfl (by decide) rfl rfl (Nat.le_of_ble_eq_true rfl) (Nat.le_of_ble_eq_true rfl) (c_noNews hN (by omega)) ?_
        refine go_if_eq 25 dX7_told_18 (by decide) (fun h18 => ?_) (fun h => absurd (bI_0.mpr (by rw [hin]; rfl)) h)
        refine go_aload_n dX7_told_25 rfl ?_
        refine go_getc dX7_told_26 fX7_25 rfl (by decide) (by decide) (by decide) rfl ?_
        refine go_bipush (nI 6) dX7_told_29 (by decide +kernel) ?_
        refine go_bipush (nI 6) dX7_told_31 (by decide +kernel) ?_
        refine go_iload_n dX7_told_33 rfl ?_
        first | refine go_imul_n dX7_told_34 ?_ | refine go_imul dX7_told_34 rfl ?_
        first | refine go_iadd_n dX7_told_35 ?_ | refine go_iadd dX7_told_35 rfl ?_
        refine go_iload_n dX7_told_36 rfl ?_
        first | refine go_iadd_n dX7_told_37 ?_ | refine go_iadd dX7_told_37 rfl ?_
        refine go_iald dX7_told_38 rfl (by decide) rfl (by omega) (by decide) rfl ?_
        exact go_iret dX7_told_39 rfl rfl rfl
theorem op_left_29 {O : gOm} {d : Nat} {m : gMem} {P N lw hr : Nat} {lim : Nat → Nat} {p n : Int32} (hT : m.2 0 = 29) (hd : IvD m P N lw lim) (ht : IvT m 29 P N lw) (hp : IvP m N lim hr) : ∃ r, Ca O (d + 4) kX6_left [.ref 0, .int p, .int n] (some (.int r)) m m ∧ Ca O (d + 4) kX7_left [.ref 46, .int p, .int n] (some (.int r)) m (gup m 46 0 (nI 0)) := by
  obtain ⟨hP, hP6, hN, hN3, hlw, hl3, hw, hlim, hfs⟩ := hd
  obtain ⟨t5, t6, t7, tp, tg, tn⟩ := ht
  obtain ⟨⟨s4, sk, st, sa, spl⟩, h11, ok1, ok2, ok3, ok4, ok5⟩ := hp
  cases hip : iR p P with
  | false =>
    refine ⟨-1, ?_, ?_⟩
    · show Go O (d + 4) kX6_left _ _ 0 [.ref 0, .int p, .int n] [] m
      refine go_aload_n dX6_left_0 rfl ?_
      refine go_iload_n dX6_left_1 rfl ?_
      refine go_callV1 (K' := kX6_isPerson) [_] dX6_left_2 mX6_105 lX6_isPerson rfl (by decide) rfl (by decide) rfl rfl (Nat.le_of_ble_eq_true rfl) (Nat.le_of_ble_eq_true rfl) (c_isPerson_29 hT t5 hP6) ?_
      refine go_if_eq 16 dX6_left_5 (by decide) (fun h5 => ?_) (fun h => absurd (bI_0.mpr hip) h)
      refine go_iconst (-1) dX6_left_16 (by decide +kernel) ?_
      exact go_iret dX6_left_17 rfl rfl rfl
    · show Go O (d + 4) kX7_left _ _ 0 [.ref 46, .int p, .int n] [] m
      refine go_aload_n dX7_left_0 rfl ?_
      refine go_iconst (nI 0) dX7_left_1 (by decide +kernel) ?_
      refine go_puti dX7_left_2 fX7_77 rfl (by decide) (by decide) (by decide) rfl (fun _ _ _ h => by cases h; rfl) (Or.inl rfl) ?_
      refine go_aload_n dX7_left_5 rfl ?_
      refine go_iload_n dX7_left_6 rfl ?_
      refine go_callV1 (K' := kX7_noOne) [_] dX7_left_7 mX7_150 lX7_noOne rfl (by decide) rfl (by decide) rfl rfl (Nat.le_of_ble_eq_true rfl) (Nat.le_of_ble_eq_true rfl) (c_noOne hP hP6) ?_
      refine go_if_ne 21 dX7_left_10 (by decide) (fun h10 => ?_) (fun h => absurd h (bI_n0.mpr (by rw [hip]; rfl)))
      refine go_iconst (-1) dX7_left_21 (by decide +kernel) ?_
      exact go_iret dX7_left_22 rfl rfl rfl
  | true =>
    obtain ⟨p, hpP, rfl⟩ := iR_of hip
    cases hin : iR n N with
    | false =>
      refine ⟨-1, ?_, ?_⟩
      · show Go O (d + 4) kX6_left _ _ 0 [.ref 0, .int (nI p), .int n] [] m
        refine go_aload_n dX6_left_0 rfl ?_
        refine go_iload_n dX6_left_1 rfl ?_
        refine go_callV1 (K' := kX6_isPerson) [_] dX6_left_2 mX6_105 lX6_isPerson rfl (by decide) rfl (by decide) rfl rfl (Nat.le_of_ble_eq_true rfl) (Nat.le_of_ble_eq_true rfl) (c_isPerson_29 hT t5 hP6) ?_
        refine go_if_eq 16 dX6_left_5 (by decide) (fun h => absurd h (bI_n0.mpr hip)) (fun h5 => ?_)
        refine go_aload_n dX6_left_8 rfl ?_
        refine go_iload_n dX6_left_9 rfl ?_
        refine go_callV1 (K' := kX6_isNews) [_] dX6_left_10 mX6_116 lX6_isNews rfl (by decide) rfl (by decide) rfl rfl (Nat.le_of_ble_eq_true rfl) (Nat.le_of_ble_eq_true rfl) (c_isNews_29 hT t6 (by omega)) ?_
        refine go_if_ne 18 dX6_left_13 (by decide) (fun h => absurd h (fun z => z (bI_0.mpr hin))) (fun h13 => ?_)
        refine go_iconst (-1) dX6_left_16 (by decide +kernel) ?_
        exact go_iret dX6_left_17 rfl rfl rfl
      · show Go O (d + 4) kX7_left _ _ 0 [.ref 46, .int (nI p), .int n] [] m
        refine go_aload_n dX7_left_0 rfl ?_
        refine go_iconst (nI 0) dX7_left_1 (by decide +kernel) ?_
        refine go_puti dX7_left_2 fX7_77 rfl (by decide) (by decide) (by decide) rfl (fun _ _ _ h => by cases h; rfl) (Or.inl rfl) ?_
        refine go_aload_n dX7_left_5 rfl ?_
        refine go_iload_n dX7_left_6 rfl ?_
        refine go_callV1 (K' := kX7_noOne) [_] dX7_left_7 mX7_150 lX7_noOne rfl (by decide) rfl (by decide) rfl rfl (Nat.le_of_ble_eq_true rfl) (Nat.le_of_ble_eq_true rfl) (c_noOne hP hP6) ?_
        refine go_if_ne 21 dX7_left_10 (by decide) (fun h => absurd h (fun z => z (bI_0.mpr (by rw [hip]; rfl)))) (fun h10 => ?_)
        refine go_aload_n dX7_left_13 rfl ?_
        refine go_iload_n dX7_left_14 rfl ?_
        refine go_callV1 (K' := kX7_noNews) [_] dX7_left_15 mX7_155 lX7_noNews rfl (by decide) rfl (by decide) rfl rfl (Nat.le_of_ble_eq_true rfl) (Nat.le_of_ble_eq_true rfl) (c_noNews hN (by omega)) ?_
        refine go_if_eq 23 dX7_left_18 (by decide) (fun h => absurd h (bI_n0.mpr (by rw [hin]; rfl))) (fun h18 => ?_)
        refine go_iconst (-1) dX7_left_21 (by decide +kernel) ?_
        exact go_iret dX7_left_22 rfl rfl rfl
    | true =>
      obtain ⟨n, hnN, rfl⟩ := iR_of hin
      obtain ⟨k, hk, ek⟩ := ok2 n (by omega)
      cases hkp : k.testBit p with
      | false =>
        refine ⟨-3, ?_, ?_⟩
        · show Go O (d + 4) kX6_left _ _ 0 [.ref 0, .int (nI p), .int (nI n)] [] m
          refine go_aload_n dX6_left_0 rfl ?_
          refine go_iload_n dX6_left_1 rfl ?_
          refine go_callV1 (K' := kX6_isPerson) [_] dX6_left_2 mX6_105 lX6_isPerson rfl (by decide) rfl (by decide) rfl rfl (Nat.le_of_ble_eq_true rfl) (Nat.le_of_ble_eq_true rfl) (c_isPerson_29 hT t5 hP6) ?_
          refine go_if_eq 16 dX6_left_5 (by decide) (fun h => absurd h (bI_n0.mpr hip)) (fun h5 => ?_)
          refine go_aload_n dX6_left_8 rfl ?_
          refine go_iload_n dX6_left_9 rfl ?_
          refine go_callV1 (K' := kX6_isNews) [_] dX6_left_10 mX6_116 lX6_isNews rfl (by decide) rfl (by decide) rfl rfl (Nat.le_of_ble_eq_true rfl) (Nat.le_of_ble_eq_true rfl) (c_isNews_29 hT t6 (by omega)) ?_
          refine go_if_ne 18 dX6_left_13 (by decide) (fun h13 => ?_) (fun h => absurd h (bI_n0.mpr hin))
          refine go_aload_n dX6_left_18 rfl ?_
          refine go_getc dX6_left_19 fX6_19 rfl (by decide) (by decide) (by decide) rfl ?_
          refine go_iload_n dX6_left_22 rfl ?_
          refine go_iload_n dX6_left_23 rfl ?_
          refine go_callV1 (K' := kX5_knows) [_, _] dX6_left_24 mX6_139 lX5_knows rfl (by decide) rfl (by decide) rfl rfl (Nat.le_of_ble_eq_true rfl) (Nat.le_of_ble_eq_true rfl) (c_knows_3 (by omega) (by omega) hk ((sk n (by omega)).trans ek)) ?_
          refine go_if_ne 33 dX6_left_27 (by decide) (fun h => absurd h (fun z => z (bI_0.mpr hkp))) (fun h27 => ?_)
          refine go_bipush (-3) dX6_left_30 (by decide +kernel) ?_
          exact go_iret dX6_left_32 rfl rfl rfl
        · show Go O (d + 4) kX7_left _ _ 0 [.ref 46, .int (nI p), .int (nI n)] [] m
          refine go_aload_n dX7_left_0 rfl ?_
          refine go_iconst (nI 0) dX7_left_1 (by decide +kernel) ?_
          refine go_puti dX7_left_2 fX7_77 rfl (by decide) (by decide) (by decide) rfl (fun _ _ _ h => by cases h; rfl) (Or.inl rfl) ?_
          refine go_aload_n dX7_left_5 rfl ?_
          refine go_iload_n dX7_left_6 rfl ?_
          refine go_callV1 (K' := kX7_noOne) [_] dX7_left_7 mX7_150 lX7_noOne rfl (by decide) rfl (by decide) rfl rfl (Nat.le_of_ble_eq_true rfl) (Nat.le_of_ble_eq_true rfl) (c_noOne hP hP6) ?_
          refine go_if_ne 21 dX7_left_10 (by decide) (fun h => absurd h (fun z => z (bI_0.mpr (by rw [hip]; rfl)))) (fun h10 => ?_)
          refine go_aload_n dX7_left_13 rfl ?_
          refine go_iload_n dX7_left_14 rfl ?_
          refine go_callV1 (K' := kX7_noNews) [_] dX7_left_15 mX7_155 lX7_noNews rfl (by decide) rfl (by decide) rfl rfl (Nat.le_of_ble_eq_true rfl) (Nat.le_of_ble_eq_true rfl) (c_noNews hN (by omega)) ?_
          refine go_if_eq 23 dX7_left_18 (by decide) (fun h18 => ?_) (fun h => absurd (bI_0.mpr (by rw [hin]; rfl)) h)
          refine go_aload_n dX7_left_23 rfl ?_
          refine go_getc dX7_left_24 fX7_25 rfl (by decide) (by decide) (by decide) rfl ?_
          refine go_iconst (nI 3) dX7_left_27 (by decide +kernel) ?_
          refine go_iload_n dX7_left_28 rfl ?_
          first | refine go_iadd_n dX7_left_29 ?_ | refine go_iadd dX7_left_29 rfl ?_
          refine go_iald dX7_left_30 rfl (by decide) rfl (by omega) (by decide) ek ?_
          refine go_iload_n dX7_left_31 rfl ?_
          refine go_callS1 (K' := kX7_has) [_, _] dX7_left_32 mX7_109 lX7_has rfl rfl (Nat.le_of_ble_eq_true rfl) (Nat.le_of_ble_eq_true rfl) (c_has (by omega) (by omega)) ?_
          refine go_if_eq 62 dX7_left_35 (by decide) (fun h35 => ?_) (fun h => absurd (bI_0.mpr hkp) h)
          refine go_bipush (-3) dX7_left_62 (by decide +kernel) ?_
          exact go_iret dX7_left_64 rfl rfl rfl
      | true =>
        refine ⟨m.1 49 n - m.1 52 (24 + 6 * n + p), ?_, ?_⟩
        · show Go O (d + 4) kX6_left _ _ 0 [.ref 0, .int (nI p), .int (nI n)] [] m
          refine go_aload_n dX6_left_0 rfl ?_
          refine go_iload_n dX6_left_1 rfl ?_
          refine go_callV1 (K' := kX6_isPerson) [_] dX6_left_2 mX6_105 lX6_isPerson rfl (by decide) rfl (by decide) rfl rfl (Nat.le_of_ble_eq_true rfl) (Nat.le_of_ble_eq_true rfl) (c_isPerson_29 hT t5 hP6) ?_
          refine go_if_eq 16 dX6_left_5 (by decide) (fun h => absurd h (bI_n0.mpr hip)) (fun h5 => ?_)
          refine go_aload_n dX6_left_8 rfl ?_
          refine go_iload_n dX6_left_9 rfl ?_
          refine go_callV1 (K' := kX6_isNews) [_] dX6_left_10 mX6_116 lX6_isNews rfl (by decide) rfl (by decide) rfl rfl (Nat.le_of_ble_eq_true rfl) (Nat.le_of_ble_eq_true rfl) (c_isNews_29 hT t6 (by omega)) ?_
          refine go_if_ne 18 dX6_left_13 (by decide) (fun h13 => ?_) (fun h => absurd h (bI_n0.mpr hin))
          refine go_aload_n dX6_left_18 rfl ?_
          refine go_getc dX6_left_19 fX6_19 rfl (by decide) (by decide) (by decide) rfl ?_
          refine go_iload_n dX6_left_22 rfl ?_
          refine go_iload_n dX6_left_23 rfl ?_
          refine go_callV1 (K' := kX5_knows) [_, _] dX6_left_24 mX6_139 lX5_knows rfl (by decide) rfl (by decide) rfl rfl (Nat.le_of_ble_eq_true rfl) (Nat.le_of_ble_eq_true rfl) (c_knows_3 (by omega) (by omega) hk ((sk n (by omega)).trans ek)) ?_
          refine go_if_ne 33 dX6_left_27 (by decide) (fun h27 => ?_) (fun h => absurd h (bI_n0.mpr hkp))
          refine go_aload_n dX6_left_33 rfl ?_
          refine go_getm dX6_left_34 fX6_47 rfl (by decide) (by decide) (by decide) rfl hT ?_
          refine go_getc dX6_left_37 fX6_119 rfl (by decide) (by decide) (by decide) rfl ?_
          refine go_iload_n dX6_left_40 rfl ?_
          refine go_iald dX6_left_41 rfl (by decide) rfl (by omega) (by decide) (tn n hnN).1 ?_
          refine go_aload_n dX6_left_42 rfl ?_
          refine go_getc dX6_left_43 fX6_19 rfl (by decide) (by decide) (by decide) rfl ?_
          refine go_getc dX6_left_46 fX6_143 rfl (by decide) (by decide) (by decide) rfl ?_
          refine go_iload_n dX6_left_49 rfl ?_
          refine go_iconst (nI 3) dX6_left_50 (by decide +kernel) ?_
          first | refine go_imul_n dX6_left_51 ?_ | refine go_imul dX6_left_51 rfl ?_
          refine go_iload_n dX6_left_52 rfl ?_
          first | refine go_iadd_n dX6_left_53 ?_ | refine go_iadd dX6_left_53 rfl ?_
          refine go_iald dX6_left_54 rfl (by decide) rfl (by omega) (by decide) (sa p n (by omega) (by omega)) ?_
          refine go_isub dX6_left_55 rfl ?_
          exact go_iret dX6_left_56 rfl rfl rfl
        · show Go O (d + 4) kX7_left _ _ 0 [.ref 46, .int (nI p), .int (nI n)] [] m
          refine go_aload_n dX7_left_0 rfl ?_
          refine go_iconst (nI 0) dX7_left_1 (by decide +kernel) ?_
          refine go_puti dX7_left_2 fX7_77 rfl (by decide) (by decide) (by decide) rfl (fun _ _ _ h => by cases h; rfl) (Or.inl rfl) ?_
          refine go_aload_n dX7_left_5 rfl ?_
          refine go_iload_n dX7_left_6 rfl ?_
          refine go_callV1 (K' := kX7_noOne) [_] dX7_left_7 mX7_150 lX7_noOne rfl (by decide) rfl (by decide) rfl rfl (Nat.le_of_ble_eq_true rfl) (Nat.le_of_ble_eq_true rfl) (c_noOne hP hP6) ?_
          refine go_if_ne 21 dX7_left_10 (by decide) (fun h => absurd h (fun z => z (bI_0.mpr (by rw [hip]; rfl)))) (fun h10 => ?_)
          refine go_aload_n dX7_left_13 rfl ?_
          refine go_iload_n dX7_left_14 rfl ?_
          refine go_callV1 (K' := kX7_noNews) [_] dX7_left_15 mX7_155 lX7_noNews rfl (by decide) rfl (by decide) rfl rfl (Nat.le_of_ble_eq_true rfl) (Nat.le_of_ble_eq_true rfl) (c_noNews hN (by omega)) ?_
          refine go_if_eq 23 dX7_left_18 (by decide) (fun h18 => ?_) (fun h => absurd (bI_0.mpr (by rw [hin]; rfl)) h)
          refine go_aload_n dX7_left_23 rfl ?_
          refine go_getc dX7_left_24 fX7_25 rfl (by decide) (by decide) (by decide) rfl ?_
          refine go_iconst (nI 3) dX7_left_27 (by decide +kernel) ?_
          refine go_iload_n dX7_left_28 rfl ?_
          first | refine go_iadd_n dX7_left_29 ?_ | refine go_iadd dX7_left_29 rfl ?_
          refine go_iald dX7_left_30 rfl (by decide) rfl (by omega) (by decide) ek ?_
          refine go_iload_n dX7_left_31 rfl ?_
          refine go_callS1 (K' := kX7_has) [_, _] dX7_left_32 mX7_109 lX7_has rfl rfl (Nat.le_of_ble_eq_true rfl) (Nat.le_of_ble_eq_true rfl) (c_has (by omega) (by omega)) ?_
          refine go_if_eq 62 dX7_left_35 (by decide) (fun h => absurd h (bI_n0.mpr hkp)) (fun h35 => ?_)
          refine go_aload_n dX7_left_38 rfl ?_
          refine go_getc dX7_left_39 fX7_16 rfl (by decide) (by decide) (by decide) rfl ?_
          refine go_iload_n dX7_left_42 rfl ?_
          refine go_iald dX7_left_43 rfl (by decide) rfl (by omega) (by decide) rfl ?_
          refine go_aload_n dX7_left_44 rfl ?_
          refine go_getc dX7_left_45 fX7_25 rfl (by decide) (by decide) (by decide) rfl ?_
          refine go_bipush (nI 24) dX7_left_48 (by decide +kernel) ?_
          refine go_bipush (nI 6) dX7_left_50 (by decide +kernel) ?_
          refine go_iload_n dX7_left_52 rfl ?_
          first | refine go_imul_n dX7_left_53 ?_ | refine go_imul dX7_left_53 rfl ?_
          first | refine go_iadd_n dX7_left_54 ?_ | refine go_iadd dX7_left_54 rfl ?_
          refine go_iload_n dX7_left_55 rfl ?_
          first | refine go_iadd_n dX7_left_56 ?_ | refine go_iadd dX7_left_56 rfl ?_
          refine go_iald dX7_left_57 rfl (by decide) rfl (by omega) (by decide) rfl ?_
          refine go_isub dX7_left_58 rfl ?_
          refine go_goto 64 dX7_left_59 (by decide) ?_
          exact go_iret dX7_left_64 rfl rfl rfl
theorem op_may_29 {O : gOm} {d : Nat} {m : gMem} {P N lw hr : Nat} {lim : Nat → Nat} {p n : Int32} (hT : m.2 0 = 29) (hd : IvD m P N lw lim) (ht : IvT m 29 P N lw) (hp : IvP m N lim hr) : ∃ r, Ca O (d + 4) kX6_may [.ref 0, .int p, .int n] (some (.int r)) m m ∧ Ca O (d + 4) kX7_may [.ref 46, .int p, .int n] (some (.int r)) m (gup m 46 0 (nI 0)) := by
  obtain ⟨hP, hP6, hN, hN3, hlw, hl3, hw, hlim, hfs⟩ := hd
  obtain ⟨t5, t6, t7, tp, tg, tn⟩ := ht
  obtain ⟨⟨s4, sk, st, sa, spl⟩, h11, ok1, ok2, ok3, ok4, ok5⟩ := hp
  cases hip : iR p P with
  | false =>
    refine ⟨-1, ?_, ?_⟩
    · show Go O (d + 4) kX6_may _ _ 0 [.ref 0, .int p, .int n] [] m
      refine go_aload_n dX6_may_0 rfl ?_
      refine go_iload_n dX6_may_1 rfl ?_
      refine go_callV1 (K' := kX6_isPerson) [_] dX6_may_2 mX6_105 lX6_isPerson rfl (by decide) rfl (by decide) rfl rfl (Nat.le_of_ble_eq_true rfl) (Nat.le_of_ble_eq_true rfl) (c_isPerson_29 hT t5 hP6) ?_
      refine go_if_eq 16 dX6_may_5 (by decide) (fun h5 => ?_) (fun h => absurd (bI_0.mpr hip) h)
      refine go_iconst (-1) dX6_may_16 (by decide +kernel) ?_
      exact go_iret dX6_may_17 rfl rfl rfl
    · show Go O (d + 4) kX7_may _ _ 0 [.ref 46, .int p, .int n] [] m
      refine go_aload_n dX7_may_0 rfl ?_
      refine go_iconst (nI 0) dX7_may_1 (by decide +kernel) ?_
      refine go_puti dX7_may_2 fX7_77 rfl (by decide) (by decide) (by decide) rfl (fun _ _ _ h => by cases h; rfl) (Or.inl rfl) ?_
      refine go_aload_n dX7_may_5 rfl ?_
      refine go_iload_n dX7_may_6 rfl ?_
      refine go_callV1 (K' := kX7_noOne) [_] dX7_may_7 mX7_150 lX7_noOne rfl (by decide) rfl (by decide) rfl rfl (Nat.le_of_ble_eq_true rfl) (Nat.le_of_ble_eq_true rfl) (c_noOne hP hP6) ?_
      refine go_if_ne 21 dX7_may_10 (by decide) (fun h10 => ?_) (fun h => absurd h (bI_n0.mpr (by rw [hip]; rfl)))
      refine go_iconst (-1) dX7_may_21 (by decide +kernel) ?_
      refine go_goto 47 dX7_may_22 (by decide) ?_
      exact go_iret dX7_may_47 rfl rfl rfl
  | true =>
    obtain ⟨p, hpP, rfl⟩ := iR_of hip
    cases hin : iR n N with
    | false =>
      refine ⟨-1, ?_, ?_⟩
      · show Go O (d + 4) kX6_may _ _ 0 [.ref 0, .int (nI p), .int n] [] m
        refine go_aload_n dX6_may_0 rfl ?_
        refine go_iload_n dX6_may_1 rfl ?_
        refine go_callV1 (K' := kX6_isPerson) [_] dX6_may_2 mX6_105 lX6_isPerson rfl (by decide) rfl (by decide) rfl rfl (Nat.le_of_ble_eq_true rfl) (Nat.le_of_ble_eq_true rfl) (c_isPerson_29 hT t5 hP6) ?_
        refine go_if_eq 16 dX6_may_5 (by decide) (fun h => absurd h (bI_n0.mpr hip)) (fun h5 => ?_)
        refine go_aload_n dX6_may_8 rfl ?_
        refine go_iload_n dX6_may_9 rfl ?_
        refine go_callV1 (K' := kX6_isNews) [_] dX6_may_10 mX6_116 lX6_isNews rfl (by decide) rfl (by decide) rfl rfl (Nat.le_of_ble_eq_true rfl) (Nat.le_of_ble_eq_true rfl) (c_isNews_29 hT t6 (by omega)) ?_
        refine go_if_ne 18 dX6_may_13 (by decide) (fun h => absurd h (fun z => z (bI_0.mpr hin))) (fun h13 => ?_)
        refine go_iconst (-1) dX6_may_16 (by decide +kernel) ?_
        exact go_iret dX6_may_17 rfl rfl rfl
      · show Go O (d + 4) kX7_may _ _ 0 [.ref 46, .int (nI p), .int n] [] m
        refine go_aload_n dX7_may_0 rfl ?_
        refine go_iconst (nI 0) dX7_may_1 (by decide +kernel) ?_
        refine go_puti dX7_may_2 fX7_77 rfl (by decide) (by decide) (by decide) rfl (fun _ _ _ h => by cases h; rfl) (Or.inl rfl) ?_
        refine go_aload_n dX7_may_5 rfl ?_
        refine go_iload_n dX7_may_6 rfl ?_
        refine go_callV1 (K' := kX7_noOne) [_] dX7_may_7 mX7_150 lX7_noOne rfl (by decide) rfl (by decide) rfl rfl (Nat.le_of_ble_eq_true rfl) (Nat.le_of_ble_eq_true rfl) (c_noOne hP hP6) ?_
        refine go_if_ne 21 dX7_may_10 (by decide) (fun h => absurd h (fun z => z (bI_0.mpr (by rw [hip]; rfl)))) (fun h10 => ?_)
        refine go_aload_n dX7_may_13 rfl ?_
        refine go_iload_n dX7_may_14 rfl ?_
        refine go_callV1 (K' := kX7_noNews) [_] dX7_may_15 mX7_155 lX7_noNews rfl (by decide) rfl (by decide) rfl rfl (Nat.le_of_ble_eq_true rfl) (Nat.le_of_ble_eq_true rfl) (c_noNews hN (by omega)) ?_
        refine go_if_eq 25 dX7_may_18 (by decide) (fun h => absurd h (bI_n0.mpr (by rw [hin]; rfl))) (fun h18 => ?_)
        refine go_iconst (-1) dX7_may_21 (by decide +kernel) ?_
        refine go_goto 47 dX7_may_22 (by decide) ?_
        exact go_iret dX7_may_47 rfl rfl rfl
    | true =>
      obtain ⟨n, hnN, rfl⟩ := iR_of hin
      obtain ⟨k, hk, ek⟩ := ok2 n (by omega)
      obtain ⟨av, eav, hav⟩ := hw p hr hpP ok1
      have hG : gOf (grp (m.1 48) P hr) av < 64 := by
        cases av with
        | none => exact (by decide : (0 : Nat) < 64)
        | some a => exact grp_64 _ _ _ hP6
      generalize hB : mT (k.testBit p) (gOf (grp (m.1 48) P hr) av) (m.1 52 n) (m.1 49 n) lw (m.1 52 (6 + 6 * n + p)) (plOf (m.1 52) n av) = B
      have cX : Ca O (d + 3) kX5_allows [.ref 3, .ref 29, .int (nI p), .int (nI n)] (some (.int (bI B))) m m := by
        rw [← hB]
        exact c_allows_3_29 (P := P) s4 ok1 (by omega) (by omega) hk ((sk n (by omega)).trans ek) ((tp p hr hpP ok1).trans eav) (fun a ha => ⟨hav a ha, by rw [ha]; exact tg hr a ok1 (hav a ha), by rw [ha]; exact spl n a (by omega) (hav a ha)⟩) (fun e => by rw [e]; rfl) hG (by rw [spl n 0 (by omega) (by omega), spl n 1 (by omega) (by omega), spl n 2 (by omega) (by omega)]; exact ok3 n (by omega)) (tn n hnN).1 (st p n (by omega) (by omega)) t7 hl3
      have cM : Ca O (d + 3) kX7_mayTell [.ref 46, .ref 52, .int (nI hr), .int (nI p), .int (nI n)] (some (.int (bI B))) (gup m 46 0 (nI 0)) (gup m 46 0 (nI 0)) := by
        rw [← hB]
        exact c_mayTell_52 (m := gup m 46 0 (nI 0)) hP hP6 ok1 hpP (by omega) ek hk eav hav hlw hl3
      cases B with
      | false =>
        refine ⟨nI 0, ?_, ?_⟩
        · show Go O (d + 4) kX6_may _ _ 0 [.ref 0, .int (nI p), .int (nI n)] [] m
          refine go_aload_n dX6_may_0 rfl ?_
          refine go_iload_n dX6_may_1 rfl ?_
          refine go_callV1 (K' := kX6_isPerson) [_] dX6_may_2 mX6_105 lX6_isPerson rfl (by decide) rfl (by decide) rfl rfl (Nat.le_of_ble_eq_true rfl) (Nat.le_of_ble_eq_true rfl) (c_isPerson_29 hT t5 hP6) ?_
          refine go_if_eq 16 dX6_may_5 (by decide) (fun h => absurd h (bI_n0.mpr hip)) (fun h5 => ?_)
          refine go_aload_n dX6_may_8 rfl ?_
          refine go_iload_n dX6_may_9 rfl ?_
          refine go_callV1 (K' := kX6_isNews) [_] dX6_may_10 mX6_116 lX6_isNews rfl (by decide) rfl (by decide) rfl rfl (Nat.le_of_ble_eq_true rfl) (Nat.le_of_ble_eq_true rfl) (c_isNews_29 hT t6 (by omega)) ?_
          refine go_if_ne 18 dX6_may_13 (by decide) (fun h13 => ?_) (fun h => absurd h (bI_n0.mpr hin))
          refine go_aload_n dX6_may_18 rfl ?_
          refine go_getc dX6_may_19 fX6_19 rfl (by decide) (by decide) (by decide) rfl ?_
          refine go_aload_n dX6_may_22 rfl ?_
          refine go_getm dX6_may_23 fX6_47 rfl (by decide) (by decide) (by decide) rfl hT ?_
          refine go_iload_n dX6_may_26 rfl ?_
          refine go_iload_n dX6_may_27 rfl ?_
          refine go_callV1 (K' := kX5_allows) [_, _, _] dX6_may_28 mX6_146 lX5_allows rfl (by decide) rfl (by decide) rfl rfl (Nat.le_of_ble_eq_true rfl) (Nat.le_of_ble_eq_true rfl) (cX) ?_
          refine go_if_eq 38 dX6_may_31 (by decide) (fun h31 => ?_) (fun h => absurd (rfl) h)
          refine go_iconst (nI 0) dX6_may_38 (by decide +kernel) ?_
          exact go_iret dX6_may_39 rfl rfl rfl
        · show Go O (d + 4) kX7_may _ _ 0 [.ref 46, .int (nI p), .int (nI n)] [] m
          refine go_aload_n dX7_may_0 rfl ?_
          refine go_iconst (nI 0) dX7_may_1 (by decide +kernel) ?_
          refine go_puti dX7_may_2 fX7_77 rfl (by decide) (by decide) (by decide) rfl (fun _ _ _ h => by cases h; rfl) (Or.inl rfl) ?_
          refine go_aload_n dX7_may_5 rfl ?_
          refine go_iload_n dX7_may_6 rfl ?_
          refine go_callV1 (K' := kX7_noOne) [_] dX7_may_7 mX7_150 lX7_noOne rfl (by decide) rfl (by decide) rfl rfl (Nat.le_of_ble_eq_true rfl) (Nat.le_of_ble_eq_true rfl) (c_noOne hP hP6) ?_
          refine go_if_ne 21 dX7_may_10 (by decide) (fun h => absurd h (fun z => z (bI_0.mpr (by rw [hip]; rfl)))) (fun h10 => ?_)
          refine go_aload_n dX7_may_13 rfl ?_
          refine go_iload_n dX7_may_14 rfl ?_
          refine go_callV1 (K' := kX7_noNews) [_] dX7_may_15 mX7_155 lX7_noNews rfl (by decide) rfl (by decide) rfl rfl (Nat.le_of_ble_eq_true rfl) (Nat.le_of_ble_eq_true rfl) (c_noNews hN (by omega)) ?_
          refine go_if_eq 25 dX7_may_18 (by decide) (fun h18 => ?_) (fun h => absurd (bI_0.mpr (by rw [hin]; rfl)) h)
          refine go_aload_n dX7_may_25 rfl ?_
          refine go_aload_n dX7_may_26 rfl ?_
          refine go_getc dX7_may_27 fX7_25 rfl (by decide) (by decide) (by decide) rfl ?_
          refine go_aload_n dX7_may_30 rfl ?_
          refine go_geti dX7_may_31 fX7_137 rfl (by decide) (by decide) (by decide) rfl h11 ?_
          refine go_iload_n dX7_may_34 rfl ?_
          refine go_iload_n dX7_may_35 rfl ?_
          refine go_callV1 (K' := kX7_mayTell) [_, _, _, _] dX7_may_36 mX7_161 lX7_mayTell rfl (by decide) rfl (by decide) rfl rfl (Nat.le_of_ble_eq_true rfl) (Nat.le_of_ble_eq_true rfl) (cM) ?_
          refine go_if_eq 46 dX7_may_39 (by decide) (fun h39 => ?_) (fun h => absurd (rfl) h)
          refine go_iconst (nI 0) dX7_may_46 (by decide +kernel) ?_
          exact go_iret dX7_may_47 rfl rfl rfl
      | true =>
        refine ⟨nI 1, ?_, ?_⟩
        · show Go O (d + 4) kX6_may _ _ 0 [.ref 0, .int (nI p), .int (nI n)] [] m
          refine go_aload_n dX6_may_0 rfl ?_
          refine go_iload_n dX6_may_1 rfl ?_
          refine go_callV1 (K' := kX6_isPerson) [_] dX6_may_2 mX6_105 lX6_isPerson rfl (by decide) rfl (by decide) rfl rfl (Nat.le_of_ble_eq_true rfl) (Nat.le_of_ble_eq_true rfl) (c_isPerson_29 hT t5 hP6) ?_
          refine go_if_eq 16 dX6_may_5 (by decide) (fun h => absurd h (bI_n0.mpr hip)) (fun h5 => ?_)
          refine go_aload_n dX6_may_8 rfl ?_
          refine go_iload_n dX6_may_9 rfl ?_
          refine go_callV1 (K' := kX6_isNews) [_] dX6_may_10 mX6_116 lX6_isNews rfl (by decide) rfl (by decide) rfl rfl (Nat.le_of_ble_eq_true rfl) (Nat.le_of_ble_eq_true rfl) (c_isNews_29 hT t6 (by omega)) ?_
          refine go_if_ne 18 dX6_may_13 (by decide) (fun h13 => ?_) (fun h => absurd h (bI_n0.mpr hin))
          refine go_aload_n dX6_may_18 rfl ?_
          refine go_getc dX6_may_19 fX6_19 rfl (by decide) (by decide) (by decide) rfl ?_
          refine go_aload_n dX6_may_22 rfl ?_
          refine go_getm dX6_may_23 fX6_47 rfl (by decide) (by decide) (by decide) rfl hT ?_
          refine go_iload_n dX6_may_26 rfl ?_
          refine go_iload_n dX6_may_27 rfl ?_
          refine go_callV1 (K' := kX5_allows) [_, _, _] dX6_may_28 mX6_146 lX5_allows rfl (by decide) rfl (by decide) rfl rfl (Nat.le_of_ble_eq_true rfl) (Nat.le_of_ble_eq_true rfl) (cX) ?_
          refine go_if_eq 38 dX6_may_31 (by decide) (fun h => absurd h (by decide +kernel)) (fun h31 => ?_)
          refine go_iconst (nI 1) dX6_may_34 (by decide +kernel) ?_
          refine go_goto 39 dX6_may_35 (by decide) ?_
          exact go_iret dX6_may_39 rfl rfl rfl
        · show Go O (d + 4) kX7_may _ _ 0 [.ref 46, .int (nI p), .int (nI n)] [] m
          refine go_aload_n dX7_may_0 rfl ?_
          refine go_iconst (nI 0) dX7_may_1 (by decide +kernel) ?_
          refine go_puti dX7_may_2 fX7_77 rfl (by decide) (by decide) (by decide) rfl (fun _ _ _ h => by cases h; rfl) (Or.inl rfl) ?_
          refine go_aload_n dX7_may_5 rfl ?_
          refine go_iload_n dX7_may_6 rfl ?_
          refine go_callV1 (K' := kX7_noOne) [_] dX7_may_7 mX7_150 lX7_noOne rfl (by decide) rfl (by decide) rfl rfl (Nat.le_of_ble_eq_true rfl) (Nat.le_of_ble_eq_true rfl) (c_noOne hP hP6) ?_
          refine go_if_ne 21 dX7_may_10 (by decide) (fun h => absurd h (fun z => z (bI_0.mpr (by rw [hip]; rfl)))) (fun h10 => ?_)
          refine go_aload_n dX7_may_13 rfl ?_
          refine go_iload_n dX7_may_14 rfl ?_
          refine go_callV1 (K' := kX7_noNews) [_] dX7_may_15 mX7_155 lX7_noNews rfl (by decide) rfl (by decide) rfl rfl (Nat.le_of_ble_eq_true rfl) (Nat.le_of_ble_eq_true rfl) (c_noNews hN (by omega)) ?_
          refine go_if_eq 25 dX7_may_18 (by decide) (fun h18 => ?_) (fun h => absurd (bI_0.mpr (by rw [hin]; rfl)) h)
          refine go_aload_n dX7_may_25 rfl ?_
          refine go_aload_n dX7_may_26 rfl ?_
          refine go_getc dX7_may_27 fX7_25 rfl (by decide) (by decide) (by decide) rfl ?_
          refine go_aload_n dX7_may_30 rfl ?_
          refine go_geti dX7_may_31 fX7_137 rfl (by decide) (by decide) (by decide) rfl h11 ?_
          refine go_iload_n dX7_may_34 rfl ?_
          refine go_iload_n dX7_may_35 rfl ?_
          refine go_callV1 (K' := kX7_mayTell) [_, _, _, _] dX7_may_36 mX7_161 lX7_mayTell rfl (by decide) rfl (by decide) rfl rfl (Nat.le_of_ble_eq_true rfl) (Nat.le_of_ble_eq_true rfl) (cM) ?_
          refine go_if_eq 46 dX7_may_39 (by decide) (fun h => absurd h (by decide +kernel)) (fun h39 => ?_)
          refine go_iconst (nI 1) dX7_may_42 (by decide +kernel) ?_
          refine go_goto 47 dX7_may_43 (by decide) ?_
          exact go_iret dX7_may_47 rfl rfl rfl
theorem op_where_35 {O : gOm} {d : Nat} {m : gMem} {P N lw hr : Nat} {lim : Nat → Nat} {p h : Int32} (hT : m.2 0 = 35) (hd : IvD m P N lw lim) (ht : IvT m 35 P N lw) (hp : IvP m N lim hr) : ∃ r, Ca O (d + 4) kX6_where [.ref 0, .int p, .int h] (some (.int r)) m m ∧ Ca O (d + 4) kX7_where [.ref 46, .int p, .int h] (some (.int r)) m (gup m 46 0 (nI 0)) := by
  obtain ⟨hP, hP6, hN, hN3, hlw, hl3, hw, hlim, hfs⟩ := hd
  obtain ⟨t5, t6, t7, tp, tg, tn⟩ := ht
  obtain ⟨⟨s4, sk, st, sa, spl⟩, h11, ok1, ok2, ok3, ok4, ok5⟩ := hp
  cases hip : iR p P with
  | false =>
    refine ⟨-1, ?_, ?_⟩
    · show Go O (d + 4) kX6_where _ _ 0 [.ref 0, .int p, .int h] [] m
      refine go_aload_n dX6_where_0 rfl ?_
      refine go_iload_n dX6_where_1 rfl ?_
      refine go_callV1 (K' := kX6_isPerson) [_] dX6_where_2 mX6_105 lX6_isPerson rfl (by decide) rfl (by decide) rfl rfl (Nat.le_of_ble_eq_true rfl) (Nat.le_of_ble_eq_true rfl) (c_isPerson_35 hT t5 hP6) ?_
      refine go_if_ne 10 dX6_where_5 (by decide) (fun h => absurd h (fun z => z (bI_0.mpr hip))) (fun h5 => ?_)
      refine go_iconst (-1) dX6_where_8 (by decide +kernel) ?_
      exact go_iret dX6_where_9 rfl rfl rfl
    · show Go O (d + 4) kX7_where _ _ 0 [.ref 46, .int p, .int h] [] m
      refine go_aload_n dX7_where_0 rfl ?_
      refine go_iconst (nI 0) dX7_where_1 (by decide +kernel) ?_
      refine go_puti dX7_where_2 fX7_77 rfl (by decide) (by decide) (by decide) rfl (fun _ _ _ h => by cases h; rfl) (Or.inl rfl) ?_
      refine go_aload_n dX7_where_5 rfl ?_
      refine go_iload_n dX7_where_6 rfl ?_
      refine go_callV1 (K' := kX7_noOne) [_] dX7_where_7 mX7_150 lX7_noOne rfl (by decide) rfl (by decide) rfl rfl (Nat.le_of_ble_eq_true rfl) (Nat.le_of_ble_eq_true rfl) (c_noOne hP hP6) ?_
      refine go_if_eq 15 dX7_where_10 (by decide) (fun h => absurd h (bI_n0.mpr (by rw [hip]; rfl))) (fun h10 => ?_)
      refine go_iconst (-1) dX7_where_13 (by decide +kernel) ?_
      exact go_iret dX7_where_14 rfl rfl rfl
  | true =>
    obtain ⟨p, hpP, rfl⟩ := iR_of hip
    cases hih : iR h 6 with
    | false =>
      refine ⟨-2, ?_, ?_⟩
      · show Go O (d + 4) kX6_where _ _ 0 [.ref 0, .int (nI p), .int h] [] m
        refine go_aload_n dX6_where_0 rfl ?_
        refine go_iload_n dX6_where_1 rfl ?_
        refine go_callV1 (K' := kX6_isPerson) [_] dX6_where_2 mX6_105 lX6_isPerson rfl (by decide) rfl (by decide) rfl rfl (Nat.le_of_ble_eq_true rfl) (Nat.le_of_ble_eq_true rfl) (c_isPerson_35 hT t5 hP6) ?_
        refine go_if_ne 10 dX6_where_5 (by decide) (fun h5 => ?_) (fun h => absurd h (bI_n0.mpr hip))
        refine go_iload_n dX6_where_10 rfl ?_
        refine go_callS1 (K' := kX6_isHour) [_] dX6_where_11 mX6_109 lX6_isHour rfl rfl (Nat.le_of_ble_eq_true rfl) (Nat.le_of_ble_eq_true rfl) (c_isHour) ?_
        refine go_if_eq 29 dX6_where_14 (by decide) (fun h14 => ?_) (fun h => absurd (bI_0.mpr hih) h)
        refine go_bipush (-2) dX6_where_29 (by decide +kernel) ?_
        exact go_iret dX6_where_31 rfl rfl rfl
      · show Go O (d + 4) kX7_where _ _ 0 [.ref 46, .int (nI p), .int h] [] m
        refine go_aload_n dX7_where_0 rfl ?_
        refine go_iconst (nI 0) dX7_where_1 (by decide +kernel) ?_
        refine go_puti dX7_where_2 fX7_77 rfl (by decide) (by decide) (by decide) rfl (fun _ _ _ h => by cases h; rfl) (Or.inl rfl) ?_
        refine go_aload_n dX7_where_5 rfl ?_
        refine go_iload_n dX7_where_6 rfl ?_
        refine go_callV1 (K' := kX7_noOne) [_] dX7_where_7 mX7_150 lX7_noOne rfl (by decide) rfl (by decide) rfl rfl (Nat.le_of_ble_eq_true rfl) (Nat.le_of_ble_eq_true rfl) (c_noOne hP hP6) ?_
        refine go_if_eq 15 dX7_where_10 (by decide) (fun h10 => ?_) (fun h => absurd (bI_0.mpr (by rw [hip]; rfl)) h)
        refine go_iload_n dX7_where_15 rfl ?_
        refine go_i2l dX7_where_16 rfl ?_
        refine go_lconst 0 dX7_where_17 (by decide +kernel) ?_
        refine go_ldc2 kcX7_153 dX7_where_18 ?_
        refine go_callS1 (K' := kX7_in) [_, _, _] dX7_where_21 mX7_84 lX7_in rfl rfl (Nat.le_of_ble_eq_true rfl) (Nat.le_of_ble_eq_true rfl) (c_in5) ?_
        refine go_if_eq 41 dX7_where_24 (by decide) (fun h24 => ?_) (fun h => absurd (bI_0.mpr hih) h)
        refine go_bipush (-2) dX7_where_41 (by decide +kernel) ?_
        exact go_iret dX7_where_43 rfl rfl rfl
    | true =>
      obtain ⟨h, hh, rfl⟩ := iR_of hih
      refine ⟨m.1 48 (6 * p + h), ?_, ?_⟩
      · show Go O (d + 4) kX6_where _ _ 0 [.ref 0, .int (nI p), .int (nI h)] [] m
        refine go_aload_n dX6_where_0 rfl ?_
        refine go_iload_n dX6_where_1 rfl ?_
        refine go_callV1 (K' := kX6_isPerson) [_] dX6_where_2 mX6_105 lX6_isPerson rfl (by decide) rfl (by decide) rfl rfl (Nat.le_of_ble_eq_true rfl) (Nat.le_of_ble_eq_true rfl) (c_isPerson_35 hT t5 hP6) ?_
        refine go_if_ne 10 dX6_where_5 (by decide) (fun h5 => ?_) (fun h => absurd h (bI_n0.mpr hip))
        refine go_iload_n dX6_where_10 rfl ?_
        refine go_callS1 (K' := kX6_isHour) [_] dX6_where_11 mX6_109 lX6_isHour rfl rfl (Nat.le_of_ble_eq_true rfl) (Nat.le_of_ble_eq_true rfl) (c_isHour) ?_
        refine go_if_eq 29 dX6_where_14 (by decide) (fun h => absurd h (bI_n0.mpr hih)) (fun h14 => ?_)
        refine go_aload_n dX6_where_17 rfl ?_
        refine go_getm dX6_where_18 fX6_47 rfl (by decide) (by decide) (by decide) rfl hT ?_
        refine go_iload_n dX6_where_21 rfl ?_
        refine go_iload_n dX6_where_22 rfl ?_
        refine go_callV1 (K' := kX1_placeOf) [_, _] dX6_where_23 mX6_112 lX1_placeOf rfl (by decide) rfl (by decide) rfl rfl (Nat.le_of_ble_eq_true rfl) (Nat.le_of_ble_eq_true rfl) (c_placeOf_35 (by omega) hh (tp p h hpP hh)) ?_
        refine go_goto 31 dX6_where_26 (by decide) ?_
        exact go_iret dX6_where_31 rfl rfl rfl
      · show Go O (d + 4) kX7_where _ _ 0 [.ref 46, .int (nI p), .int (nI h)] [] m
        refine go_aload_n dX7_where_0 rfl ?_
        refine go_iconst (nI 0) dX7_where_1 (by decide +kernel) ?_
        refine go_puti dX7_where_2 fX7_77 rfl (by decide) (by decide) (by decide) rfl (fun _ _ _ h => by cases h; rfl) (Or.inl rfl) ?_
        refine go_aload_n dX7_where_5 rfl ?_
        refine go_iload_n dX7_where_6 rfl ?_
        refine go_callV1 (K' := kX7_noOne) [_] dX7_where_7 mX7_150 lX7_noOne rfl (by decide) rfl (by decide) rfl rfl (Nat.le_of_ble_eq_true rfl) (Nat.le_of_ble_eq_true rfl) (c_noOne hP hP6) ?_
        refine go_if_eq 15 dX7_where_10 (by decide) (fun h10 => ?_) (fun h => absurd (bI_0.mpr (by rw [hip]; rfl)) h)
        refine go_iload_n dX7_where_15 rfl ?_
        refine go_i2l dX7_where_16 rfl ?_
        refine go_lconst 0 dX7_where_17 (by decide +kernel) ?_
        refine go_ldc2 kcX7_153 dX7_where_18 ?_
        refine go_callS1 (K' := kX7_in) [_, _, _] dX7_where_21 mX7_84 lX7_in rfl rfl (Nat.le_of_ble_eq_true rfl) (Nat.le_of_ble_eq_true rfl) (c_in5) ?_
        refine go_if_eq 41 dX7_where_24 (by decide) (fun h => absurd h (bI_n0.mpr hih)) (fun h24 => ?_)
        refine go_aload_n dX7_where_27 rfl ?_
        refine go_getc dX7_where_28 fX7_13 rfl (by decide) (by decide) (by decide) rfl ?_
        refine go_bipush (nI 6) dX7_where_31 (by decide +kernel) ?_
        refine go_iload_n dX7_where_33 rfl ?_
        first | refine go_imul_n dX7_where_34 ?_ | refine go_imul dX7_where_34 rfl ?_
        refine go_iload_n dX7_where_35 rfl ?_
        first | refine go_iadd_n dX7_where_36 ?_ | refine go_iadd dX7_where_36 rfl ?_
        refine go_iald dX7_where_37 rfl (by decide) rfl (by omega) (by decide) rfl ?_
        refine go_goto 43 dX7_where_38 (by decide) ?_
        exact go_iret dX7_where_43 rfl rfl rfl
theorem op_told_35 {O : gOm} {d : Nat} {m : gMem} {P N lw hr : Nat} {lim : Nat → Nat} {p n : Int32} (hT : m.2 0 = 35) (hd : IvD m P N lw lim) (ht : IvT m 35 P N lw) (hp : IvP m N lim hr) : ∃ r, Ca O (d + 4) kX6_told [.ref 0, .int p, .int n] (some (.int r)) m m ∧ Ca O (d + 4) kX7_told [.ref 46, .int p, .int n] (some (.int r)) m (gup m 46 0 (nI 0)) := by
  obtain ⟨hP, hP6, hN, hN3, hlw, hl3, hw, hlim, hfs⟩ := hd
  obtain ⟨t5, t6, t7, tp, tg, tn⟩ := ht
  obtain ⟨⟨s4, sk, st, sa, spl⟩, h11, ok1, ok2, ok3, ok4, ok5⟩ := hp
  cases hip : iR p P with
  | false =>
    refine ⟨-1, ?_, ?_⟩
    · show Go O (d + 4) kX6_told _ _ 0 [.ref 0, .int p, .int n] [] m
      refine go_aload_n dX6_told_0 rfl ?_
      refine go_iload_n dX6_told_1 rfl ?_
      refine go_callV1 (K' := kX6_isPerson) [_] dX6_told_2 mX6_105 lX6_isPerson rfl (by decide) rfl (by decide) rfl rfl (Nat.le_of_ble_eq_true rfl) (Nat.le_of_ble_eq_true rfl) (c_isPerson_35 hT t5 hP6) ?_
      refine go_if_eq 16 dX6_told_5 (by decide) (fun h5 => ?_) (fun h => absurd (bI_0.mpr hip) h)
      refine go_iconst (-1) dX6_told_16 (by decide +kernel) ?_
      exact go_iret dX6_told_17 rfl rfl rfl
    · show Go O (d + 4) kX7_told _ _ 0 [.ref 46, .int p, .int n] [] m
      refine go_aload_n dX7_told_0 rfl ?_
      refine go_iconst (nI 0) dX7_told_1 (by decide +kernel) ?_
      refine go_puti dX7_told_2 fX7_77 rfl (by decide) (by decide) (by decide) rfl (fun _ _ _ h => by cases h; rfl) (Or.inl rfl) ?_
      refine go_aload_n dX7_told_5 rfl ?_
      refine go_iload_n dX7_told_6 rfl ?_
      refine go_callV1 (K' := kX7_noOne) [_] dX7_told_7 mX7_150 lX7_noOne rfl (by decide) rfl (by decide) rfl rfl (Nat.le_of_ble_eq_true rfl) (Nat.le_of_ble_eq_true rfl) (c_noOne hP hP6) ?_
      refine go_if_ne 21 dX7_told_10 (by decide) (fun h10 => ?_) (fun h => absurd h (bI_n0.mpr (by rw [hip]; rfl)))
      refine go_iconst (-1) dX7_told_21 (by decide +kernel) ?_
      refine go_goto 39 dX7_told_22 (by decide) ?_
      exact go_iret dX7_told_39 rfl rfl rfl
  | true =>
    obtain ⟨p, hpP, rfl⟩ := iR_of hip
    cases hin : iR n N with
    | false =>
      refine ⟨-1, ?_, ?_⟩
      · show Go O (d + 4) kX6_told _ _ 0 [.ref 0, .int (nI p), .int n] [] m
        refine go_aload_n dX6_told_0 rfl ?_
        refine go_iload_n dX6_told_1 rfl ?_
        refine go_callV1 (K' := kX6_isPerson) [_] dX6_told_2 mX6_105 lX6_isPerson rfl (by decide) rfl (by decide) rfl rfl (Nat.le_of_ble_eq_true rfl) (Nat.le_of_ble_eq_true rfl) (c_isPerson_35 hT t5 hP6) ?_
        refine go_if_eq 16 dX6_told_5 (by decide) (fun h => absurd h (bI_n0.mpr hip)) (fun h5 => ?_)
        refine go_aload_n dX6_told_8 rfl ?_
        refine go_iload_n dX6_told_9 rfl ?_
        refine go_callV1 (K' := kX6_isNews) [_] dX6_told_10 mX6_116 lX6_isNews rfl (by decide) rfl (by decide) rfl rfl (Nat.le_of_ble_eq_true rfl) (Nat.le_of_ble_eq_true rfl) (c_isNews_35 hT t6 (by omega)) ?_
        refine go_if_ne 18 dX6_told_13 (by decide) (fun h => absurd h (fun z => z (bI_0.mpr hin))) (fun h13 => ?_)
        refine go_iconst (-1) dX6_told_16 (by decide +kernel) ?_
        exact go_iret dX6_told_17 rfl rfl rfl
      · show Go O (d + 4) kX7_told _ _ 0 [.ref 46, .int (nI p), .int n] [] m
        refine go_aload_n dX7_told_0 rfl ?_
        refine go_iconst (nI 0) dX7_told_1 (by decide +kernel) ?_
        refine go_puti dX7_told_2 fX7_77 rfl (by decide) (by decide) (by decide) rfl (fun _ _ _ h => by cases h; rfl) (Or.inl rfl) ?_
        refine go_aload_n dX7_told_5 rfl ?_
        refine go_iload_n dX7_told_6 rfl ?_
        refine go_callV1 (K' := kX7_noOne) [_] dX7_told_7 mX7_150 lX7_noOne rfl (by decide) rfl (by decide) rfl rfl (Nat.le_of_ble_eq_true rfl) (Nat.le_of_ble_eq_true rfl) (c_noOne hP hP6) ?_
        refine go_if_ne 21 dX7_told_10 (by decide) (fun h => absurd h (fun z => z (bI_0.mpr (by rw [hip]; rfl)))) (fun h10 => ?_)
        refine go_aload_n dX7_told_13 rfl ?_
        refine go_iload_n dX7_told_14 rfl ?_
        refine go_callV1 (K' := kX7_noNews) [_] dX7_told_15 mX7_155 lX7_noNews rfl (by decide) rfl (by decide) rfl rfl (Nat.le_of_ble_eq_true rfl) (Nat.le_of_ble_eq_true rfl) (c_noNews hN (by omega)) ?_
        refine go_if_eq 25 dX7_told_18 (by decide) (fun h => absurd h (bI_n0.mpr (by rw [hin]; rfl))) (fun h18 => ?_)
        refine go_iconst (-1) dX7_told_21 (by decide +kernel) ?_
        refine go_goto 39 dX7_told_22 (by decide) ?_
        exact go_iret dX7_told_39 rfl rfl rfl
    | true =>
      obtain ⟨n, hnN, rfl⟩ := iR_of hin
      refine ⟨m.1 52 (6 + 6 * n + p), ?_, ?_⟩
      · show Go O (d + 4) kX6_told _ _ 0 [.ref 0, .int (nI p), .int (nI n)] [] m
        refine go_aload_n dX6_told_0 rfl ?_
        refine go_iload_n dX6_told_1 rfl ?_
        refine go_callV1 (K' := kX6_isPerson) [_] dX6_told_2 mX6_105 lX6_isPerson rfl (by decide) rfl (by decide) rfl rfl (Nat.le_of_ble_eq_true rfl) (Nat.le_of_ble_eq_true rfl) (c_isPerson_35 hT t5 hP6) ?_
        refine go_if_eq 16 dX6_told_5 (by decide) (fun h => absurd h (bI_n0.mpr hip)) (fun h5 => ?_)
        refine go_aload_n dX6_told_8 rfl ?_
        refine go_iload_n dX6_told_9 rfl ?_
        refine go_callV1 (K' := kX6_isNews) [_] dX6_told_10 mX6_116 lX6_isNews rfl (by decide) rfl (by decide) rfl rfl (Nat.le_of_ble_eq_true rfl) (Nat.le_of_ble_eq_true rfl) (c_isNews_35 hT t6 (by omega)) ?_
        refine go_if_ne 18 dX6_told_13 (by decide) (fun h13 => ?_) (fun h => absurd h (bI_n0.mpr hin))
        refine go_aload_n dX6_told_18 rfl ?_
        refine go_getc dX6_told_19 fX6_19 rfl (by decide) (by decide) (by decide) rfl ?_
        refine go_getc dX6_told_22 fX6_136 rfl (by decide) (by decide) (by decide) rfl ?_
        refine go_iload_n dX6_told_25 rfl ?_
        refine go_iconst (nI 3) dX6_told_26 (by decide +kernel) ?_
        first | refine go_imul_n dX6_told_27 ?_ | refine go_imul dX6_told_27 rfl ?_
        refine go_iload_n dX6_told_28 rfl ?_
        first | refine go_iadd_n dX6_told_29 ?_ | refine go_iadd dX6_told_29 rfl ?_
        refine go_iald dX6_told_30 rfl (by decide) rfl (by omega) (by decide) (st p n (by omega) (by omega)) ?_
        exact go_iret dX6_told_31 rfl rfl rfl
      · show Go O (d + 4) kX7_told _ _ 0 [.ref 46, .int (nI p), .int (nI n)] [] m
        refine go_aload_n dX7_told_0 rfl ?_
        refine go_iconst (nI 0) dX7_told_1 (by decide +kernel) ?_
        refine go_puti dX7_told_2 fX7_77 rfl (by decide) (by decide) (by decide) rfl (fun _ _ _ h => by cases h; rfl) (Or.inl rfl) ?_
        refine go_aload_n dX7_told_5 rfl ?_
        refine go_iload_n dX7_told_6 rfl ?_
        refine go_callV1 (K' := kX7_noOne) [_] dX7_told_7 mX7_150 lX7_noOne rfl (by decide) rfl (by decide) rfl rfl (Nat.le_of_ble_eq_true rfl) (Nat.le_of_ble_eq_true rfl) (c_noOne hP hP6) ?_
        refine go_if_ne 21 dX7_told_10 (by decide) (fun h => absurd h (fun z => z (bI_0.mpr (by rw [hip]; rfl)))) (fun h10 => ?_)
        refine go_aload_n dX7_told_13 rfl ?_
        refine go_iload_n dX7_told_14 rfl ?_
        refine go_callV1 (K' := kX7_noNews) [_] dX7_told_15 mX7_155 lX7_noNews rfl (by decide) rfl (by decide) rfl rfl (Nat.le_of_ble_eq_true rfl) (Nat.le_of_ble_eq_true rfl) (c_noNews hN (by omega)) ?_
        refine go_if_eq 25 dX7_told_18 (by decide) (fun h18 => ?_) (fun h => absurd (bI_0.mpr (by rw [hin]; rfl)) h)
        refine go_aload_n dX7_told_25 rfl ?_
        refine go_getc dX7_told_26 fX7_25 rfl (by decide) (by decide) (by decide) rfl ?_
        refine go_bipush (nI 6) dX7_told_29 (by decide +kernel) ?_
        refine go_bipush (nI 6) dX7_told_31 (by decide +kernel) ?_
        refine go_iload_n dX7_told_33 rfl ?_
        first | refine go_imul_n dX7_told_34 ?_ | refine go_imul dX7_told_34 rfl ?_
        first | refine go_iadd_n dX7_told_35 ?_ | refine go_iadd dX7_told_35 rfl ?_
        refine go_iload_n dX7_told_36 rfl ?_
        first | refine go_iadd_n dX7_told_37 ?_ | refine go_iadd dX7_told_37 rfl ?_
        refine go_iald dX7_told_38 rfl (by decide) rfl (by omega) (by decide) rfl ?_
        exact go_iret dX7_told_39 rfl rfl rfl
theorem op_left_35 {O : gOm} {d : Nat} {m : gMem} {P N lw hr : Nat} {lim : Nat → Nat} {p n : Int32} (hT : m.2 0 = 35) (hd : IvD m P N lw lim) (ht : IvT m 35 P N lw) (hp : IvP m N lim hr) : ∃ r, Ca O (d + 4) kX6_left [.ref 0, .int p, .int n] (some (.int r)) m m ∧ Ca O (d + 4) kX7_left [.ref 46, .int p, .int n] (some (.int r)) m (gup m 46 0 (nI 0)) := by
  obtain ⟨hP, hP6, hN, hN3, hlw, hl3, hw, hlim, hfs⟩ := hd
  obtain ⟨t5, t6, t7, tp, tg, tn⟩ := ht
  obtain ⟨⟨s4, sk, st, sa, spl⟩, h11, ok1, ok2, ok3, ok4, ok5⟩ := hp
  cases hip : iR p P with
  | false =>
    refine ⟨-1, ?_, ?_⟩
    · show Go O (d + 4) kX6_left _ _ 0 [.ref 0, .int p, .int n] [] m
      refine go_aload_n dX6_left_0 rfl ?_
      refine go_iload_n dX6_left_1 rfl ?_
      refine go_callV1 (K' := kX6_isPerson) [_] dX6_left_2 mX6_105 lX6_isPerson rfl (by decide) rfl (by decide) rfl rfl (Nat.le_of_ble_eq_true rfl) (Nat.le_of_ble_eq_true rfl) (c_isPerson_35 hT t5 hP6) ?_
      refine go_if_eq 16 dX6_left_5 (by decide) (fun h5 => ?_) (fun h => absurd (bI_0.mpr hip) h)
      refine go_iconst (-1) dX6_left_16 (by decide +kernel) ?_
      exact go_iret dX6_left_17 rfl rfl rfl
    · show Go O (d + 4) kX7_left _ _ 0 [.ref 46, .int p, .int n] [] m
      refine go_aload_n dX7_left_0 rfl ?_
      refine go_iconst (nI 0) dX7_left_1 (by decide +kernel) ?_
      refine go_puti dX7_left_2 fX7_77 rfl (by decide) (by decide) (by decide) rfl (fun _ _ _ h => by cases h; rfl) (Or.inl rfl) ?_
      refine go_aload_n dX7_left_5 rfl ?_
      refine go_iload_n dX7_left_6 rfl ?_
      refine go_callV1 (K' := kX7_noOne) [_] dX7_left_7 mX7_150 lX7_noOne rfl (by decide) rfl (by decide) rfl rfl (Nat.le_of_ble_eq_true rfl) (Nat.le_of_ble_eq_true rfl) (c_noOne hP hP6) ?_
      refine go_if_ne 21 dX7_left_10 (by decide) (fun h10 => ?_) (fun h => absurd h (bI_n0.mpr (by rw [hip]; rfl)))
      refine go_iconst (-1) dX7_left_21 (by decide +kernel) ?_
      exact go_iret dX7_left_22 rfl rfl rfl
  | true =>
    obtain ⟨p, hpP, rfl⟩ := iR_of hip
    cases hin : iR n N with
    | false =>
      refine ⟨-1, ?_, ?_⟩
      · show Go O (d + 4) kX6_left _ _ 0 [.ref 0, .int (nI p), .int n] [] m
        refine go_aload_n dX6_left_0 rfl ?_
        refine go_iload_n dX6_left_1 rfl ?_
        refine go_callV1 (K' := kX6_isPerson) [_] dX6_left_2 mX6_105 lX6_isPerson rfl (by decide) rfl (by decide) rfl rfl (Nat.le_of_ble_eq_true rfl) (Nat.le_of_ble_eq_true rfl) (c_isPerson_35 hT t5 hP6) ?_
        refine go_if_eq 16 dX6_left_5 (by decide) (fun h => absurd h (bI_n0.mpr hip)) (fun h5 => ?_)
        refine go_aload_n dX6_left_8 rfl ?_
        refine go_iload_n dX6_left_9 rfl ?_
        refine go_callV1 (K' := kX6_isNews) [_] dX6_left_10 mX6_116 lX6_isNews rfl (by decide) rfl (by decide) rfl rfl (Nat.le_of_ble_eq_true rfl) (Nat.le_of_ble_eq_true rfl) (c_isNews_35 hT t6 (by omega)) ?_
        refine go_if_ne 18 dX6_left_13 (by decide) (fun h => absurd h (fun z => z (bI_0.mpr hin))) (fun h13 => ?_)
        refine go_iconst (-1) dX6_left_16 (by decide +kernel) ?_
        exact go_iret dX6_left_17 rfl rfl rfl
      · show Go O (d + 4) kX7_left _ _ 0 [.ref 46, .int (nI p), .int n] [] m
        refine go_aload_n dX7_left_0 rfl ?_
        refine go_iconst (nI 0) dX7_left_1 (by decide +kernel) ?_
        refine go_puti dX7_left_2 fX7_77 rfl (by decide) (by decide) (by decide) rfl (fun _ _ _ h => by cases h; rfl) (Or.inl rfl) ?_
        refine go_aload_n dX7_left_5 rfl ?_
        refine go_iload_n dX7_left_6 rfl ?_
        refine go_callV1 (K' := kX7_noOne) [_] dX7_left_7 mX7_150 lX7_noOne rfl (by decide) rfl (by decide) rfl rfl (Nat.le_of_ble_eq_true rfl) (Nat.le_of_ble_eq_true rfl) (c_noOne hP hP6) ?_
        refine go_if_ne 21 dX7_left_10 (by decide) (fun h => absurd h (fun z => z (bI_0.mpr (by rw [hip]; rfl)))) (fun h10 => ?_)
        refine go_aload_n dX7_left_13 rfl ?_
        refine go_iload_n dX7_left_14 rfl ?_
        refine go_callV1 (K' := kX7_noNews) [_] dX7_left_15 mX7_155 lX7_noNews rfl (by decide) rfl (by decide) rfl rfl (Nat.le_of_ble_eq_true rfl) (Nat.le_of_ble_eq_true rfl) (c_noNews hN (by omega)) ?_
        refine go_if_eq 23 dX7_left_18 (by decide) (fun h => absurd h (bI_n0.mpr (by rw [hin]; rfl))) (fun h18 => ?_)
        refine go_iconst (-1) dX7_left_21 (by decide +kernel) ?_
        exact go_iret dX7_left_22 rfl rfl rfl
    | true =>
      obtain ⟨n, hnN, rfl⟩ := iR_of hin
      obtain ⟨k, hk, ek⟩ := ok2 n (by omega)
      cases hkp : k.testBit p with
      | false =>
        refine ⟨-3, ?_, ?_⟩
        · show Go O (d + 4) kX6_left _ _ 0 [.ref 0, .int (nI p), .int (nI n)] [] m
          refine go_aload_n dX6_left_0 rfl ?_
          refine go_iload_n dX6_left_1 rfl ?_
          refine go_callV1 (K' := kX6_isPerson) [_] dX6_left_2 mX6_105 lX6_isPerson rfl (by decide) rfl (by decide) rfl rfl (Nat.le_of_ble_eq_true rfl) (Nat.le_of_ble_eq_true rfl) (c_isPerson_35 hT t5 hP6) ?_
          refine go_if_eq 16 dX6_left_5 (by decide) (fun h => absurd h (bI_n0.mpr hip)) (fun h5 => ?_)
          refine go_aload_n dX6_left_8 rfl ?_
          refine go_iload_n dX6_left_9 rfl ?_
          refine go_callV1 (K' := kX6_isNews) [_] dX6_left_10 mX6_116 lX6_isNews rfl (by decide) rfl (by decide) rfl rfl (Nat.le_of_ble_eq_true rfl) (Nat.le_of_ble_eq_true rfl) (c_isNews_35 hT t6 (by omega)) ?_
          refine go_if_ne 18 dX6_left_13 (by decide) (fun h13 => ?_) (fun h => absurd h (bI_n0.mpr hin))
          refine go_aload_n dX6_left_18 rfl ?_
          refine go_getc dX6_left_19 fX6_19 rfl (by decide) (by decide) (by decide) rfl ?_
          refine go_iload_n dX6_left_22 rfl ?_
          refine go_iload_n dX6_left_23 rfl ?_
          refine go_callV1 (K' := kX5_knows) [_, _] dX6_left_24 mX6_139 lX5_knows rfl (by decide) rfl (by decide) rfl rfl (Nat.le_of_ble_eq_true rfl) (Nat.le_of_ble_eq_true rfl) (c_knows_3 (by omega) (by omega) hk ((sk n (by omega)).trans ek)) ?_
          refine go_if_ne 33 dX6_left_27 (by decide) (fun h => absurd h (fun z => z (bI_0.mpr hkp))) (fun h27 => ?_)
          refine go_bipush (-3) dX6_left_30 (by decide +kernel) ?_
          exact go_iret dX6_left_32 rfl rfl rfl
        · show Go O (d + 4) kX7_left _ _ 0 [.ref 46, .int (nI p), .int (nI n)] [] m
          refine go_aload_n dX7_left_0 rfl ?_
          refine go_iconst (nI 0) dX7_left_1 (by decide +kernel) ?_
          refine go_puti dX7_left_2 fX7_77 rfl (by decide) (by decide) (by decide) rfl (fun _ _ _ h => by cases h; rfl) (Or.inl rfl) ?_
          refine go_aload_n dX7_left_5 rfl ?_
          refine go_iload_n dX7_left_6 rfl ?_
          refine go_callV1 (K' := kX7_noOne) [_] dX7_left_7 mX7_150 lX7_noOne rfl (by decide) rfl (by decide) rfl rfl (Nat.le_of_ble_eq_true rfl) (Nat.le_of_ble_eq_true rfl) (c_noOne hP hP6) ?_
          refine go_if_ne 21 dX7_left_10 (by decide) (fun h => absurd h (fun z => z (bI_0.mpr (by rw [hip]; rfl)))) (fun h10 => ?_)
          refine go_aload_n dX7_left_13 rfl ?_
          refine go_iload_n dX7_left_14 rfl ?_
          refine go_callV1 (K' := kX7_noNews) [_] dX7_left_15 mX7_155 lX7_noNews rfl (by decide) rfl (by decide) rfl rfl (Nat.le_of_ble_eq_true rfl) (Nat.le_of_ble_eq_true rfl) (c_noNews hN (by omega)) ?_
          refine go_if_eq 23 dX7_left_18 (by decide) (fun h18 => ?_) (fun h => absurd (bI_0.mpr (by rw [hin]; rfl)) h)
          refine go_aload_n dX7_left_23 rfl ?_
          refine go_getc dX7_left_24 fX7_25 rfl (by decide) (by decide) (by decide) rfl ?_
          refine go_iconst (nI 3) dX7_left_27 (by decide +kernel) ?_
          refine go_iload_n dX7_left_28 rfl ?_
          first | refine go_iadd_n dX7_left_29 ?_ | refine go_iadd dX7_left_29 rfl ?_
          refine go_iald dX7_left_30 rfl (by decide) rfl (by omega) (by decide) ek ?_
          refine go_iload_n dX7_left_31 rfl ?_
          refine go_callS1 (K' := kX7_has) [_, _] dX7_left_32 mX7_109 lX7_has rfl rfl (Nat.le_of_ble_eq_true rfl) (Nat.le_of_ble_eq_true rfl) (c_has (by omega) (by omega)) ?_
          refine go_if_eq 62 dX7_left_35 (by decide) (fun h35 => ?_) (fun h => absurd (bI_0.mpr hkp) h)
          refine go_bipush (-3) dX7_left_62 (by decide +kernel) ?_
          exact go_iret dX7_left_64 rfl rfl rfl
      | true =>
        refine ⟨m.1 49 n - m.1 52 (24 + 6 * n + p), ?_, ?_⟩
        · show Go O (d + 4) kX6_left _ _ 0 [.ref 0, .int (nI p), .int (nI n)] [] m
          refine go_aload_n dX6_left_0 rfl ?_
          refine go_iload_n dX6_left_1 rfl ?_
          refine go_callV1 (K' := kX6_isPerson) [_] dX6_left_2 mX6_105 lX6_isPerson rfl (by decide) rfl (by decide) rfl rfl (Nat.le_of_ble_eq_true rfl) (Nat.le_of_ble_eq_true rfl) (c_isPerson_35 hT t5 hP6) ?_
          refine go_if_eq 16 dX6_left_5 (by decide) (fun h => absurd h (bI_n0.mpr hip)) (fun h5 => ?_)
          refine go_aload_n dX6_left_8 rfl ?_
          refine go_iload_n dX6_left_9 rfl ?_
          refine go_callV1 (K' := kX6_isNews) [_] dX6_left_10 mX6_116 lX6_isNews rfl (by decide) rfl (by decide) rfl rfl (Nat.le_of_ble_eq_true rfl) (Nat.le_of_ble_eq_true rfl) (c_isNews_35 hT t6 (by omega)) ?_
          refine go_if_ne 18 dX6_left_13 (by decide) (fun h13 => ?_) (fun h => absurd h (bI_n0.mpr hin))
          refine go_aload_n dX6_left_18 rfl ?_
          refine go_getc dX6_left_19 fX6_19 rfl (by decide) (by decide) (by decide) rfl ?_
          refine go_iload_n dX6_left_22 rfl ?_
          refine go_iload_n dX6_left_23 rfl ?_
          refine go_callV1 (K' := kX5_knows) [_, _] dX6_left_24 mX6_139 lX5_knows rfl (by decide) rfl (by decide) rfl rfl (Nat.le_of_ble_eq_true rfl) (Nat.le_of_ble_eq_true rfl) (c_knows_3 (by omega) (by omega) hk ((sk n (by omega)).trans ek)) ?_
          refine go_if_ne 33 dX6_left_27 (by decide) (fun h27 => ?_) (fun h => absurd h (bI_n0.mpr hkp))
          refine go_aload_n dX6_left_33 rfl ?_
          refine go_getm dX6_left_34 fX6_47 rfl (by decide) (by decide) (by decide) rfl hT ?_
          refine go_getc dX6_left_37 fX6_119 rfl (by decide) (by decide) (by decide) rfl ?_
          refine go_iload_n dX6_left_40 rfl ?_
          refine go_iald dX6_left_41 rfl (by decide) rfl (by omega) (by decide) (tn n hnN).1 ?_
          refine go_aload_n dX6_left_42 rfl ?_
          refine go_getc dX6_left_43 fX6_19 rfl (by decide) (by decide) (by decide) rfl ?_
          refine go_getc dX6_left_46 fX6_143 rfl (by decide) (by decide) (by decide) rfl ?_
          refine go_iload_n dX6_left_49 rfl ?_
          refine go_iconst (nI 3) dX6_left_50 (by decide +kernel) ?_
          first | refine go_imul_n dX6_left_51 ?_ | refine go_imul dX6_left_51 rfl ?_
          refine go_iload_n dX6_left_52 rfl ?_
          first | refine go_iadd_n dX6_left_53 ?_ | refine go_iadd dX6_left_53 rfl ?_
          refine go_iald dX6_left_54 rfl (by decide) rfl (by omega) (by decide) (sa p n (by omega) (by omega)) ?_
          refine go_isub dX6_left_55 rfl ?_
          exact go_iret dX6_left_56 rfl rfl rfl
        · show Go O (d + 4) kX7_left _ _ 0 [.ref 46, .int (nI p), .int (nI n)] [] m
          refine go_aload_n dX7_left_0 rfl ?_
          refine go_iconst (nI 0) dX7_left_1 (by decide +kernel) ?_
          refine go_puti dX7_left_2 fX7_77 rfl (by decide) (by decide) (by decide) rfl (fun _ _ _ h => by cases h; rfl) (Or.inl rfl) ?_
          refine go_aload_n dX7_left_5 rfl ?_
          refine go_iload_n dX7_left_6 rfl ?_
          refine go_callV1 (K' := kX7_noOne) [_] dX7_left_7 mX7_150 lX7_noOne rfl (by decide) rfl (by decide) rfl rfl (Nat.le_of_ble_eq_true rfl) (Nat.le_of_ble_eq_true rfl) (c_noOne hP hP6) ?_
          refine go_if_ne 21 dX7_left_10 (by decide) (fun h => absurd h (fun z => z (bI_0.mpr (by rw [hip]; rfl)))) (fun h10 => ?_)
          refine go_aload_n dX7_left_13 rfl ?_
          refine go_iload_n dX7_left_14 rfl ?_
          refine go_callV1 (K' := kX7_noNews) [_] dX7_left_15 mX7_155 lX7_noNews rfl (by decide) rfl (by decide) rfl rfl (Nat.le_of_ble_eq_true rfl) (Nat.le_of_ble_eq_true rfl) (c_noNews hN (by omega)) ?_
          refine go_if_eq 23 dX7_left_18 (by decide) (fun h18 => ?_) (fun h => absurd (bI_0.mpr (by rw [hin]; rfl)) h)
          refine go_aload_n dX7_left_23 rfl ?_
          refine go_getc dX7_left_24 fX7_25 rfl (by decide) (by decide) (by decide) rfl ?_
          refine go_iconst (nI 3) dX7_left_27 (by decide +kernel) ?_
          refine go_iload_n dX7_left_28 rfl ?_
          first | refine go_iadd_n dX7_left_29 ?_ | refine go_iadd dX7_left_29 rfl ?_
          refine go_iald dX7_left_30 rfl (by decide) rfl (by omega) (by decide) ek ?_
          refine go_iload_n dX7_left_31 rfl ?_
          refine go_callS1 (K' := kX7_has) [_, _] dX7_left_32 mX7_109 lX7_has rfl rfl (Nat.le_of_ble_eq_true rfl) (Nat.le_of_ble_eq_true rfl) (c_has (by omega) (by omega)) ?_
          refine go_if_eq 62 dX7_left_35 (by decide) (fun h => absurd h (bI_n0.mpr hkp)) (fun h35 => ?_)
          refine go_aload_n dX7_left_38 rfl ?_
          refine go_getc dX7_left_39 fX7_16 rfl (by decide) (by decide) (by decide) rfl ?_
          refine go_iload_n dX7_left_42 rfl ?_
          refine go_iald dX7_left_43 rfl (by decide) rfl (by omega) (by decide) rfl ?_
          refine go_aload_n dX7_left_44 rfl ?_
          refine go_getc dX7_left_45 fX7_25 rfl (by decide) (by decide) (by decide) rfl ?_
          refine go_bipush (nI 24) dX7_left_48 (by decide +kernel) ?_
          refine go_bipush (nI 6) dX7_left_50 (by decide +kernel) ?_
          refine go_iload_n dX7_left_52 rfl ?_
          first | refine go_imul_n dX7_left_53 ?_ | refine go_imul dX7_left_53 rfl ?_
          first | refine go_iadd_n dX7_left_54 ?_ | refine go_iadd dX7_left_54 rfl ?_
          refine go_iload_n dX7_left_55 rfl ?_
          first | refine go_iadd_n dX7_left_56 ?_ | refine go_iadd dX7_left_56 rfl ?_
          refine go_iald dX7_left_57 rfl (by decide) rfl (by omega) (by decide) rfl ?_
          refine go_isub dX7_left_58 rfl ?_
          refine go_goto 64 dX7_left_59 (by decide) ?_
          exact go_iret dX7_left_64 rfl rfl rfl
theorem op_may_35 {O : gOm} {d : Nat} {m : gMem} {P N lw hr : Nat} {lim : Nat → Nat} {p n : Int32} (hT : m.2 0 = 35) (hd : IvD m P N lw lim) (ht : IvT m 35 P N lw) (hp : IvP m N lim hr) : ∃ r, Ca O (d + 4) kX6_may [.ref 0, .int p, .int n] (some (.int r)) m m ∧ Ca O (d + 4) kX7_may [.ref 46, .int p, .int n] (some (.int r)) m (gup m 46 0 (nI 0)) := by
  obtain ⟨hP, hP6, hN, hN3, hlw, hl3, hw, hlim, hfs⟩ := hd
  obtain ⟨t5, t6, t7, tp, tg, tn⟩ := ht
  obtain ⟨⟨s4, sk, st, sa, spl⟩, h11, ok1, ok2, ok3, ok4, ok5⟩ := hp
  cases hip : iR p P with
  | false =>
    refine ⟨-1, ?_, ?_⟩
    · show Go O (d + 4) kX6_may _ _ 0 [.ref 0, .int p, .int n] [] m
      refine go_aload_n dX6_may_0 rfl ?_
      refine go_iload_n dX6_may_1 rfl ?_
      refine go_callV1 (K' := kX6_isPerson) [_] dX6_may_2 mX6_105 lX6_isPerson rfl (by decide) rfl (by decide) rfl rfl (Nat.le_of_ble_eq_true rfl) (Nat.le_of_ble_eq_true rfl) (c_isPerson_35 hT t5 hP6) ?_
      refine go_if_eq 16 dX6_may_5 (by decide) (fun h5 => ?_) (fun h => absurd (bI_0.mpr hip) h)
      refine go_iconst (-1) dX6_may_16 (by decide +kernel) ?_
      exact go_iret dX6_may_17 rfl rfl rfl
    · show Go O (d + 4) kX7_may _ _ 0 [.ref 46, .int p, .int n] [] m
      refine go_aload_n dX7_may_0 rfl ?_
      refine go_iconst (nI 0) dX7_may_1 (by decide +kernel) ?_
      refine go_puti dX7_may_2 fX7_77 rfl (by decide) (by decide) (by decide) rfl (fun _ _ _ h => by cases h; rfl) (Or.inl rfl) ?_
      refine go_aload_n dX7_may_5 rfl ?_
      refine go_iload_n dX7_may_6 rfl ?_
      refine go_callV1 (K' := kX7_noOne) [_] dX7_may_7 mX7_150 lX7_noOne rfl (by decide) rfl (by decide) rfl rfl (Nat.le_of_ble_eq_true rfl) (Nat.le_of_ble_eq_true rfl) (c_noOne hP hP6) ?_
      refine go_if_ne 21 dX7_may_10 (by decide) (fun h10 => ?_) (fun h => absurd h (bI_n0.mpr (by rw [hip]; rfl)))
      refine go_iconst (-1) dX7_may_21 (by decide +kernel) ?_
      refine go_goto 47 dX7_may_22 (by decide) ?_
      exact go_iret dX7_may_47 rfl rfl rfl
  | true =>
    obtain ⟨p, hpP, rfl⟩ := iR_of hip
    cases hin : iR n N with
    | false =>
      refine ⟨-1, ?_, ?_⟩
      · show Go O (d + 4) kX6_may _ _ 0 [.ref 0, .int (nI p), .int n] [] m
        refine go_aload_n dX6_may_0 rfl ?_
        refine go_iload_n dX6_may_1 rfl ?_
        refine go_callV1 (K' := kX6_isPerson) [_] dX6_may_2 mX6_105 lX6_isPerson rfl (by decide) rfl (by decide) rfl rfl (Nat.le_of_ble_eq_true rfl) (Nat.le_of_ble_eq_true rfl) (c_isPerson_35 hT t5 hP6) ?_
        refine go_if_eq 16 dX6_may_5 (by decide) (fun h => absurd h (bI_n0.mpr hip)) (fun h5 => ?_)
        refine go_aload_n dX6_may_8 rfl ?_
        refine go_iload_n dX6_may_9 rfl ?_
        refine go_callV1 (K' := kX6_isNews) [_] dX6_may_10 mX6_116 lX6_isNews rfl (by decide) rfl (by decide) rfl rfl (Nat.le_of_ble_eq_true rfl) (Nat.le_of_ble_eq_true rfl) (c_isNews_35 hT t6 (by omega)) ?_
        refine go_if_ne 18 dX6_may_13 (by decide) (fun h => absurd h (fun z => z (bI_0.mpr hin))) (fun h13 => ?_)
        refine go_iconst (-1) dX6_may_16 (by decide +kernel) ?_
        exact go_iret dX6_may_17 rfl rfl rfl
      · show Go O (d + 4) kX7_may _ _ 0 [.ref 46, .int (nI p), .int n] [] m
        refine go_aload_n dX7_may_0 rfl ?_
        refine go_iconst (nI 0) dX7_may_1 (by decide +kernel) ?_
        refine go_puti dX7_may_2 fX7_77 rfl (by decide) (by decide) (by decide) rfl (fun _ _ _ h => by cases h; rfl) (Or.inl rfl) ?_
        refine go_aload_n dX7_may_5 rfl ?_
        refine go_iload_n dX7_may_6 rfl ?_
        refine go_callV1 (K' := kX7_noOne) [_] dX7_may_7 mX7_150 lX7_noOne rfl (by decide) rfl (by decide) rfl rfl (Nat.le_of_ble_eq_true rfl) (Nat.le_of_ble_eq_true rfl) (c_noOne hP hP6) ?_
        refine go_if_ne 21 dX7_may_10 (by decide) (fun h => absurd h (fun z => z (bI_0.mpr (by rw [hip]; rfl)))) (fun h10 => ?_)
        refine go_aload_n dX7_may_13 rfl ?_
        refine go_iload_n dX7_may_14 rfl ?_
        refine go_callV1 (K' := kX7_noNews) [_] dX7_may_15 mX7_155 lX7_noNews rfl (by decide) rfl (by decide) rfl rfl (Nat.le_of_ble_eq_true rfl) (Nat.le_of_ble_eq_true rfl) (c_noNews hN (by omega)) ?_
        refine go_if_eq 25 dX7_may_18 (by decide) (fun h => absurd h (bI_n0.mpr (by rw [hin]; rfl))) (fun h18 => ?_)
        refine go_iconst (-1) dX7_may_21 (by decide +kernel) ?_
        refine go_goto 47 dX7_may_22 (by decide) ?_
        exact go_iret dX7_may_47 rfl rfl rfl
    | true =>
      obtain ⟨n, hnN, rfl⟩ := iR_of hin
      obtain ⟨k, hk, ek⟩ := ok2 n (by omega)
      obtain ⟨av, eav, hav⟩ := hw p hr hpP ok1
      have hG : gOf (grp (m.1 48) P hr) av < 64 := by
        cases av with
        | none => exact (by decide : (0 : Nat) < 64)
        | some a => exact grp_64 _ _ _ hP6
      generalize hB : mT (k.testBit p) (gOf (grp (m.1 48) P hr) av) (m.1 52 n) (m.1 49 n) lw (m.1 52 (6 + 6 * n + p)) (plOf (m.1 52) n av) = B
      have cX : Ca O (d + 3) kX5_allows [.ref 3, .ref 35, .int (nI p), .int (nI n)] (some (.int (bI B))) m m := by
        rw [← hB]
        exact c_allows_3_35 (P := P) s4 ok1 (by omega) (by omega) hk ((sk n (by omega)).trans ek) ((tp p hr hpP ok1).trans eav) (fun a ha => ⟨hav a ha, by rw [ha]; exact tg hr a ok1 (hav a ha), by rw [ha]; exact spl n a (by omega) (hav a ha)⟩) (fun e => by rw [e]; rfl) hG (by rw [spl n 0 (by omega) (by omega), spl n 1 (by omega) (by omega), spl n 2 (by omega) (by omega)]; exact ok3 n (by omega)) (tn n hnN).1 (st p n (by omega) (by omega)) t7 hl3
      have cM : Ca O (d + 3) kX7_mayTell [.ref 46, .ref 52, .int (nI hr), .int (nI p), .int (nI n)] (some (.int (bI B))) (gup m 46 0 (nI 0)) (gup m 46 0 (nI 0)) := by
        rw [← hB]
        exact c_mayTell_52 (m := gup m 46 0 (nI 0)) hP hP6 ok1 hpP (by omega) ek hk eav hav hlw hl3
      cases B with
      | false =>
        refine ⟨nI 0, ?_, ?_⟩
        · show Go O (d + 4) kX6_may _ _ 0 [.ref 0, .int (nI p), .int (nI n)] [] m
          refine go_aload_n dX6_may_0 rfl ?_
          refine go_iload_n dX6_may_1 rfl ?_
          refine go_callV1 (K' := kX6_isPerson) [_] dX6_may_2 mX6_105 lX6_isPerson rfl (by decide) rfl (by decide) rfl rfl (Nat.le_of_ble_eq_true rfl) (Nat.le_of_ble_eq_true rfl) (c_isPerson_35 hT t5 hP6) ?_
          refine go_if_eq 16 dX6_may_5 (by decide) (fun h => absurd h (bI_n0.mpr hip)) (fun h5 => ?_)
          refine go_aload_n dX6_may_8 rfl ?_
          refine go_iload_n dX6_may_9 rfl ?_
          refine go_callV1 (K' := kX6_isNews) [_] dX6_may_10 mX6_116 lX6_isNews rfl (by decide) rfl (by decide) rfl rfl (Nat.le_of_ble_eq_true rfl) (Nat.le_of_ble_eq_true rfl) (c_isNews_35 hT t6 (by omega)) ?_
          refine go_if_ne 18 dX6_may_13 (by decide) (fun h13 => ?_) (fun h => absurd h (bI_n0.mpr hin))
          refine go_aload_n dX6_may_18 rfl ?_
          refine go_getc dX6_may_19 fX6_19 rfl (by decide) (by decide) (by decide) rfl ?_
          refine go_aload_n dX6_may_22 rfl ?_
          refine go_getm dX6_may_23 fX6_47 rfl (by decide) (by decide) (by decide) rfl hT ?_
          refine go_iload_n dX6_may_26 rfl ?_
          refine go_iload_n dX6_may_27 rfl ?_
          refine go_callV1 (K' := kX5_allows) [_, _, _] dX6_may_28 mX6_146 lX5_allows rfl (by decide) rfl (by decide) rfl rfl (Nat.le_of_ble_eq_true rfl) (Nat.le_of_ble_eq_true rfl) (cX) ?_
          refine go_if_eq 38 dX6_may_31 (by decide) (fun h31 => ?_) (fun h => absurd (rfl) h)
          refine go_iconst (nI 0) dX6_may_38 (by decide +kernel) ?_
          exact go_iret dX6_may_39 rfl rfl rfl
        · show Go O (d + 4) kX7_may _ _ 0 [.ref 46, .int (nI p), .int (nI n)] [] m
          refine go_aload_n dX7_may_0 rfl ?_
          refine go_iconst (nI 0) dX7_may_1 (by decide +kernel) ?_
          refine go_puti dX7_may_2 fX7_77 rfl (by decide) (by decide) (by decide) rfl (fun _ _ _ h => by cases h; rfl) (Or.inl rfl) ?_
          refine go_aload_n dX7_may_5 rfl ?_
          refine go_iload_n dX7_may_6 rfl ?_
          refine go_callV1 (K' := kX7_noOne) [_] dX7_may_7 mX7_150 lX7_noOne rfl (by decide) rfl (by decide) rfl rfl (Nat.le_of_ble_eq_true rfl) (Nat.le_of_ble_eq_true rfl) (c_noOne hP hP6) ?_
          refine go_if_ne 21 dX7_may_10 (by decide) (fun h => absurd h (fun z => z (bI_0.mpr (by rw [hip]; rfl)))) (fun h10 => ?_)
          refine go_aload_n dX7_may_13 rfl ?_
          refine go_iload_n dX7_may_14 rfl ?_
          refine go_callV1 (K' := kX7_noNews) [_] dX7_may_15 mX7_155 lX7_noNews rfl (by decide) rfl (by decide) rfl rfl (Nat.le_of_ble_eq_true rfl) (Nat.le_of_ble_eq_true rfl) (c_noNews hN (by omega)) ?_
          refine go_if_eq 25 dX7_may_18 (by decide) (fun h18 => ?_) (fun h => absurd (bI_0.mpr (by rw [hin]; rfl)) h)
          refine go_aload_n dX7_may_25 rfl ?_
          refine go_aload_n dX7_may_26 rfl ?_
          refine go_getc dX7_may_27 fX7_25 rfl (by decide) (by decide) (by decide) rfl ?_
          refine go_aload_n dX7_may_30 rfl ?_
          refine go_geti dX7_may_31 fX7_137 rfl (by decide) (by decide) (by decide) rfl h11 ?_
          refine go_iload_n dX7_may_34 rfl ?_
          refine go_iload_n dX7_may_35 rfl ?_
          refine go_callV1 (K' := kX7_mayTell) [_, _, _, _] dX7_may_36 mX7_161 lX7_mayTell rfl (by decide) rfl (by decide) rfl rfl (Nat.le_of_ble_eq_true rfl) (Nat.le_of_ble_eq_true rfl) (cM) ?_
          refine go_if_eq 46 dX7_may_39 (by decide) (fun h39 => ?_) (fun h => absurd (rfl) h)
          refine go_iconst (nI 0) dX7_may_46 (by decide +kernel) ?_
          exact go_iret dX7_may_47 rfl rfl rfl
      | true =>
        refine ⟨nI 1, ?_, ?_⟩
        · show Go O (d + 4) kX6_may _ _ 0 [.ref 0, .int (nI p), .int (nI n)] [] m
          refine go_aload_n dX6_may_0 rfl ?_
          refine go_iload_n dX6_may_1 rfl ?_
          refine go_callV1 (K' := kX6_isPerson) [_] dX6_may_2 mX6_105 lX6_isPerson rfl (by decide) rfl (by decide) rfl rfl (Nat.le_of_ble_eq_true rfl) (Nat.le_of_ble_eq_true rfl) (c_isPerson_35 hT t5 hP6) ?_
          refine go_if_eq 16 dX6_may_5 (by decide) (fun h => absurd h (bI_n0.mpr hip)) (fun h5 => ?_)
          refine go_aload_n dX6_may_8 rfl ?_
          refine go_iload_n dX6_may_9 rfl ?_
          refine go_callV1 (K' := kX6_isNews) [_] dX6_may_10 mX6_116 lX6_isNews rfl (by decide) rfl (by decide) rfl rfl (Nat.le_of_ble_eq_true rfl) (Nat.le_of_ble_eq_true rfl) (c_isNews_35 hT t6 (by omega)) ?_
          refine go_if_ne 18 dX6_may_13 (by decide) (fun h13 => ?_) (fun h => absurd h (bI_n0.mpr hin))
          refine go_aload_n dX6_may_18 rfl ?_
          refine go_getc dX6_may_19 fX6_19 rfl (by decide) (by decide) (by decide) rfl ?_
          refine go_aload_n dX6_may_22 rfl ?_
          refine go_getm dX6_may_23 fX6_47 rfl (by decide) (by decide) (by decide) rfl hT ?_
          refine go_iload_n dX6_may_26 rfl ?_
          refine go_iload_n dX6_may_27 rfl ?_
          refine go_callV1 (K' := kX5_allows) [_, _, _] dX6_may_28 mX6_146 lX5_allows rfl (by decide) rfl (by decide) rfl rfl (Nat.le_of_ble_eq_true rfl) (Nat.le_of_ble_eq_true rfl) (cX) ?_
          refine go_if_eq 38 dX6_may_31 (by decide) (fun h => absurd h (by decide +kernel)) (fun h31 => ?_)
          refine go_iconst (nI 1) dX6_may_34 (by decide +kernel) ?_
          refine go_goto 39 dX6_may_35 (by decide) ?_
          exact go_iret dX6_may_39 rfl rfl rfl
        · show Go O (d + 4) kX7_may _ _ 0 [.ref 46, .int (nI p), .int (nI n)] [] m
          refine go_aload_n dX7_may_0 rfl ?_
          refine go_iconst (nI 0) dX7_may_1 (by decide +kernel) ?_
          refine go_puti dX7_may_2 fX7_77 rfl (by decide) (by decide) (by decide) rfl (fun _ _ _ h => by cases h; rfl) (Or.inl rfl) ?_
          refine go_aload_n dX7_may_5 rfl ?_
          refine go_iload_n dX7_may_6 rfl ?_
          refine go_callV1 (K' := kX7_noOne) [_] dX7_may_7 mX7_150 lX7_noOne rfl (by decide) rfl (by decide) rfl rfl (Nat.le_of_ble_eq_true rfl) (Nat.le_of_ble_eq_true rfl) (c_noOne hP hP6) ?_
          refine go_if_ne 21 dX7_may_10 (by decide) (fun h => absurd h (fun z => z (bI_0.mpr (by rw [hip]; rfl)))) (fun h10 => ?_)
          refine go_aload_n dX7_may_13 rfl ?_
          refine go_iload_n dX7_may_14 rfl ?_
          refine go_callV1 (K' := kX7_noNews) [_] dX7_may_15 mX7_155 lX7_noNews rfl (by decide) rfl (by decide) rfl rfl (Nat.le_of_ble_eq_true rfl) (Nat.le_of_ble_eq_true rfl) (c_noNews hN (by omega)) ?_
          refine go_if_eq 25 dX7_may_18 (by decide) (fun h18 => ?_) (fun h => absurd (bI_0.mpr (by rw [hin]; rfl)) h)
          refine go_aload_n dX7_may_25 rfl ?_
          refine go_aload_n dX7_may_26 rfl ?_
          refine go_getc dX7_may_27 fX7_25 rfl (by decide) (by decide) (by decide) rfl ?_
          refine go_aload_n dX7_may_30 rfl ?_
          refine go_geti dX7_may_31 fX7_137 rfl (by decide) (by decide) (by decide) rfl h11 ?_
          refine go_iload_n dX7_may_34 rfl ?_
          refine go_iload_n dX7_may_35 rfl ?_
          refine go_callV1 (K' := kX7_mayTell) [_, _, _, _] dX7_may_36 mX7_161 lX7_mayTell rfl (by decide) rfl (by decide) rfl rfl (Nat.le_of_ble_eq_true rfl) (Nat.le_of_ble_eq_true rfl) (cM) ?_
          refine go_if_eq 46 dX7_may_39 (by decide) (fun h => absurd h (by decide +kernel)) (fun h39 => ?_)
          refine go_iconst (nI 1) dX7_may_42 (by decide +kernel) ?_
          refine go_goto 47 dX7_may_43 (by decide) ?_
          exact go_iret dX7_may_47 rfl rfl rfl
