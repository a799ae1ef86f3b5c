/-! DAY -/
theorem tx_inv_29 {m m1 mf : gMem} {P N lw c L : Nat} {w : Nat → Nat → Option Nat} {li wo fi : Nat → Nat} (h7 : IvS m c) (h8 : IvX m L) (f1 : Fr [35, 36, 37, 38, 39, 40] m m1) (hk : tx_Ok P N w li fi) (hlw : lw < 3) (hD : tx_DC m1 35 lw P N w li wo (tx_jh fi N)) (q : tx_Pd (gup (gup (gup (bgM (gupR (gupR m1 1 29) 0 35) 35) 24 1 (nI 0)) 14 5 (nI 0)) 19 5 (nI 0)) mf P N lw w li wo fi) : Inv mf := by
  obtain ⟨q1, q2, ⟨q3, q3'⟩, ⟨q4, q5, q6, q11, q21⟩, q48, q49, q52, q0, q59⟩ := q
  obtain ⟨d1, d2, d3, d4, d5, d6⟩ := hD
  obtain ⟨k1, k2, k3, k4, k5, k6, k7⟩ := hk
  have hj : ∀ n, tx_jh fi N n < 64 := by
    intro n
    unfold tx_jh
    by_cases e : n = 2 ∧ N = 3
    · rw [if_pos e]
      exact or_lt64 (k6 2) (Nat.and_lt_two_pow (n := 6) _ (k6 1))
    · rw [if_neg e]
      exact k6 n
  have e2 : mf.2 0 = 35 := by rw [q1]; rfl
  refine ⟨P, N, lw, 0, 0, c, L, li, Or.inr ⟨e2, by rw [q1]; rfl⟩, ⟨q4, k1, q5, k2, q6, hlw, fun p h hp hh => ⟨w p h, q48 p h hp hh, fun a e => k4 p h a e⟩, fun n hn => ⟨k5 n hn, (q49 n hn).1⟩, fun n hn => ⟨_, hj n, (q49 n hn).2.2⟩⟩, ?_, ⟨⟨?_, fun n hn => ?_, fun p n hp hn => ?_, fun p n hp hn => ?_, fun n a hn ha => ?_⟩, q11, by omega, fun n hn => ⟨_, hj n, q52 n hn⟩, fun n hn => ?_, fun n h3 hn => ⟨0, by omega, q0 n (by omega) (by omega)⟩, fun e => ?_⟩, ⟨by omega, ?_, q21, fun _ => mf.1 52, fun _ => 0, PgE.rf _, rfl, fun i hi => absurd hi (by omega)⟩, fun s hs => ⟨false, ?_, q59 s hs, fun z => by cases z⟩, ?_, ?_⟩
  · rw [e2]
    refine ⟨?_, ?_, ?_, fun p h hp hh => ?_, fun h a hh ha => ?_, fun n hn => ⟨?_, ?_, ?_⟩⟩
    · rw [q2 35 (by decide)]; exact d1
    · rw [q2 35 (by decide)]; exact d2
    · rw [q2 35 (by decide)]; exact d3
    · rw [q48 p h hp hh, q2 36 (by decide)]
      exact d4 p h (by omega) hh
    · rw [q2 37 (by decide), ← tx_grp k1 ha (fun p hp => q48 p h hp hh) (fun p b e => k4 p h b e) (fun p hp => k3 p h hp)]
      exact d5 h a hh ha
    · rw [q2 38 (by decide), (q49 n hn).1]
      exact (d6 n (by omega)).1
    · rw [q2 39 (by decide), (q49 n hn).2.1]
      exact (d6 n (by omega)).2.1
    · rw [q2 40 (by decide), (q49 n hn).2.2]
      exact (d6 n (by omega)).2.2
  · rw [q2 3 (by decide)]; rfl
  · rw [q2 4 (by decide), q52 n hn]
    show va_cpy (m1.1 40) (m1.1 4) 0 0 3 n = _
    rw [va_cpy, if_pos (by omega), show 0 + (n - 0) = n by omega]
    exact (d6 n hn).2.2
  · rw [q2 5 (by decide), q0 (6 + 6 * n + p) (by omega) (by omega)]
    show flP (m1.1 5) (nI 0) 18 (p * 3 + n) = nI 0
    rw [flP_at, if_pos (by omega)]
  · rw [q2 6 (by decide), q0 (24 + 6 * n + p) (by omega) (by omega)]
    show flP (m1.1 6) (nI 0) 18 (p * 3 + n) = nI 0
    rw [flP_at, if_pos (by omega)]
  · rw [q2 7 (by decide), q0 (42 + 3 * n + a) (by omega) (by omega)]
    show flP (m1.1 7) (nI 0) 9 (n * 3 + a) = nI 0
    rw [flP_at, if_pos (by omega)]
  · rw [q0 n (by omega) (by omega), q0 (42 + 3 * n + 0) (by omega) (by omega), q0 (42 + 3 * n + 1) (by omega) (by omega), q0 (42 + 3 * n + 2) (by omega) (by omega)]
    rfl
  · have a3 : mf.1 52 3 = _ := q52 0 (by omega)
    have a4 : mf.1 52 4 = _ := q52 1 (by omega)
    have a5 : mf.1 52 5 = _ := q52 2 (by omega)
    rw [a3, a4, a5, nb_and, nb_or]
    have j0 : tx_jh fi N 0 = fi 0 := if_neg (fun z => absurd z.1 (by decide))
    have j1 : tx_jh fi N 1 = fi 1 := if_neg (fun z => absurd z.1 (by decide))
    have j2 : tx_jh fi N 2 = fi 2 ||| (fi 0 &&& fi 1) := if_pos ⟨rfl, e⟩
    rw [j0, j1, j2, Nat.or_assoc, Nat.or_self]
  · rw [q2 24 (by decide)]; rfl
  · rcases lt2 hs with rfl | rfl
    · rw [gsl_0, q2 14 (by decide)]; rfl
    · rw [gsl_1, q2 19 (by decide)]; rfl
  · have g : ∀ k, k ∉ [35, 36, 37, 38, 39, 40] → m1.1 k = m.1 k := f1.2
    refine h7.kept ?_ ?_ ?_ ?_ ?_ ?_ ?_
    · rw [q2 26 (by decide)]; exact congrFun (g 26 (by decide)) 2
    · rw [q2 27 (by decide)]; exact g 27 (by decide)
    · rw [q2 28 (by decide)]; exact g 28 (by decide)
    · rw [q3']; exact congrFun (g 46 (by decide)) 25
    · rw [q2 61 (by decide)]; exact g 61 (by decide)
    · rw [q2 62 (by decide)]; exact g 62 (by decide)
    · rw [q2 63 (by decide)]; exact g 63 (by decide)
  · have g : ∀ k, k ∉ [35, 36, 37, 38, 39, 40] → m1.1 k = m.1 k := f1.2
    refine h8.kept ?_ ?_ ?_ ?_
    · rw [q2 1 (by decide)]; exact congrFun (g 1 (by decide)) 1
    · rw [q2 2 (by decide)]; exact g 2 (by decide)
    · rw [q3]; exact congrFun (g 46 (by decide)) 2
    · rw [q2 47 (by decide)]; exact g 47 (by decide)
theorem op_day_29 {O : gOm} {d : Nat} {m : gMem} (h0 : Inv m) (hT : m.2 0 = 29) : OpOk O (d + 40) kX6_day kX7_day [] m := by
  have hI := h0
  obtain ⟨P, N, lw, hr, a, c, L, lim, h1, h2, h3, h4, h5, h6, h7, h8⟩ := h0
  have hD : m.2 1 = 35 := by rcases h1 with ⟨a, b⟩ | ⟨a, b⟩ <;> omega
  obtain ⟨x, hC, hM⟩ := tx_text h8
  obtain ⟨m1, c1, f1, e1⟩ := c_readInto_35 (O := O) (d := d + 35) hC
  by_cases hF : tx_F x L = -9
  · rw [hF] at c1
    obtain ⟨h00, lw', P', N', w, li, wo, fi, hd, hp⟩ := tx_F_9 h8.1 hF
    have hDC := e1 lw' P' N' w li wo fi h00 hd hp
    have dd := dg_s hd
    have hok := tx_prs_ok _ _ _ _ _ _ _ _ dd.1 tx_Ok.st hp
    have hT1 : m1.2 0 = 29 := by rw [f1.1]; exact hT
    have hD1 : m1.2 1 = 35 := by rw [f1.1]; exact hD
    obtain ⟨mf, c2, q⟩ := c_dayM (O := O) (d := d + 36) (m := gup (gup (gup (bgM (gupR (gupR m1 1 29) 0 35) 35) 24 1 (nI 0)) 14 5 (nI 0)) 19 5 (nI 0)) (hM.of (congrFun (f1.2 46 (by decide)) 2) (f1.2 47 (by decide))) h00 hd hp
    refine ⟨(nI P'), gup (gup (gup (bgM (gupR (gupR m1 1 29) 0 35) 35) 24 1 (nI 0)) 14 5 (nI 0)) 19 5 (nI 0), mf, ?_, c2, tx_inv_29 h7 h8 f1 hok dd.2.1 hDC q⟩
    have s2 : Go O (d + 40) kX6_day (some (.int (nI P'))) (gup (gup (gup (bgM (gupR (gupR m1 1 29) 0 35) 35) 24 1 (nI 0)) 14 5 (nI 0)) 19 5 (nI 0)) 58 [.ref 0, .ref 35, .int (nI 2)] [] (gup (gup (gup (bgM (gupR (gupR m1 1 29) 0 35) 35) 24 1 (nI 0)) 14 5 (nI 0)) 19 5 (nI 0)) := by
      refine go_iload_n dX6_day_58 rfl ?_
      refine go_iconst (nI 2) dX6_day_59 (by decide +kernel) ?_
      refine go_icmp_ge 79 dX6_day_60 (by decide) (fun h60 => ?_) (fun h => absurd (nI_le (by omega) (by omega)) h)
      refine go_aload_n dX6_day_79 rfl ?_
      refine go_getm dX6_day_80 fX6_47 rfl (by decide) (by decide) (by decide) rfl (show _ = 35 from rfl) ?_
      refine go_geti dX6_day_83 fX6_85 rfl (by decide) (by decide) (by decide) rfl hDC.1 ?_
      exact go_iret dX6_day_86 rfl rfl rfl
    have s1 : Go O (d + 40) kX6_day (some (.int (nI P'))) (gup (gup (gup (bgM (gupR (gupR m1 1 29) 0 35) 35) 24 1 (nI 0)) 14 5 (nI 0)) 19 5 (nI 0)) 58 [.ref 0, .ref 35, .int (nI 1)] [] (gup (gup (bgM (gupR (gupR m1 1 29) 0 35) 35) 24 1 (nI 0)) 14 5 (nI 0)) := by
      refine go_iload_n dX6_day_58 rfl ?_
      refine go_iconst (nI 2) dX6_day_59 (by decide +kernel) ?_
      refine go_icmp_ge 79 dX6_day_60 (by decide) (fun h => absurd h (nI_ge (by omega) (by omega))) (fun h60 => ?_)
      refine go_aload_n dX6_day_63 rfl ?_
      refine go_getc dX6_day_64 fX6_26 rfl (by decide) (by decide) (by decide) rfl ?_
      refine go_iload_n dX6_day_67 rfl ?_
      refine go_aald dX6_day_68 rfl (by decide) rfl (by omega) (by decide) ?_
      refine go_iconst (nI 0) dX6_day_69 (by decide +kernel) ?_
      refine go_puti dX6_day_70 fX6_81 rfl (by decide) (by decide) (by decide) rfl (fun _ _ _ h => by cases h; rfl) (Or.inr ⟨rfl, by first | exact Or.inl rfl | exact Or.inr rfl⟩) ?_
      refine go_iinc_n (L' := [_, _, _]) dX6_day_73 rfl (by decide) rfl ?_
      refine go_goto 58 dX6_day_76 (by decide) ?_
      exact s2
    have s0 : Go O (d + 40) kX6_day (some (.int (nI P'))) (gup (gup (gup (bgM (gupR (gupR m1 1 29) 0 35) 35) 24 1 (nI 0)) 14 5 (nI 0)) 19 5 (nI 0)) 58 [.ref 0, .ref 35, .int (nI 0)] [] (gup (bgM (gupR (gupR m1 1 29) 0 35) 35) 24 1 (nI 0)) := by
      refine go_iload_n dX6_day_58 rfl ?_
      refine go_iconst (nI 2) dX6_day_59 (by decide +kernel) ?_
      refine go_icmp_ge 79 dX6_day_60 (by decide) (fun h => absurd h (nI_ge (by omega) (by omega))) (fun h60 => ?_)
      refine go_aload_n dX6_day_63 rfl ?_
      refine go_getc dX6_day_64 fX6_26 rfl (by decide) (by decide) (by decide) rfl ?_
      refine go_iload_n dX6_day_67 rfl ?_
      refine go_aald dX6_day_68 rfl (by decide) rfl (by omega) (by decide) ?_
      refine go_iconst (nI 0) dX6_day_69 (by decide +kernel) ?_
      refine go_puti dX6_day_70 fX6_81 rfl (by decide) (by decide) (by decide) rfl (fun _ _ _ h => by cases h; rfl) (Or.inr ⟨rfl, by first | exact Or.inl rfl | exact Or.inr rfl⟩) ?_
      refine go_iinc_n (L' := [_, _, _]) dX6_day_73 rfl (by decide) rfl ?_
      refine go_goto 58 dX6_day_76 (by decide) ?_
      exact s1
    show Go O (d + 40) kX6_day _ _ 0 [.ref 0, .null, .null] [] m
    refine go_aload_n dX6_day_0 rfl ?_
    refine go_getc dX6_day_1 fX6_12 rfl (by decide) (by decide) (by decide) rfl ?_
    refine go_aload_n dX6_day_4 rfl ?_
    refine go_getm dX6_day_5 fX6_51 rfl (by decide) (by decide) (by decide) rfl hD ?_
    refine go_callV1 (K' := kX3_readInto) [_] dX6_day_8 mX6_71 lX3_readInto rfl (by decide) rfl (by decide) rfl rfl (Nat.le_of_ble_eq_true rfl) (Nat.le_of_ble_eq_true rfl) (c1) ?_
    refine go_bipush (-9) dX6_day_11 (by decide +kernel) ?_
    refine go_icmp_eq 19 dX6_day_13 (by decide) (fun h13 => ?_) (fun h => absurd (rfl) h)
    refine go_aload_n dX6_day_19 rfl ?_
    refine go_getm dX6_day_20 fX6_51 rfl (by decide) (by decide) (by decide) rfl hD1 ?_
    refine go_astore_n (L' := [_, _, _]) dX6_day_23 (by decide) rfl ?_
    refine go_aload_n dX6_day_24 rfl ?_
    refine go_aload_n dX6_day_25 rfl ?_
    refine go_getm dX6_day_26 fX6_47 rfl (by decide) (by decide) (by decide) rfl hT1 ?_
    refine go_putr dX6_day_29 fX6_51 rfl (by decide) (by decide) (by decide) rfl (fun _ _ _ h => by cases h; rfl) ⟨_, rfl⟩ ?_
    refine go_aload_n dX6_day_32 rfl ?_
    refine go_aload_n dX6_day_33 rfl ?_
    refine go_putr dX6_day_34 fX6_47 rfl (by decide) (by decide) (by decide) rfl (fun _ _ _ h => by cases h; rfl) ⟨_, rfl⟩ ?_
    refine go_aload_n dX6_day_37 rfl ?_
    refine go_getc dX6_day_38 fX6_19 rfl (by decide) (by decide) (by decide) rfl ?_
    refine go_aload_n dX6_day_41 rfl ?_
    refine go_getm dX6_day_42 fX6_47 rfl (by decide) (by decide) (by decide) rfl (show _ = 35 from rfl) ?_
    refine go_callV0 (K' := kX5_beginWith) [_] dX6_day_45 mX6_75 lX5_beginWith rfl (by decide) rfl (by decide) rfl rfl (Nat.le_of_ble_eq_true rfl) (Nat.le_of_ble_eq_true rfl) (c_beginWith_35 (d := d + 38)) ?_
    refine go_aload_n dX6_day_48 rfl ?_
    refine go_getc dX6_day_49 fX6_33 rfl (by decide) (by decide) (by decide) rfl ?_
    refine go_iconst (nI 0) dX6_day_52 (by decide +kernel) ?_
    refine go_puti dX6_day_53 fX6_78 rfl (by decide) (by decide) (by decide) rfl (fun _ _ _ h => by cases h; rfl) (Or.inl rfl) ?_
    refine go_iconst (nI 0) dX6_day_56 (by decide +kernel) ?_
    refine go_istore_n (L' := [_, _, _]) dX6_day_57 (by decide) rfl ?_
    exact s0
  · have hM1 : TxM (gup m1 46 0 (nI 0)) L x := hM.of (congrFun (f1.2 46 (by decide)) 2) (f1.2 47 (by decide))
    obtain ⟨m2, c2, f2, -⟩ := c_readDay (O := O) (d := d + 36) hM1
    have hI2 : Inv m2 := tx_keep_29 hI hT (f2.1.trans f1.1) (fun k a b c => (f2.2.1 k a c).trans ((gup_k m1 _ a).trans (f1.2 k b))) (fun j hj => (f2.2.2 j (fun z => hj (List.mem_cons_of_mem _ z))).trans ((gup_i m1 _ (fun e => hj (by rw [e]; decide))).trans (congrFun (f1.2 46 (by decide)) j)))
    refine ⟨(-3), m1, m2, ?_, ?_, hI2⟩
    · show Go O (d + 40) kX6_day _ _ 0 [.ref 0, .null, .null] [] m
      refine go_aload_n dX6_day_0 rfl ?_
      refine go_getc dX6_day_1 fX6_12 rfl (by decide) (by decide) (by decide) rfl ?_
      refine go_aload_n dX6_day_4 rfl ?_
      refine go_getm dX6_day_5 fX6_51 rfl (by decide) (by decide) (by decide) rfl hD ?_
      refine go_callV1 (K' := kX3_readInto) [_] dX6_day_8 mX6_71 lX3_readInto rfl (by decide) rfl (by decide) rfl rfl (Nat.le_of_ble_eq_true rfl) (Nat.le_of_ble_eq_true rfl) (c1) ?_
      refine go_bipush (-9) dX6_day_11 (by decide +kernel) ?_
      refine go_icmp_eq 19 dX6_day_13 (by decide) (fun h => absurd h (hF)) (fun h13 => ?_)
      refine go_bipush (-3) dX6_day_16 (by decide +kernel) ?_
      exact go_iret dX6_day_18 rfl rfl rfl
    · show Go O (d + 40) kX7_day _ _ 0 [.ref 46, .null] [] m1
      refine go_aload_n dX7_day_0 rfl ?_
      refine go_iconst (nI 0) dX7_day_1 (by decide +kernel) ?_
      refine go_puti dX7_day_2 fX7_77 rfl (by decide) (by decide) (by decide) rfl (fun _ _ _ h => by cases h; rfl) (Or.inl rfl) ?_
      refine go_aload_n dX7_day_5 rfl ?_
      refine go_callV1 (K' := kX7_readDay) [] dX7_day_6 mX7_126 lX7_readDay rfl (by decide) rfl (by decide) rfl rfl (Nat.le_of_ble_eq_true rfl) (Nat.le_of_ble_eq_true rfl) (c2) ?_
      refine go_bipush (-9) dX7_day_9 (by decide +kernel) ?_
      refine go_icmp_eq 17 dX7_day_11 (by decide) (fun h => absurd h (hF)) (fun h11 => ?_)
      refine go_bipush (-3) dX7_day_14 (by decide +kernel) ?_
      exact go_iret dX7_day_16 rfl rfl rfl
theorem tx_inv_35 {m m1 mf : gMem} {P N lw c L : Nat} {w : Nat → Nat → Option Nat} {li wo fi : Nat → Nat} (h7 : IvS m c) (h8 : IvX m L) (f1 : Fr [29, 30, 31, 32, 33, 34] m m1) (hk : tx_Ok P N w li fi) (hlw : lw < 3) (hD : tx_DC m1 29 lw P N w li wo (tx_jh fi N)) (q : tx_Pd (gup (gup (gup (bgM (gupR (gupR m1 1 35) 0 29) 29) 24 1 (nI 0)) 14 5 (nI 0)) 19 5 (nI 0)) mf P N lw w li wo fi) : Inv mf := by
  obtain ⟨q1, q2, ⟨q3, q3'⟩, ⟨q4, q5, q6, q11, q21⟩, q48, q49, q52, q0, q59⟩ := q
  obtain ⟨d1, d2, d3, d4, d5, d6⟩ := hD
  obtain ⟨k1, k2, k3, k4, k5, k6, k7⟩ := hk
  have hj : ∀ n, tx_jh fi N n < 64 := by
    intro n
    unfold tx_jh
    by_cases e : n = 2 ∧ N = 3
    · rw [if_pos e]
      exact or_lt64 (k6 2) (Nat.and_lt_two_pow (n := 6) _ (k6 1))
    · rw [if_neg e]
      exact k6 n
  have e2 : mf.2 0 = 29 := by rw [q1]; rfl
  refine ⟨P, N, lw, 0, 0, c, L, li, Or.inl ⟨e2, by rw [q1]; rfl⟩, ⟨q4, k1, q5, k2, q6, hlw, fun p h hp hh => ⟨w p h, q48 p h hp hh, fun a e => k4 p h a e⟩, fun n hn => ⟨k5 n hn, (q49 n hn).1⟩, fun n hn => ⟨_, hj n, (q49 n hn).2.2⟩⟩, ?_, ⟨⟨?_, fun n hn => ?_, fun p n hp hn => ?_, fun p n hp hn => ?_, fun n a hn ha => ?_⟩, q11, by omega, fun n hn => ⟨_, hj n, q52 n hn⟩, fun n hn => ?_, fun n h3 hn => ⟨0, by omega, q0 n (by omega) (by omega)⟩, fun e => ?_⟩, ⟨by omega, ?_, q21, fun _ => mf.1 52, fun _ => 0, PgE.rf _, rfl, fun i hi => absurd hi (by omega)⟩, fun s hs => ⟨false, ?_, q59 s hs, fun z => by cases z⟩, ?_, ?_⟩
  · rw [e2]
    refine ⟨?_, ?_, ?_, fun p h hp hh => ?_, fun h a hh ha => ?_, fun n hn => ⟨?_, ?_, ?_⟩⟩
    · rw [q2 29 (by decide)]; exact d1
    · rw [q2 29 (by decide)]; exact d2
    · rw [q2 29 (by decide)]; exact d3
    · rw [q48 p h hp hh, q2 30 (by decide)]
      exact d4 p h (by omega) hh
    · rw [q2 31 (by decide), ← tx_grp k1 ha (fun p hp => q48 p h hp hh) (fun p b e => k4 p h b e) (fun p hp => k3 p h hp)]
      exact d5 h a hh ha
    · rw [q2 32 (by decide), (q49 n hn).1]
      exact (d6 n (by omega)).1
    · rw [q2 33 (by decide), (q49 n hn).2.1]
      exact (d6 n (by omega)).2.1
    · rw [q2 34 (by decide), (q49 n hn).2.2]
      exact (d6 n (by omega)).2.2
  · rw [q2 3 (by decide)]; rfl
  · rw [q2 4 (by decide), q52 n hn]
    show va_cpy (m1.1 34) (m1.1 4) 0 0 3 n = _
    rw [va_cpy, if_pos (by omega), show 0 + (n - 0) = n by omega]
    exact (d6 n hn).2.2
  · rw [q2 5 (by decide), q0 (6 + 6 * n + p) (by omega) (by omega)]
    show flP (m1.1 5) (nI 0) 18 (p * 3 + n) = nI 0
    rw [flP_at, if_pos (by omega)]
  · rw [q2 6 (by decide), q0 (24 + 6 * n + p) (by omega) (by omega)]
    show flP (m1.1 6) (nI 0) 18 (p * 3 + n) = nI 0
    rw [flP_at, if_pos (by omega)]
  · rw [q2 7 (by decide), q0 (42 + 3 * n + a) (by omega) (by omega)]
    show flP (m1.1 7) (nI 0) 9 (n * 3 + a) = nI 0
    rw [flP_at, if_pos (by omega)]
  · rw [q0 n (by omega) (by omega), q0 (42 + 3 * n + 0) (by omega) (by omega), q0 (42 + 3 * n + 1) (by omega) (by omega), q0 (42 + 3 * n + 2) (by omega) (by omega)]
    rfl
  · have a3 : mf.1 52 3 = _ := q52 0 (by omega)
    have a4 : mf.1 52 4 = _ := q52 1 (by omega)
    have a5 : mf.1 52 5 = _ := q52 2 (by omega)
    rw [a3, a4, a5, nb_and, nb_or]
    have j0 : tx_jh fi N 0 = fi 0 := if_neg (fun z => absurd z.1 (by decide))
    have j1 : tx_jh fi N 1 = fi 1 := if_neg (fun z => absurd z.1 (by decide))
    have j2 : tx_jh fi N 2 = fi 2 ||| (fi 0 &&& fi 1) := if_pos ⟨rfl, e⟩
    rw [j0, j1, j2, Nat.or_assoc, Nat.or_self]
  · rw [q2 24 (by decide)]; rfl
  · rcases lt2 hs with rfl | rfl
    · rw [gsl_0, q2 14 (by decide)]; rfl
    · rw [gsl_1, q2 19 (by decide)]; rfl
  · have g : ∀ k, k ∉ [29, 30, 31, 32, 33, 34] → m1.1 k = m.1 k := f1.2
    refine h7.kept ?_ ?_ ?_ ?_ ?_ ?_ ?_
    · rw [q2 26 (by decide)]; exact congrFun (g 26 (by decide)) 2
    · rw [q2 27 (by decide)]; exact g 27 (by decide)
    · rw [q2 28 (by decide)]; exact g 28 (by decide)
    · rw [q3']; exact congrFun (g 46 (by decide)) 25
    · rw [q2 61 (by decide)]; exact g 61 (by decide)
    · rw [q2 62 (by decide)]; exact g 62 (by decide)
    · rw [q2 63 (by decide)]; exact g 63 (by decide)
  · have g : ∀ k, k ∉ [29, 30, 31, 32, 33, 34] → m1.1 k = m.1 k := f1.2
    refine h8.kept ?_ ?_ ?_ ?_
    · rw [q2 1 (by decide)]; exact congrFun (g 1 (by decide)) 1
    · rw [q2 2 (by decide)]; exact g 2 (by decide)
    · rw [q3]; exact congrFun (g 46 (by decide)) 2
    · rw [q2 47 (by decide)]; exact g 47 (by decide)
theorem op_day_35 {O : gOm} {d : Nat} {m : gMem} (h0 : Inv m) (hT : m.2 0 = 35) : OpOk O (d + 40) kX6_day kX7_day [] m := by
  have hI := h0
  obtain ⟨P, N, lw, hr, a, c, L, lim, h1, h2, h3, h4, h5, h6, h7, h8⟩ := h0
  have hD : m.2 1 = 29 := by rcases h1 with ⟨a, b⟩ | ⟨a, b⟩ <;> omega
  obtain ⟨x, hC, hM⟩ := tx_text h8
  obtain ⟨m1, c1, f1, e1⟩ := c_readInto_29 (O := O) (d := d + 35) hC
  by_cases hF : tx_F x L = -9
  · rw [hF] at c1
    obtain ⟨h00, lw', P', N', w, li, wo, fi, hd, hp⟩ := tx_F_9 h8.1 hF
    have hDC := e1 lw' P' N' w li wo fi h00 hd hp
    have dd := dg_s hd
    have hok := tx_prs_ok _ _ _ _ _ _ _ _ dd.1 tx_Ok.st hp
    have hT1 : m1.2 0 = 35 := by rw [f1.1]; exact hT
    have hD1 : m1.2 1 = 29 := by rw [f1.1]; exact hD
    obtain ⟨mf, c2, q⟩ := c_dayM (O := O) (d := d + 36) (m := gup (gup (gup (bgM (gupR (gupR m1 1 35) 0 29) 29) 24 1 (nI 0)) 14 5 (nI 0)) 19 5 (nI 0)) (hM.of (congrFun (f1.2 46 (by decide)) 2) (f1.2 47 (by decide))) h00 hd hp
    refine ⟨(nI P'), gup (gup (gup (bgM (gupR (gupR m1 1 35) 0 29) 29) 24 1 (nI 0)) 14 5 (nI 0)) 19 5 (nI 0), mf, ?_, c2, tx_inv_35 h7 h8 f1 hok dd.2.1 hDC q⟩
    have s2 : Go O (d + 40) kX6_day (some (.int (nI P'))) (gup (gup (gup (bgM (gupR (gupR m1 1 35) 0 29) 29) 24 1 (nI 0)) 14 5 (nI 0)) 19 5 (nI 0)) 58 [.ref 0, .ref 29, .int (nI 2)] [] (gup (gup (gup (bgM (gupR (gupR m1 1 35) 0 29) 29) 24 1 (nI 0)) 14 5 (nI 0)) 19 5 (nI 0)) := by
      refine go_iload_n dX6_day_58 rfl ?_
      refine go_iconst (nI 2) dX6_day_59 (by decide +kernel) ?_
      refine go_icmp_ge 79 dX6_day_60 (by decide) (fun h60 => ?_) (fun h => absurd (nI_le (by omega) (by omega)) h)
      refine go_aload_n dX6_day_79 rfl ?_
      refine go_getm dX6_day_80 fX6_47 rfl (by decide) (by decide) (by decide) rfl (show _ = 29 from rfl) ?_
      refine go_geti dX6_day_83 fX6_85 rfl (by decide) (by decide) (by decide) rfl hDC.1 ?_
      exact go_iret dX6_day_86 rfl rfl rfl
    have s1 : Go O (d + 40) kX6_day (some (.int (nI P'))) (gup (gup (gup (bgM (gupR (gupR m1 1 35) 0 29) 29) 24 1 (nI 0)) 14 5 (nI 0)) 19 5 (nI 0)) 58 [.ref 0, .ref 29, .int (nI 1)] [] (gup (gup (bgM (gupR (gupR m1 1 35) 0 29) 29) 24 1 (nI 0)) 14 5 (nI 0)) := by
      refine go_iload_n dX6_day_58 rfl ?_
      refine go_iconst (nI 2) dX6_day_59 (by decide +kernel) ?_
      refine go_icmp_ge 79 dX6_day_60 (by decide) (fun h => absurd h (nI_ge (by omega) (by omega))) (fun h60 => ?_)
      refine go_aload_n dX6_day_63 rfl ?_
      refine go_getc dX6_day_64 fX6_26 rfl (by decide) (by decide) (by decide) rfl ?_
      refine go_iload_n dX6_day_67 rfl ?_
      refine go_aald dX6_day_68 rfl (by decide) rfl (by omega) (by decide) ?_
      refine go_iconst (nI 0) dX6_day_69 (by decide +kernel) ?_
      refine go_puti dX6_day_70 fX6_81 rfl (by decide) (by decide) (by decide) rfl (fun _ _ _ h => by cases h; rfl) (Or.inr ⟨rfl, by first | exact Or.inl rfl | exact Or.inr rfl⟩) ?_
      refine go_iinc_n (L' := [_, _, _]) dX6_day_73 rfl (by decide) rfl ?_
      refine go_goto 58 dX6_day_76 (by decide) ?_
      exact s2
    have s0 : Go O (d + 40) kX6_day (some (.int (nI P'))) (gup (gup (gup (bgM (gupR (gupR m1 1 35) 0 29) 29) 24 1 (nI 0)) 14 5 (nI 0)) 19 5 (nI 0)) 58 [.ref 0, .ref 29, .int (nI 0)] [] (gup (bgM (gupR (gupR m1 1 35) 0 29) 29) 24 1 (nI 0)) := by
      refine go_iload_n dX6_day_58 rfl ?_
      refine go_iconst (nI 2) dX6_day_59 (by decide +kernel) ?_
      refine go_icmp_ge 79 dX6_day_60 (by decide) (fun h => absurd h (nI_ge (by omega) (by omega))) (fun h60 => ?_)
      refine go_aload_n dX6_day_63 rfl ?_
      refine go_getc dX6_day_64 fX6_26 rfl (by decide) (by decide) (by decide) rfl ?_
      refine go_iload_n dX6_day_67 rfl ?_
      refine go_aald dX6_day_68 rfl (by decide) rfl (by omega) (by decide) ?_
      refine go_iconst (nI 0) dX6_day_69 (by decide +kernel) ?_
      refine go_puti dX6_day_70 fX6_81 rfl (by decide) (by decide) (by decide) rfl (fun _ _ _ h => by cases h; rfl) (Or.inr ⟨rfl, by first | exact Or.inl rfl | exact Or.inr rfl⟩) ?_
      refine go_iinc_n (L' := [_, _, _]) dX6_day_73 rfl (by decide) rfl ?_
      refine go_goto 58 dX6_day_76 (by decide) ?_
      exact s1
    show Go O (d + 40) kX6_day _ _ 0 [.ref 0, .null, .null] [] m
    refine go_aload_n dX6_day_0 rfl ?_
    refine go_getc dX6_day_1 fX6_12 rfl (by decide) (by decide) (by decide) rfl ?_
    refine go_aload_n dX6_day_4 rfl ?_
    refine go_getm dX6_day_5 fX6_51 rfl (by decide) (by decide) (by decide) rfl hD ?_
    refine go_callV1 (K' := kX3_readInto) [_] dX6_day_8 mX6_71 lX3_readInto rfl (by decide) rfl (by decide) rfl rfl (Nat.le_of_ble_eq_true rfl) (Nat.le_of_ble_eq_true rfl) (c1) ?_
    refine go_bipush (-9) dX6_day_11 (by decide +kernel) ?_
    refine go_icmp_eq 19 dX6_day_13 (by decide) (fun h13 => ?_) (fun h => absurd (rfl) h)
    refine go_aload_n dX6_day_19 rfl ?_
    refine go_getm dX6_day_20 fX6_51 rfl (by decide) (by decide) (by decide) rfl hD1 ?_
    refine go_astore_n (L' := [_, _, _]) dX6_day_23 (by decide) rfl ?_
    refine go_aload_n dX6_day_24 rfl ?_
    refine go_aload_n dX6_day_25 rfl ?_
    refine go_getm dX6_day_26 fX6_47 rfl (by decide) (by decide) (by decide) rfl hT1 ?_
    refine go_putr dX6_day_29 fX6_51 rfl (by decide) (by decide) (by decide) rfl (fun _ _ _ h => by cases h; rfl) ⟨_, rfl⟩ ?_
    refine go_aload_n dX6_day_32 rfl ?_
    refine go_aload_n dX6_day_33 rfl ?_
    refine go_putr dX6_day_34 fX6_47 rfl (by decide) (by decide) (by decide) rfl (fun _ _ _ h => by cases h; rfl) ⟨_, rfl⟩ ?_
    refine go_aload_n dX6_day_37 rfl ?_
    refine go_getc dX6_day_38 fX6_19 rfl (by decide) (by decide) (by decide) rfl ?_
    refine go_aload_n dX6_day_41 rfl ?_
    refine go_getm dX6_day_42 fX6_47 rfl (by decide) (by decide) (by decide) rfl (show _ = 29 from rfl) ?_
    refine go_callV0 (K' := kX5_beginWith) [_] dX6_day_45 mX6_75 lX5_beginWith rfl (by decide) rfl (by decide) rfl rfl (Nat.le_of_ble_eq_true rfl) (Nat.le_of_ble_eq_true rfl) (c_beginWith_29 (d := d + 38)) ?_
    refine go_aload_n dX6_day_48 rfl ?_
    refine go_getc dX6_day_49 fX6_33 rfl (by decide) (by decide) (by decide) rfl ?_
    refine go_iconst (nI 0) dX6_day_52 (by decide +kernel) ?_
    refine go_puti dX6_day_53 fX6_78 rfl (by decide) (by decide) (by decide) rfl (fun _ _ _ h => by cases h; rfl) (Or.inl rfl) ?_
    refine go_iconst (nI 0) dX6_day_56 (by decide +kernel) ?_
    refine go_istore_n (L' := [_, _, _]) dX6_day_57 (by decide) rfl ?_
    exact s0
  · have hM1 : TxM (gup m1 46 0 (nI 0)) L x := hM.of (congrFun (f1.2 46 (by decide)) 2) (f1.2 47 (by decide))
    obtain ⟨m2, c2, f2, -⟩ := c_readDay (O := O) (d := d + 36) hM1
    have hI2 : Inv m2 := tx_keep_35 hI hT (f2.1.trans f1.1) (fun k a b c => (f2.2.1 k a c).trans ((gup_k m1 _ a).trans (f1.2 k b))) (fun j hj => (f2.2.2 j (fun z => hj (List.mem_cons_of_mem _ z))).trans ((gup_i m1 _ (fun e => hj (by rw [e]; decide))).trans (congrFun (f1.2 46 (by decide)) j)))
    refine ⟨(-3), m1, m2, ?_, ?_, hI2⟩
    · show Go O (d + 40) kX6_day _ _ 0 [.ref 0, .null, .null] [] m
      refine go_aload_n dX6_day_0 rfl ?_
      refine go_getc dX6_day_1 fX6_12 rfl (by decide) (by decide) (by decide) rfl ?_
      refine go_aload_n dX6_day_4 rfl ?_
      refine go_getm dX6_day_5 fX6_51 rfl (by decide) (by decide) (by decide) rfl hD ?_
      refine go_callV1 (K' := kX3_readInto) [_] dX6_day_8 mX6_71 lX3_readInto rfl (by decide) rfl (by decide) rfl rfl (Nat.le_of_ble_eq_true rfl) (Nat.le_of_ble_eq_true rfl) (c1) ?_
      refine go_bipush (-9) dX6_day_11 (by decide +kernel) ?_
      refine go_icmp_eq 19 dX6_day_13 (by decide) (fun h => absurd h (hF)) (fun h13 => ?_)
      refine go_bipush (-3) dX6_day_16 (by decide +kernel) ?_
      exact go_iret dX6_day_18 rfl rfl rfl
    · show Go O (d + 40) kX7_day _ _ 0 [.ref 46, .null] [] m1
      refine go_aload_n dX7_day_0 rfl ?_
      refine go_iconst (nI 0) dX7_day_1 (by decide +kernel) ?_
      refine go_puti dX7_day_2 fX7_77 rfl (by decide) (by decide) (by decide) rfl (fun _ _ _ h => by cases h; rfl) (Or.inl rfl) ?_
      refine go_aload_n dX7_day_5 rfl ?_
      refine go_callV1 (K' := kX7_readDay) [] dX7_day_6 mX7_126 lX7_readDay rfl (by decide) rfl (by decide) rfl rfl (Nat.le_of_ble_eq_true rfl) (Nat.le_of_ble_eq_true rfl) (c2) ?_
      refine go_bipush (-9) dX7_day_9 (by decide +kernel) ?_
      refine go_icmp_eq 17 dX7_day_11 (by decide) (fun h => absurd h (hF)) (fun h11 => ?_)
      refine go_bipush (-3) dX7_day_14 (by decide +kernel) ?_
      exact go_iret dX7_day_16 rfl rfl rfl
theorem op_day {O : gOm} {d : Nat} {m : gMem} (h0 : Inv m) : OpOk O (d + 40) kX6_day kX7_day [] m := by
  have h1 := h0
  obtain ⟨P, N, lw, hr, a, c, L, lim, hTD, -⟩ := h1
  rcases hTD with ⟨e, -⟩ | ⟨e, -⟩
  · exact op_day_29 h0 e
  · exact op_day_35 h0 e
