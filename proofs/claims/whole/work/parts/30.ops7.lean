theorem iR_out {x : Int32} {n : Nat} (h : iR x (n + 1) = false) : x.toInt < 0 ∨ (n : Int) < x.toInt := by
  simp only [iR, Bool.and_eq_false_iff, decide_eq_false_iff_not] at h
  omega
/-- sums over the news -/
def tA (f : Nat → Int32) : Nat → Int32
  | 0 => nI 0
  | n + 1 => tA f n + f n
def wA (w : Nat → Int32) (k : Nat → Nat) : Nat → Int32
  | 0 => nI 0
  | n + 1 => wA w k n + w n * nI (pc6 (k n))
theorem op_news_29 {O : gOm} {d : Nat} {m : gMem} {n x : Int32} (h0 : Inv m) (hT : m.2 0 = 29) : OpOk O (d + 4) kX6_news kX7_news [.int n, .int x] m := by
  have hthr := h0.thr
  obtain ⟨P, N, lw, hr, a, c, L, lim, h1, h2, h3, h4, h5, h6, h7, h8⟩ := h0
  obtain ⟨hP, hP6, hN, hN3, hlw, hl3, hw, hlim, hfs⟩ := id h2
  obtain ⟨t5, t6, t7, tp, tg, tn⟩ : IvT m 29 P N lw := hT ▸ h3
  obtain ⟨⟨s4, sk, st, sa, spl⟩, h11, ok1, ok2, ok3, ok4, ok5⟩ := id h4
  cases hin : iR n N with
  | false =>
    refine ⟨(-1), m, gup m 46 0 (nI 0), ?_, ?_, hthr⟩
    · show Go O (d + 4) kX6_news _ _ 0 [.ref 0, .int n, .int x] [] m
      refine go_aload_n dX6_news_0 rfl ?_
      refine go_iload_n dX6_news_1 rfl ?_
      refine go_callV1 (K' := kX6_isNews) [_] dX6_news_2 mX6_116 lX6_isNews rfl (by decide) rfl (by decide) rfl rfl (Nat.le_of_ble_eq_true rfl) (Nat.le_of_ble_eq_true rfl) (c_isNews_29 hT t6 (by omega)) ?_
      refine go_if_ne 10 dX6_news_5 (by decide) (fun h => absurd h (fun q => q (bI_0.mpr hin))) (fun h5 => ?_)
      refine go_iconst (-1) dX6_news_8 (by decide +kernel) ?_
      exact go_iret dX6_news_9 rfl rfl rfl
    · show Go O (d + 4) kX7_news _ _ 0 [.ref 46, .int n, .int x] [] m
      refine go_aload_n dX7_news_0 rfl ?_
      refine go_iconst (nI 0) dX7_news_1 (by decide +kernel) ?_
      refine go_puti dX7_news_2 fX7_77 rfl (by decide) (by decide) (by decide) rfl (fun _ _ _ h => by cases h; rfl) (Or.inl rfl) ?_
      refine go_aload_n dX7_news_5 rfl ?_
      refine go_iload_n dX7_news_6 rfl ?_
      refine go_callV1 (K' := kX7_noNews) [_] dX7_news_7 mX7_155 lX7_noNews rfl (by decide) rfl (by decide) rfl rfl (Nat.le_of_ble_eq_true rfl) (Nat.le_of_ble_eq_true rfl) (c_noNews hN (by omega)) ?_
      refine go_if_eq 15 dX7_news_10 (by decide) (fun h => absurd h (bI_n0.mpr (by rw [hin]; rfl))) (fun h10 => ?_)
      refine go_iconst (-1) dX7_news_13 (by decide +kernel) ?_
      exact go_iret dX7_news_14 rfl rfl rfl
  | true =>
    obtain ⟨n, hnN, rfl⟩ := iR_of hin
    cases hix : iR x 5 with
    | false =>
      have ho := iR_out (n := 4) hix
      refine ⟨(-2), m, gup m 46 0 (nI 0), ?_, ?_, hthr⟩
      · show Go O (d + 4) kX6_news _ _ 0 [.ref 0, .int (nI n), .int x] [] m
        refine go_aload_n dX6_news_0 rfl ?_
        refine go_iload_n dX6_news_1 rfl ?_
        refine go_callV1 (K' := kX6_isNews) [_] dX6_news_2 mX6_116 lX6_isNews rfl (by decide) rfl (by decide) rfl rfl (Nat.le_of_ble_eq_true rfl) (Nat.le_of_ble_eq_true rfl) (c_isNews_29 hT t6 (by omega)) ?_
        refine go_if_ne 10 dX6_news_5 (by decide) (fun h5 => ?_) (fun h => absurd h (bI_n0.mpr hin))
        refine go_iload_n dX6_news_10 rfl ?_
        refine go_tableOut 93 dX6_news_11 (ho) (by decide) ?_
        refine go_bipush (-2) dX6_news_93 (by decide +kernel) ?_
        exact go_iret dX6_news_95 rfl rfl rfl
      · show Go O (d + 4) kX7_news _ _ 0 [.ref 46, .int (nI n), .int x] [] m
        refine go_aload_n dX7_news_0 rfl ?_
        refine go_iconst (nI 0) dX7_news_1 (by decide +kernel) ?_
        refine go_puti dX7_news_2 fX7_77 rfl (by decide) (by decide) (by decide) rfl (fun _ _ _ h => by cases h; rfl) (Or.inl rfl) ?_
        refine go_aload_n dX7_news_5 rfl ?_
        refine go_iload_n dX7_news_6 rfl ?_
        refine go_callV1 (K' := kX7_noNews) [_] dX7_news_7 mX7_155 lX7_noNews rfl (by decide) rfl (by decide) rfl rfl (Nat.le_of_ble_eq_true rfl) (Nat.le_of_ble_eq_true rfl) (c_noNews hN (by omega)) ?_
        refine go_if_eq 15 dX7_news_10 (by decide) (fun h10 => ?_) (fun h => absurd (bI_0.mpr (by rw [hin]; rfl)) h)
        refine go_iload_n dX7_news_15 rfl ?_
        refine go_tableOut 89 dX7_news_16 (ho) (by decide) ?_
        refine go_bipush (-2) dX7_news_89 (by decide +kernel) ?_
        exact go_iret dX7_news_91 rfl rfl rfl
    | true =>
      obtain ⟨j, hj, rfl⟩ := iR_of hix
      match j, hj with
      | 0, _ =>
        refine ⟨(m.1 49 n), m, gup m 46 0 (nI 0), ?_, ?_, hthr⟩
        · show Go O (d + 4) kX6_news _ _ 0 [.ref 0, .int (nI n), .int (nI 0)] [] m
          refine go_aload_n dX6_news_0 rfl ?_
          refine go_iload_n dX6_news_1 rfl ?_
          refine go_callV1 (K' := kX6_isNews) [_] dX6_news_2 mX6_116 lX6_isNews rfl (by decide) rfl (by decide) rfl rfl (Nat.le_of_ble_eq_true rfl) (Nat.le_of_ble_eq_true rfl) (c_isNews_29 hT t6 (by omega)) ?_
          refine go_if_ne 10 dX6_news_5 (by decide) (fun h5 => ?_) (fun h => absurd h (bI_n0.mpr hin))
          refine go_iload_n dX6_news_10 rfl ?_
          refine go_tableIn (off := 33) 44 dX6_news_11 (by decide +kernel) (by decide +kernel) (by decide +kernel) (by decide) ?_
          refine go_aload_n dX6_news_44 rfl ?_
          refine go_getm dX6_news_45 fX6_47 rfl (by decide) (by decide) (by decide) rfl hT ?_
          refine go_getc dX6_news_48 fX6_119 rfl (by decide) (by decide) (by decide) rfl ?_
          refine go_iload_n dX6_news_51 rfl ?_
          refine go_iald dX6_news_52 rfl (by decide) rfl (by omega) (by decide) (tn n hnN).1 ?_
          exact go_iret dX6_news_53 rfl rfl rfl
        · show Go O (d + 4) kX7_news _ _ 0 [.ref 46, .int (nI n), .int (nI 0)] [] m
          refine go_aload_n dX7_news_0 rfl ?_
          refine go_iconst (nI 0) dX7_news_1 (by decide +kernel) ?_
          refine go_puti dX7_news_2 fX7_77 rfl (by decide) (by decide) (by decide) rfl (fun _ _ _ h => by cases h; rfl) (Or.inl rfl) ?_
          refine go_aload_n dX7_news_5 rfl ?_
          refine go_iload_n dX7_news_6 rfl ?_
          refine go_callV1 (K' := kX7_noNews) [_] dX7_news_7 mX7_155 lX7_noNews rfl (by decide) rfl (by decide) rfl rfl (Nat.le_of_ble_eq_true rfl) (Nat.le_of_ble_eq_true rfl) (c_noNews hN (by omega)) ?_
          refine go_if_eq 15 dX7_news_10 (by decide) (fun h10 => ?_) (fun h => absurd (bI_0.mpr (by rw [hin]; rfl)) h)
          refine go_iload_n dX7_news_15 rfl ?_
          refine go_tableIn (off := 36) 52 dX7_news_16 (by decide +kernel) (by decide +kernel) (by decide +kernel) (by decide) ?_
          refine go_aload_n dX7_news_52 rfl ?_
          refine go_getc dX7_news_53 fX7_16 rfl (by decide) (by decide) (by decide) rfl ?_
          refine go_iload_n dX7_news_56 rfl ?_
          refine go_iald dX7_news_57 rfl (by decide) rfl (by omega) (by decide) rfl ?_
          exact go_iret dX7_news_58 rfl rfl rfl
      | 1, _ =>
        refine ⟨(m.1 50 n), m, gup m 46 0 (nI 0), ?_, ?_, hthr⟩
        · show Go O (d + 4) kX6_news _ _ 0 [.ref 0, .int (nI n), .int (nI 1)] [] m
          refine go_aload_n dX6_news_0 rfl ?_
          refine go_iload_n dX6_news_1 rfl ?_
          refine go_callV1 (K' := kX6_isNews) [_] dX6_news_2 mX6_116 lX6_isNews rfl (by decide) rfl (by decide) rfl rfl (Nat.le_of_ble_eq_true rfl) (Nat.le_of_ble_eq_true rfl) (c_isNews_29 hT t6 (by omega)) ?_
          refine go_if_ne 10 dX6_news_5 (by decide) (fun h5 => ?_) (fun h => absurd h (bI_n0.mpr hin))
          refine go_iload_n dX6_news_10 rfl ?_
          refine go_tableIn (off := 43) 54 dX6_news_11 (by decide +kernel) (by decide +kernel) (by decide +kernel) (by decide) ?_
          refine go_aload_n dX6_news_54 rfl ?_
          refine go_getm dX6_news_55 fX6_47 rfl (by decide) (by decide) (by decide) rfl hT ?_
          refine go_getc dX6_news_58 fX6_123 rfl (by decide) (by decide) (by decide) rfl ?_
          refine go_iload_n dX6_news_61 rfl ?_
          refine go_iald dX6_news_62 rfl (by decide) rfl (by omega) (by decide) (tn n hnN).2.1 ?_
          exact go_iret dX6_news_63 rfl rfl rfl
        · show Go O (d + 4) kX7_news _ _ 0 [.ref 46, .int (nI n), .int (nI 1)] [] m
          refine go_aload_n dX7_news_0 rfl ?_
          refine go_iconst (nI 0) dX7_news_1 (by decide +kernel) ?_
          refine go_puti dX7_news_2 fX7_77 rfl (by decide) (by decide) (by decide) rfl (fun _ _ _ h => by cases h; rfl) (Or.inl rfl) ?_
          refine go_aload_n dX7_news_5 rfl ?_
          refine go_iload_n dX7_news_6 rfl ?_
          refine go_callV1 (K' := kX7_noNews) [_] dX7_news_7 mX7_155 lX7_noNews rfl (by decide) rfl (by decide) rfl rfl (Nat.le_of_ble_eq_true rfl) (Nat.le_of_ble_eq_true rfl) (c_noNews hN (by omega)) ?_
          refine go_if_eq 15 dX7_news_10 (by decide) (fun h10 => ?_) (fun h => absurd (bI_0.mpr (by rw [hin]; rfl)) h)
          refine go_iload_n dX7_news_15 rfl ?_
          refine go_tableIn (off := 43) 59 dX7_news_16 (by decide +kernel) (by decide +kernel) (by decide +kernel) (by decide) ?_
          refine go_aload_n dX7_news_59 rfl ?_
          refine go_getc dX7_news_60 fX7_19 rfl (by decide) (by decide) (by decide) rfl ?_
          refine go_iload_n dX7_news_63 rfl ?_
          refine go_iald dX7_news_64 rfl (by decide) rfl (by omega) (by decide) rfl ?_
          exact go_iret dX7_news_65 rfl rfl rfl
      | 2, _ =>
        refine ⟨(m.1 52 n), m, gup m 46 0 (nI 0), ?_, ?_, hthr⟩
        · show Go O (d + 4) kX6_news _ _ 0 [.ref 0, .int (nI n), .int (nI 2)] [] m
          refine go_aload_n dX6_news_0 rfl ?_
          refine go_iload_n dX6_news_1 rfl ?_
          refine go_callV1 (K' := kX6_isNews) [_] dX6_news_2 mX6_116 lX6_isNews rfl (by decide) rfl (by decide) rfl rfl (Nat.le_of_ble_eq_true rfl) (Nat.le_of_ble_eq_true rfl) (c_isNews_29 hT t6 (by omega)) ?_
          refine go_if_ne 10 dX6_news_5 (by decide) (fun h5 => ?_) (fun h => absurd h (bI_n0.mpr hin))
          refine go_iload_n dX6_news_10 rfl ?_
          refine go_tableIn (off := 53) 64 dX6_news_11 (by decide +kernel) (by decide +kernel) (by decide +kernel) (by decide) ?_
          refine go_aload_n dX6_news_64 rfl ?_
          refine go_getc dX6_news_65 fX6_19 rfl (by decide) (by decide) (by decide) rfl ?_
          refine go_iload_n dX6_news_68 rfl ?_
          refine go_callV1 (K' := kX5_tellingsOf) [_] dX6_news_69 mX6_126 lX5_tellingsOf rfl (by decide) rfl (by decide) rfl rfl (Nat.le_of_ble_eq_true rfl) (Nat.le_of_ble_eq_true rfl) (c_tellingsOf_3 (by omega)) ?_
          exact go_iret dX6_news_72 rfl (by rw [spl n 0 (by omega) (by omega), spl n 1 (by omega) (by omega), spl n 2 (by omega) (by omega), ok3 n (by omega)]) rfl
        · show Go O (d + 4) kX7_news _ _ 0 [.ref 46, .int (nI n), .int (nI 2)] [] m
          refine go_aload_n dX7_news_0 rfl ?_
          refine go_iconst (nI 0) dX7_news_1 (by decide +kernel) ?_
          refine go_puti dX7_news_2 fX7_77 rfl (by decide) (by decide) (by decide) rfl (fun _ _ _ h => by cases h; rfl) (Or.inl rfl) ?_
          refine go_aload_n dX7_news_5 rfl ?_
          refine go_iload_n dX7_news_6 rfl ?_
          refine go_callV1 (K' := kX7_noNews) [_] dX7_news_7 mX7_155 lX7_noNews rfl (by decide) rfl (by decide) rfl rfl (Nat.le_of_ble_eq_true rfl) (Nat.le_of_ble_eq_true rfl) (c_noNews hN (by omega)) ?_
          refine go_if_eq 15 dX7_news_10 (by decide) (fun h10 => ?_) (fun h => absurd (bI_0.mpr (by rw [hin]; rfl)) h)
          refine go_iload_n dX7_news_15 rfl ?_
          refine go_tableIn (off := 50) 66 dX7_news_16 (by decide +kernel) (by decide +kernel) (by decide +kernel) (by decide) ?_
          refine go_aload_n dX7_news_66 rfl ?_
          refine go_getc dX7_news_67 fX7_25 rfl (by decide) (by decide) (by decide) rfl ?_
          refine go_iload_n dX7_news_70 rfl ?_
          refine go_iald dX7_news_71 rfl (by decide) rfl (by omega) (by decide) rfl ?_
          exact go_iret dX7_news_72 rfl rfl rfl
      | 3, _ =>
        refine ⟨(m.1 52 (3 + n)), m, gup m 46 0 (nI 0), ?_, ?_, hthr⟩
        · show Go O (d + 4) kX6_news _ _ 0 [.ref 0, .int (nI n), .int (nI 3)] [] m
          refine go_aload_n dX6_news_0 rfl ?_
          refine go_iload_n dX6_news_1 rfl ?_
          refine go_callV1 (K' := kX6_isNews) [_] dX6_news_2 mX6_116 lX6_isNews rfl (by decide) rfl (by decide) rfl rfl (Nat.le_of_ble_eq_true rfl) (Nat.le_of_ble_eq_true rfl) (c_isNews_29 hT t6 (by omega)) ?_
          refine go_if_ne 10 dX6_news_5 (by decide) (fun h5 => ?_) (fun h => absurd h (bI_n0.mpr hin))
          refine go_iload_n dX6_news_10 rfl ?_
          refine go_tableIn (off := 62) 73 dX6_news_11 (by decide +kernel) (by decide +kernel) (by decide +kernel) (by decide) ?_
          refine go_aload_n dX6_news_73 rfl ?_
          refine go_getc dX6_news_74 fX6_19 rfl (by decide) (by decide) (by decide) rfl ?_
          refine go_getc dX6_news_77 fX6_130 rfl (by decide) (by decide) (by decide) rfl ?_
          refine go_iload_n dX6_news_80 rfl ?_
          refine go_iald dX6_news_81 rfl (by decide) rfl (by omega) (by decide) (sk n (by omega)) ?_
          exact go_iret dX6_news_82 rfl rfl rfl
        · show Go O (d + 4) kX7_news _ _ 0 [.ref 46, .int (nI n), .int (nI 3)] [] m
          refine go_aload_n dX7_news_0 rfl ?_
          refine go_iconst (nI 0) dX7_news_1 (by decide +kernel) ?_
          refine go_puti dX7_news_2 fX7_77 rfl (by decide) (by decide) (by decide) rfl (fun _ _ _ h => by cases h; rfl) (Or.inl rfl) ?_
          refine go_aload_n dX7_news_5 rfl ?_
          refine go_iload_n dX7_news_6 rfl ?_
          refine go_callV1 (K' := kX7_noNews) [_] dX7_news_7 mX7_155 lX7_noNews rfl (by decide) rfl (by decide) rfl rfl (Nat.le_of_ble_eq_true rfl) (Nat.le_of_ble_eq_true rfl) (c_noNews hN (by omega)) ?_
          refine go_if_eq 15 dX7_news_10 (by decide) (fun h10 => ?_) (fun h => absurd (bI_0.mpr (by rw [hin]; rfl)) h)
          refine go_iload_n dX7_news_15 rfl ?_
          refine go_tableIn (off := 57) 73 dX7_news_16 (by decide +kernel) (by decide +kernel) (by decide +kernel) (by decide) ?_
          refine go_aload_n dX7_news_73 rfl ?_
          refine go_getc dX7_news_74 fX7_25 rfl (by decide) (by decide) (by decide) rfl ?_
          refine go_iconst (nI 3) dX7_news_77 (by decide +kernel) ?_
          refine go_iload_n dX7_news_78 rfl ?_
          first | refine go_iadd_n dX7_news_79 ?_ | refine go_iadd dX7_news_79 rfl ?_
          refine go_iald dX7_news_80 rfl (by decide) rfl (by omega) (by decide) rfl ?_
          exact go_iret dX7_news_81 rfl rfl rfl
      | 4, _ =>
        refine ⟨(m.1 51 n), m, gup m 46 0 (nI 0), ?_, ?_, hthr⟩
        · show Go O (d + 4) kX6_news _ _ 0 [.ref 0, .int (nI n), .int (nI 4)] [] m
          refine go_aload_n dX6_news_0 rfl ?_
          refine go_iload_n dX6_news_1 rfl ?_
          refine go_callV1 (K' := kX6_isNews) [_] dX6_news_2 mX6_116 lX6_isNews rfl (by decide) rfl (by decide) rfl rfl (Nat.le_of_ble_eq_true rfl) (Nat.le_of_ble_eq_true rfl) (c_isNews_29 hT t6 (by omega)) ?_
          refine go_if_ne 10 dX6_news_5 (by decide) (fun h5 => ?_) (fun h => absurd h (bI_n0.mpr hin))
          refine go_iload_n dX6_news_10 rfl ?_
          refine go_tableIn (off := 72) 83 dX6_news_11 (by decide +kernel) (by decide +kernel) (by decide +kernel) (by decide) ?_
          refine go_aload_n dX6_news_83 rfl ?_
          refine go_getm dX6_news_84 fX6_47 rfl (by decide) (by decide) (by decide) rfl hT ?_
          refine go_getc dX6_news_87 fX6_133 rfl (by decide) (by decide) (by decide) rfl ?_
          refine go_iload_n dX6_news_90 rfl ?_
          refine go_iald dX6_news_91 rfl (by decide) rfl (by omega) (by decide) (tn n hnN).2.2 ?_
          exact go_iret dX6_news_92 rfl rfl rfl
        · show Go O (d + 4) kX7_news _ _ 0 [.ref 46, .int (nI n), .int (nI 4)] [] m
          refine go_aload_n dX7_news_0 rfl ?_
          refine go_iconst (nI 0) dX7_news_1 (by decide +kernel) ?_
          refine go_puti dX7_news_2 fX7_77 rfl (by decide) (by decide) (by decide) rfl (fun _ _ _ h => by cases h; rfl) (Or.inl rfl) ?_
          refine go_aload_n dX7_news_5 rfl ?_
          refine go_iload_n dX7_news_6 rfl ?_
          refine go_callV1 (K' := kX7_noNews) [_] dX7_news_7 mX7_155 lX7_noNews rfl (by decide) rfl (by decide) rfl rfl (Nat.le_of_ble_eq_true rfl) (Nat.le_of_ble_eq_true rfl) (c_noNews hN (by omega)) ?_
          refine go_if_eq 15 dX7_news_10 (by decide) (fun h10 => ?_) (fun h => absurd (bI_0.mpr (by rw [hin]; rfl)) h)
          refine go_iload_n dX7_news_15 rfl ?_
          refine go_tableIn (off := 66) 82 dX7_news_16 (by decide +kernel) (by decide +kernel) (by decide +kernel) (by decide) ?_
          refine go_aload_n dX7_news_82 rfl ?_
          refine go_getc dX7_news_83 fX7_22 rfl (by decide) (by decide) (by decide) rfl ?_
          refine go_iload_n dX7_news_86 rfl ?_
          refine go_iald dX7_news_87 rfl (by decide) rfl (by omega) (by decide) rfl ?_
          exact go_iret dX7_news_88 rfl rfl rfl
      | j + 5, hj => exact absurd hj (by omega)
theorem c_tellingsOfAll_29 {O : gOm} {d : Nat} {m : gMem} {N : Nat} {f : Nat → Int32} (hT : m.2 0 = 29) (t6 : m.1 29 6 = nI N) (hN3 : N ≤ 3) (hs : ∀ n, n < 3 → nI 0 + m.1 7 (n * 3 + 0) + m.1 7 (n * 3 + 1) + m.1 7 (n * 3 + 2) = f n) : Ca O (d + 1) kX6_tellingsOfAll [.ref 0] (some (.int (tA f N))) m m := by
  have key : ∀ c n, n + c = N → Go O (d + 1) kX6_tellingsOfAll (some (.int (tA f N))) m 4 [.ref 0, .int (tA f n), .int (nI n)] [] m := by
    intro c
    induction c with
    | zero =>
      intro n hn
      obtain rfl : n = N := by omega
      refine go_iload_n dX6_tellingsOfAll_4 rfl ?_
      refine go_aload_n dX6_tellingsOfAll_5 rfl ?_
      refine go_getm dX6_tellingsOfAll_6 fX6_47 rfl (by decide) (by decide) (by decide) rfl hT ?_
      refine go_geti dX6_tellingsOfAll_9 fX6_88 rfl (by decide) (by decide) (by decide) rfl t6 ?_
      refine go_icmp_ge 32 dX6_tellingsOfAll_12 (by decide) (fun h12 => ?_) (fun h => absurd (nI_le (by omega) (by omega)) h)
      refine go_iload_n dX6_tellingsOfAll_32 rfl ?_
      exact go_iret dX6_tellingsOfAll_33 rfl rfl rfl
    | succ c ih =>
      intro n hn
      have ev : tA f n + (nI 0 + m.1 7 (n * 3 + 0) + m.1 7 (n * 3 + 1) + m.1 7 (n * 3 + 2)) = tA f (n + 1) := by rw [hs n (by omega)]; rfl
      refine go_iload_n dX6_tellingsOfAll_4 rfl ?_
      refine go_aload_n dX6_tellingsOfAll_5 rfl ?_
      refine go_getm dX6_tellingsOfAll_6 fX6_47 rfl (by decide) (by decide) (by decide) rfl hT ?_
      refine go_geti dX6_tellingsOfAll_9 fX6_88 rfl (by decide) (by decide) (by decide) rfl t6 ?_
      refine go_icmp_ge 32 dX6_tellingsOfAll_12 (by decide) (fun h => absurd h (nI_ge (by omega) (by omega))) (fun h12 => ?_)
      refine go_iload_n dX6_tellingsOfAll_15 rfl ?_
      refine go_aload_n dX6_tellingsOfAll_16 rfl ?_
      refine go_getc dX6_tellingsOfAll_17 fX6_19 rfl (by decide) (by decide) (by decide) rfl ?_
      refine go_iload_n dX6_tellingsOfAll_20 rfl ?_
      refine go_callV1 (K' := kX5_tellingsOf) [_] dX6_tellingsOfAll_21 mX6_126 lX5_tellingsOf rfl (by decide) rfl (by decide) rfl rfl (Nat.le_of_ble_eq_true rfl) (Nat.le_of_ble_eq_true rfl) (c_tellingsOf_3 (by omega)) ?_
      refine go_iadd dX6_tellingsOfAll_24 ev ?_
      refine go_istore_n (L' := [_, _, _]) dX6_tellingsOfAll_25 (by decide) rfl ?_
      refine go_iinc_n (L' := [_, _, _]) dX6_tellingsOfAll_26 rfl (by decide) rfl ?_
      refine go_goto 4 dX6_tellingsOfAll_29 (by decide) ?_
      exact ih (n + 1) (by omega)
  show Go O (d + 1) kX6_tellingsOfAll _ m 0 [.ref 0, .null, .null] [] m
  refine go_iconst (nI 0) dX6_tellingsOfAll_0 (by decide +kernel) ?_
  refine go_istore_n (L' := [_, _, _]) dX6_tellingsOfAll_1 (by decide) rfl ?_
  refine go_iconst (nI 0) dX6_tellingsOfAll_2 (by decide +kernel) ?_
  refine go_istore_n (L' := [_, _, _]) dX6_tellingsOfAll_3 (by decide) rfl ?_
  exact key N 0 (by omega)
theorem c_worthOfAll_29 {O : gOm} {d : Nat} {m : gMem} {N : Nat} {w : Nat → Int32} {k : Nat → Nat} (hT : m.2 0 = 29) (t6 : m.1 29 6 = nI N) (hN3 : N ≤ 3) (hw : ∀ n, n < N → m.1 33 n = w n) (hk : ∀ n, n < N → m.1 4 n = nI (k n) ∧ k n < 64) : Ca O (d + 1) kX6_worthOfAll [.ref 0] (some (.int (wA w k N))) m m := by
  have key : ∀ c n, n + c = N → Go O (d + 1) kX6_worthOfAll (some (.int (wA w k N))) m 4 [.ref 0, .int (wA w k n), .int (nI n)] [] m := by
    intro c
    induction c with
    | zero =>
      intro n hn
      obtain rfl : n = N := by omega
      refine go_iload_n dX6_worthOfAll_4 rfl ?_
      refine go_aload_n dX6_worthOfAll_5 rfl ?_
      refine go_getm dX6_worthOfAll_6 fX6_47 rfl (by decide) (by decide) (by decide) rfl hT ?_
      refine go_geti dX6_worthOfAll_9 fX6_88 rfl (by decide) (by decide) (by decide) rfl t6 ?_
      refine go_icmp_ge 46 dX6_worthOfAll_12 (by decide) (fun h12 => ?_) (fun h => absurd (nI_le (by omega) (by omega)) h)
      refine go_iload_n dX6_worthOfAll_46 rfl ?_
      exact go_iret dX6_worthOfAll_47 rfl rfl rfl
    | succ c ih =>
      intro n hn
      refine go_iload_n dX6_worthOfAll_4 rfl ?_
      refine go_aload_n dX6_worthOfAll_5 rfl ?_
      refine go_getm dX6_worthOfAll_6 fX6_47 rfl (by decide) (by decide) (by decide) rfl hT ?_
      refine go_geti dX6_worthOfAll_9 fX6_88 rfl (by decide) (by decide) (by decide) rfl t6 ?_
      refine go_icmp_ge 46 dX6_worthOfAll_12 (by decide) (fun h => absurd h (nI_ge (by omega) (by omega))) (fun h12 => ?_)
      refine go_iload_n dX6_worthOfAll_15 rfl ?_
      refine go_aload_n dX6_worthOfAll_16 rfl ?_
      refine go_getm dX6_worthOfAll_17 fX6_47 rfl (by decide) (by decide) (by decide) rfl hT ?_
      refine go_getc dX6_worthOfAll_20 fX6_123 rfl (by decide) (by decide) (by decide) rfl ?_
      refine go_iload_n dX6_worthOfAll_23 rfl ?_
      refine go_iald dX6_worthOfAll_24 rfl (by decide) rfl (by omega) (by decide) (hw n (by omega)) ?_
      refine go_aload_n dX6_worthOfAll_25 rfl ?_
      refine go_getc dX6_worthOfAll_26 fX6_19 rfl (by decide) (by decide) (by decide) rfl ?_
      refine go_getc dX6_worthOfAll_29 fX6_130 rfl (by decide) (by decide) (by decide) rfl ?_
      refine go_iload_n dX6_worthOfAll_32 rfl ?_
      refine go_iald dX6_worthOfAll_33 rfl (by decide) rfl (by omega) (by decide) (hk n (by omega)).1 ?_
      refine go_callS1 (K' := kJ6_bitCount_0f7a4) [_] dX6_worthOfAll_34 mX6_257 lJ6_bitCount_0f7a4 rfl rfl (Nat.le_of_ble_eq_true rfl) (Nat.le_of_ble_eq_true rfl) (c_bitCount (hk n (by omega)).2) ?_
      refine go_imul dX6_worthOfAll_37 rfl ?_
      refine go_iadd dX6_worthOfAll_38 rfl ?_
      refine go_istore_n (L' := [_, _, _]) dX6_worthOfAll_39 (by decide) rfl ?_
      refine go_iinc_n (L' := [_, _, _]) dX6_worthOfAll_40 rfl (by decide) rfl ?_
      refine go_goto 4 dX6_worthOfAll_43 (by decide) ?_
      exact ih (n + 1) (by omega)
  show Go O (d + 1) kX6_worthOfAll _ m 0 [.ref 0, .null, .null] [] m
  refine go_iconst (nI 0) dX6_worthOfAll_0 (by decide +kernel) ?_
  refine go_istore_n (L' := [_, _, _]) dX6_worthOfAll_1 (by decide) rfl ?_
  refine go_iconst (nI 0) dX6_worthOfAll_2 (by decide +kernel) ?_
  refine go_istore_n (L' := [_, _, _]) dX6_worthOfAll_3 (by decide) rfl ?_
  exact key N 0 (by omega)
theorem op_about_29 {O : gOm} {d : Nat} {m : gMem} {x : Int32} (h0 : Inv m) (hT : m.2 0 = 29) : OpOk O (d + 4) kX6_about kX7_about [.int x] m := by
  have hthr := h0.thr
  obtain ⟨P, N, lw, hr, a, c, L, lim, h1, h2, h3, h4, h5, h6, h7, h8⟩ := h0
  obtain ⟨hP, hP6, hN, hN3, hlw, hl3, hw, hlim, hfs⟩ := id h2
  obtain ⟨t5, t6, t7, tp, tg, tn⟩ : IvT m 29 P N lw := hT ▸ h3
  obtain ⟨⟨s4, sk, st, sa, spl⟩, h11, ok1, ok2, ok3, ok4, ok5⟩ := id h4
  have hk : ∀ n, n < 3 → m.1 52 (3 + n) = nI ((m.1 52 (3 + n)).toNatClampNeg) ∧ (m.1 52 (3 + n)).toNatClampNeg < 64 := by
    intro n hn
    obtain ⟨k, q1, q2⟩ := ok2 n hn
    rw [q2, nI_clamp (by omega)]
    exact ⟨rfl, q1⟩
  have cS := c_tellingsOfAll_29 (O := O) (d := d + 2) (f := m.1 52) hT t6 hN3 (fun n hn => by rw [spl n 0 hn (by omega), spl n 1 hn (by omega), spl n 2 hn (by omega), ok3 n hn])
  have cW := c_worthOfAll_29 (O := O) (d := d + 2) (w := m.1 50) (k := fun n => (m.1 52 (3 + n)).toNatClampNeg) hT t6 hN3 (fun n hn => (tn n hn).2.1) (fun n hn => ⟨(sk n (by omega)).trans (hk n (by omega)).1, (hk n (by omega)).2⟩)
  have key : ∀ r, Go O (d + 4) kX7_about (some (.int r)) (gup m 46 0 (nI 0)) 60 [.ref 46, .int x, .int (tA (m.1 52) N), .int (wA (m.1 50) (fun n => (m.1 52 (3 + n)).toNatClampNeg) N), .int (nI N)] [] (gup m 46 0 (nI 0)) → Ca O (d + 4) kX7_about [.ref 46, .int x] (some (.int r)) m (gup m 46 0 (nI 0)) := by
    intro r hgo
    have lp : ∀ c n, n + c = N → Go O (d + 4) kX7_about (some (.int r)) (gup m 46 0 (nI 0)) 12 [.ref 46, .int x, .int (tA (m.1 52) n), .int (wA (m.1 50) (fun n => (m.1 52 (3 + n)).toNatClampNeg) n), .int (nI n)] [] (gup m 46 0 (nI 0)) := by
      intro c
      induction c with
      | zero =>
        intro n hn
        obtain rfl : n = N := by omega
        refine go_iload dX7_about_12 rfl ?_
        refine go_aload_n dX7_about_14 rfl ?_
        refine go_geti dX7_about_15 fX7_88 rfl (by decide) (by decide) (by decide) rfl hN ?_
        refine go_icmp_ge 60 dX7_about_18 (by decide) (fun h18 => ?_) (fun h => absurd (nI_le (by omega) (by omega)) h)
        exact hgo
      | succ c ih =>
        intro n hn
        refine go_iload dX7_about_12 rfl ?_
        refine go_aload_n dX7_about_14 rfl ?_
        refine go_geti dX7_about_15 fX7_88 rfl (by decide) (by decide) (by decide) rfl hN ?_
        refine go_icmp_ge 60 dX7_about_18 (by decide) (fun h => absurd h (nI_ge (by omega) (by omega))) (fun h18 => ?_)
        refine go_iload_n dX7_about_21 rfl ?_
        refine go_aload_n dX7_about_22 rfl ?_
        refine go_getc dX7_about_23 fX7_25 rfl (by decide) (by decide) (by decide) rfl ?_
        refine go_iload dX7_about_26 rfl ?_
        refine go_iald dX7_about_28 rfl (by decide) rfl (by omega) (by decide) rfl ?_
        refine go_iadd dX7_about_29 rfl ?_
        refine go_istore_n (L' := [_, _, _, _, _]) dX7_about_30 (by decide) rfl ?_
        refine go_iload_n dX7_about_31 rfl ?_
        refine go_aload_n dX7_about_32 rfl ?_
        refine go_getc dX7_about_33 fX7_19 rfl (by decide) (by decide) (by decide) rfl ?_
        refine go_iload dX7_about_36 rfl ?_
        refine go_iald dX7_about_38 rfl (by decide) rfl (by omega) (by decide) rfl ?_
        refine go_aload_n dX7_about_39 rfl ?_
        refine go_getc dX7_about_40 fX7_25 rfl (by decide) (by decide) (by decide) rfl ?_
        refine go_iconst (nI 3) dX7_about_43 (by decide +kernel) ?_
        refine go_iload dX7_about_44 rfl ?_
        first | refine go_iadd_n dX7_about_46 ?_ | refine go_iadd dX7_about_46 rfl ?_
        refine go_iald dX7_about_47 rfl (by decide) rfl (by omega) (by decide) (hk n (by omega)).1 ?_
        refine go_callS1 (K' := kX7_many) [_] dX7_about_48 mX7_143 lX7_many rfl rfl (Nat.le_of_ble_eq_true rfl) (Nat.le_of_ble_eq_true rfl) (c_many (by have := (hk n (by omega)).2; omega)) ?_
        refine go_imul dX7_about_51 rfl ?_
        refine go_iadd dX7_about_52 rfl ?_
        refine go_istore_n (L' := [_, _, _, _, _]) dX7_about_53 (by decide) rfl ?_
        refine go_iinc_n (L' := [_, _, _, _, _]) dX7_about_54 rfl (by decide) rfl ?_
        refine go_goto 12 dX7_about_57 (by decide) ?_
        exact ih (n + 1) (by omega)
    show Go O (d + 4) kX7_about _ _ 0 [.ref 46, .int x, .null, .null, .null] [] m
    refine go_aload_n dX7_about_0 rfl ?_
    refine go_iconst (nI 0) dX7_about_1 (by decide +kernel) ?_
    refine go_puti dX7_about_2 fX7_77 rfl (by decide) (by decide) (by decide) rfl (fun _ _ _ h => by cases h; rfl) (Or.inl rfl) ?_
    refine go_iconst (nI 0) dX7_about_5 (by decide +kernel) ?_
    refine go_istore_n (L' := [_, _, _, _, _]) dX7_about_6 (by decide) rfl ?_
    refine go_iconst (nI 0) dX7_about_7 (by decide +kernel) ?_
    refine go_istore_n (L' := [_, _, _, _, _]) dX7_about_8 (by decide) rfl ?_
    refine go_iconst (nI 0) dX7_about_9 (by decide +kernel) ?_
    refine go_istore (L' := [_, _, _, _, _]) dX7_about_10 (by decide) rfl ?_
    exact lp N 0 (by omega)
  cases hix : iR x 9 with
  | false =>
    have ho := iR_out (n := 8) hix
    refine ⟨(-2), m, (gup m 46 0 (nI 0)), ?_, key _ ?_, hthr⟩
    · show Go O (d + 4) kX6_about _ _ 0 [.ref 0, .int x] [] m
      refine go_iload_n dX6_about_0 rfl ?_
      refine go_tableOut 118 dX6_about_1 (ho) (by decide) ?_
      refine go_bipush (-2) dX6_about_118 (by decide +kernel) ?_
      exact go_iret dX6_about_120 rfl rfl rfl
    · refine go_iload_n dX7_about_60 rfl ?_
      refine go_tableOut 151 dX7_about_61 (ho) (by decide) ?_
      refine go_bipush (-2) dX7_about_151 (by decide +kernel) ?_
      exact go_iret dX7_about_153 rfl rfl rfl
  | true =>
    obtain ⟨j, hj, rfl⟩ := iR_of hix
    match j, hj with
    | 0, _ =>
      refine ⟨(nI P), m, (gup m 46 0 (nI 0)), ?_, key _ ?_, hthr⟩
      · show Go O (d + 4) kX6_about _ _ 0 [.ref 0, .int (nI 0)] [] m
        refine go_iload_n dX6_about_0 rfl ?_
        refine go_tableIn (off := 51) 52 dX6_about_1 (by decide +kernel) (by decide +kernel) (by decide +kernel) (by decide) ?_
        refine go_aload_n dX6_about_52 rfl ?_
        refine go_getm dX6_about_53 fX6_47 rfl (by decide) (by decide) (by decide) rfl hT ?_
        refine go_geti dX6_about_56 fX6_85 rfl (by decide) (by decide) (by decide) rfl t5 ?_
        exact go_iret dX6_about_59 rfl rfl rfl
      · refine go_iload_n dX7_about_60 rfl ?_
        refine go_tableIn (off := 51) 112 dX7_about_61 (by decide +kernel) (by decide +kernel) (by decide +kernel) (by decide) ?_
        refine go_aload_n dX7_about_112 rfl ?_
        refine go_geti dX7_about_113 fX7_81 rfl (by decide) (by decide) (by decide) rfl hP ?_
        exact go_iret dX7_about_116 rfl rfl rfl
    | 1, _ =>
      refine ⟨(nI N), m, (gup m 46 0 (nI 0)), ?_, key _ ?_, hthr⟩
      · show Go O (d + 4) kX6_about _ _ 0 [.ref 0, .int (nI 1)] [] m
        refine go_iload_n dX6_about_0 rfl ?_
        refine go_tableIn (off := 59) 60 dX6_about_1 (by decide +kernel) (by decide +kernel) (by decide +kernel) (by decide) ?_
        refine go_aload_n dX6_about_60 rfl ?_
        refine go_getm dX6_about_61 fX6_47 rfl (by decide) (by decide) (by decide) rfl hT ?_
        refine go_geti dX6_about_64 fX6_88 rfl (by decide) (by decide) (by decide) rfl t6 ?_
        exact go_iret dX6_about_67 rfl rfl rfl
      · refine go_iload_n dX7_about_60 rfl ?_
        refine go_tableIn (off := 56) 117 dX7_about_61 (by decide +kernel) (by decide +kernel) (by decide +kernel) (by decide) ?_
        refine go_aload_n dX7_about_117 rfl ?_
        refine go_geti dX7_about_118 fX7_88 rfl (by decide) (by decide) (by decide) rfl hN ?_
        exact go_iret dX7_about_121 rfl rfl rfl
    | 2, _ =>
      refine ⟨(nI lw), m, (gup m 46 0 (nI 0)), ?_, key _ ?_, hthr⟩
      · show Go O (d + 4) kX6_about _ _ 0 [.ref 0, .int (nI 2)] [] m
        refine go_iload_n dX6_about_0 rfl ?_
        refine go_tableIn (off := 67) 68 dX6_about_1 (by decide +kernel) (by decide +kernel) (by decide +kernel) (by decide) ?_
        refine go_aload_n dX6_about_68 rfl ?_
        refine go_getm dX6_about_69 fX6_47 rfl (by decide) (by decide) (by decide) rfl hT ?_
        refine go_geti dX6_about_72 fX6_91 rfl (by decide) (by decide) (by decide) rfl t7 ?_
        exact go_iret dX6_about_75 rfl rfl rfl
      · refine go_iload_n dX7_about_60 rfl ?_
        refine go_tableIn (off := 61) 122 dX7_about_61 (by decide +kernel) (by decide +kernel) (by decide +kernel) (by decide) ?_
        refine go_aload_n dX7_about_122 rfl ?_
        refine go_geti dX7_about_123 fX7_130 rfl (by decide) (by decide) (by decide) rfl hlw ?_
        exact go_iret dX7_about_126 rfl rfl rfl
    | 3, _ =>
      refine ⟨(nI hr), m, (gup m 46 0 (nI 0)), ?_, key _ ?_, hthr⟩
      · show Go O (d + 4) kX6_about _ _ 0 [.ref 0, .int (nI 3)] [] m
        refine go_iload_n dX6_about_0 rfl ?_
        refine go_tableIn (off := 75) 76 dX6_about_1 (by decide +kernel) (by decide +kernel) (by decide +kernel) (by decide) ?_
        refine go_aload_n dX6_about_76 rfl ?_
        refine go_getc dX6_about_77 fX6_19 rfl (by decide) (by decide) (by decide) rfl ?_
        refine go_geti dX6_about_80 fX6_94 rfl (by decide) (by decide) (by decide) rfl s4 ?_
        exact go_iret dX6_about_83 rfl rfl rfl
      · refine go_iload_n dX7_about_60 rfl ?_
        refine go_tableIn (off := 66) 127 dX7_about_61 (by decide +kernel) (by decide +kernel) (by decide +kernel) (by decide) ?_
        refine go_aload_n dX7_about_127 rfl ?_
        refine go_geti dX7_about_128 fX7_137 rfl (by decide) (by decide) (by decide) rfl h11 ?_
        exact go_iret dX7_about_131 rfl rfl rfl
    | 4, _ =>
      refine ⟨(nI a), m, (gup m 46 0 (nI 0)), ?_, key _ ?_, hthr⟩
      · show Go O (d + 4) kX6_about _ _ 0 [.ref 0, .int (nI 4)] [] m
        refine go_iload_n dX6_about_0 rfl ?_
        refine go_tableIn (off := 83) 84 dX6_about_1 (by decide +kernel) (by decide +kernel) (by decide +kernel) (by decide) ?_
        refine go_aload_n dX6_about_84 rfl ?_
        refine go_getc dX6_about_85 fX6_33 rfl (by decide) (by decide) (by decide) rfl ?_
        refine go_geti dX6_about_88 fX6_78 rfl (by decide) (by decide) (by decide) rfl h5.2.1 ?_
        exact go_iret dX6_about_91 rfl rfl rfl
      · refine go_iload_n dX7_about_60 rfl ?_
        refine go_tableIn (off := 71) 132 dX7_about_61 (by decide +kernel) (by decide +kernel) (by decide +kernel) (by decide) ?_
        refine go_aload_n dX7_about_132 rfl ?_
        refine go_geti dX7_about_133 fX7_140 rfl (by decide) (by decide) (by decide) rfl h5.2.2.1 ?_
        exact go_iret dX7_about_136 rfl rfl rfl
    | 5, _ =>
      refine ⟨(tA (m.1 52) N), m, (gup m 46 0 (nI 0)), ?_, key _ ?_, hthr⟩
      · show Go O (d + 4) kX6_about _ _ 0 [.ref 0, .int (nI 5)] [] m
        refine go_iload_n dX6_about_0 rfl ?_
        refine go_tableIn (off := 91) 92 dX6_about_1 (by decide +kernel) (by decide +kernel) (by decide +kernel) (by decide) ?_
        refine go_aload_n dX6_about_92 rfl ?_
        refine go_callV1 (K' := kX6_tellingsOfAll) [] dX6_about_93 mX6_97 lX6_tellingsOfAll rfl (by decide) rfl (by decide) rfl rfl (Nat.le_of_ble_eq_true rfl) (Nat.le_of_ble_eq_true rfl) (cS) ?_
        exact go_iret dX6_about_96 rfl rfl rfl
      · refine go_iload_n dX7_about_60 rfl ?_
        refine go_tableIn (off := 76) 137 dX7_about_61 (by decide +kernel) (by decide +kernel) (by decide +kernel) (by decide) ?_
        refine go_iload_n dX7_about_137 rfl ?_
        exact go_iret dX7_about_138 rfl rfl rfl
    | 6, _ =>
      refine ⟨(wA (m.1 50) (fun n => (m.1 52 (3 + n)).toNatClampNeg) N), m, (gup m 46 0 (nI 0)), ?_, key _ ?_, hthr⟩
      · show Go O (d + 4) kX6_about _ _ 0 [.ref 0, .int (nI 6)] [] m
        refine go_iload_n dX6_about_0 rfl ?_
        refine go_tableIn (off := 96) 97 dX6_about_1 (by decide +kernel) (by decide +kernel) (by decide +kernel) (by decide) ?_
        refine go_aload_n dX6_about_97 rfl ?_
        refine go_callV1 (K' := kX6_worthOfAll) [] dX6_about_98 mX6_101 lX6_worthOfAll rfl (by decide) rfl (by decide) rfl rfl (Nat.le_of_ble_eq_true rfl) (Nat.le_of_ble_eq_true rfl) (cW) ?_
        exact go_iret dX6_about_101 rfl rfl rfl
      · refine go_iload_n dX7_about_60 rfl ?_
        refine go_tableIn (off := 78) 139 dX7_about_61 (by decide +kernel) (by decide +kernel) (by decide +kernel) (by decide) ?_
        refine go_iload_n dX7_about_139 rfl ?_
        exact go_iret dX7_about_140 rfl rfl rfl
    | 7, _ =>
      refine ⟨(nI c), m, (gup m 46 0 (nI 0)), ?_, key _ ?_, hthr⟩
      · show Go O (d + 4) kX6_about _ _ 0 [.ref 0, .int (nI 7)] [] m
        refine go_iload_n dX6_about_0 rfl ?_
        refine go_tableIn (off := 101) 102 dX6_about_1 (by decide +kernel) (by decide +kernel) (by decide +kernel) (by decide) ?_
        refine go_aload_n dX6_about_102 rfl ?_
        refine go_getc dX6_about_103 fX6_40 rfl (by decide) (by decide) (by decide) rfl ?_
        refine go_geti dX6_about_106 fX6_104 rfl (by decide) (by decide) (by decide) rfl h7.2.1 ?_
        exact go_iret dX6_about_109 rfl rfl rfl
      · refine go_iload_n dX7_about_60 rfl ?_
        refine go_tableIn (off := 80) 141 dX7_about_61 (by decide +kernel) (by decide +kernel) (by decide +kernel) (by decide) ?_
        refine go_aload_n dX7_about_141 rfl ?_
        refine go_geti dX7_about_142 fX7_147 rfl (by decide) (by decide) (by decide) rfl h7.2.2.1 ?_
        exact go_iret dX7_about_145 rfl rfl rfl
    | 8, _ =>
      refine ⟨(nI L), m, (gup m 46 0 (nI 0)), ?_, key _ ?_, hthr⟩
      · show Go O (d + 4) kX6_about _ _ 0 [.ref 0, .int (nI 8)] [] m
        refine go_iload_n dX6_about_0 rfl ?_
        refine go_tableIn (off := 109) 110 dX6_about_1 (by decide +kernel) (by decide +kernel) (by decide +kernel) (by decide) ?_
        refine go_aload_n dX6_about_110 rfl ?_
        refine go_getc dX6_about_111 fX6_12 rfl (by decide) (by decide) (by decide) rfl ?_
        refine go_geti dX6_about_114 fX6_63 rfl (by decide) (by decide) (by decide) rfl h8.2.1 ?_
        exact go_iret dX6_about_117 rfl rfl rfl
      · refine go_iload_n dX7_about_60 rfl ?_
        refine go_tableIn (off := 85) 146 dX7_about_61 (by decide +kernel) (by decide +kernel) (by decide +kernel) (by decide) ?_
        refine go_aload_n dX7_about_146 rfl ?_
        refine go_geti dX7_about_147 fX7_93 rfl (by decide) (by decide) (by decide) rfl h8.2.2.1 ?_
        exact go_iret dX7_about_150 rfl rfl rfl
    | j + 9, hj => exact absurd hj (by omega)
theorem op_news_35 {O : gOm} {d : Nat} {m : gMem} {n x : Int32} (h0 : Inv m) (hT : m.2 0 = 35) : OpOk O (d + 4) kX6_news kX7_news [.int n, .int x] m := by
  have hthr := h0.thr
  obtain ⟨P, N, lw, hr, a, c, L, lim, h1, h2, h3, h4, h5, h6, h7, h8⟩ := h0
  obtain ⟨hP, hP6, hN, hN3, hlw, hl3, hw, hlim, hfs⟩ := id h2
  obtain ⟨t5, t6, t7, tp, tg, tn⟩ : IvT m 35 P N lw := hT ▸ h3
  obtain ⟨⟨s4, sk, st, sa, spl⟩, h11, ok1, ok2, ok3, ok4, ok5⟩ := id h4
  cases hin : iR n N with
  | false =>
    refine ⟨(-1), m, gup m 46 0 (nI 0), ?_, ?_, hthr⟩
    · show Go O (d + 4) kX6_news _ _ 0 [.ref 0, .int n, .int x] [] m
      refine go_aload_n dX6_news_0 rfl ?_
      refine go_iload_n dX6_news_1 rfl ?_
      refine go_callV1 (K' := kX6_isNews) [_] dX6_news_2 mX6_116 lX6_isNews rfl (by decide) rfl (by decide) rfl rfl (Nat.le_of_ble_eq_true rfl) (Nat.le_of_ble_eq_true rfl) (c_isNews_35 hT t6 (by omega)) ?_
      refine go_if_ne 10 dX6_news_5 (by decide) (fun h => absurd h (fun q => q (bI_0.mpr hin))) (fun h5 => ?_)
      refine go_iconst (-1) dX6_news_8 (by decide +kernel) ?_
      exact go_iret dX6_news_9 rfl rfl rfl
    · show Go O (d + 4) kX7_news _ _ 0 [.ref 46, .int n, .int x] [] m
      refine go_aload_n dX7_news_0 rfl ?_
      refine go_iconst (nI 0) dX7_news_1 (by decide +kernel) ?_
      refine go_puti dX7_news_2 fX7_77 rfl (by decide) (by decide) (by decide) rfl (fun _ _ _ h => by cases h; rfl) (Or.inl rfl) ?_
      refine go_aload_n dX7_news_5 rfl ?_
      refine go_iload_n dX7_news_6 rfl ?_
      refine go_callV1 (K' := kX7_noNews) [_] dX7_news_7 mX7_155 lX7_noNews rfl (by decide) rfl (by decide) rfl rfl (Nat.le_of_ble_eq_true rfl) (Nat.le_of_ble_eq_true rfl) (c_noNews hN (by omega)) ?_
      refine go_if_eq 15 dX7_news_10 (by decide) (fun h => absurd h (bI_n0.mpr (by rw [hin]; rfl))) (fun h10 => ?_)
      refine go_iconst (-1) dX7_news_13 (by decide +kernel) ?_
      exact go_iret dX7_news_14 rfl rfl rfl
  | true =>
    obtain ⟨n, hnN, rfl⟩ := iR_of hin
    cases hix : iR x 5 with
    | false =>
      have ho := iR_out (n := 4) hix
      refine ⟨(-2), m, gup m 46 0 (nI 0), ?_, ?_, hthr⟩
      · show Go O (d + 4) kX6_news _ _ 0 [.ref 0, .int (nI n), .int x] [] m
        refine go_aload_n dX6_news_0 rfl ?_
        refine go_iload_n dX6_news_1 rfl ?_
        refine go_callV1 (K' := kX6_isNews) [_] dX6_news_2 mX6_116 lX6_isNews rfl (by decide) rfl (by decide) rfl rfl (Nat.le_of_ble_eq_true rfl) (Nat.le_of_ble_eq_true rfl) (c_isNews_35 hT t6 (by omega)) ?_
        refine go_if_ne 10 dX6_news_5 (by decide) (fun h5 => ?_) (fun h => absurd h (bI_n0.mpr hin))
        refine go_iload_n dX6_news_10 rfl ?_
        refine go_tableOut 93 dX6_news_11 (ho) (by decide) ?_
        refine go_bipush (-2) dX6_news_93 (by decide +kernel) ?_
        exact go_iret dX6_news_95 rfl rfl rfl
      · show Go O (d + 4) kX7_news _ _ 0 [.ref 46, .int (nI n), .int x] [] m
        refine go_aload_n dX7_news_0 rfl ?_
        refine go_iconst (nI 0) dX7_news_1 (by decide +kernel) ?_
        refine go_puti dX7_news_2 fX7_77 rfl (by decide) (by decide) (by decide) rfl (fun _ _ _ h => by cases h; rfl) (Or.inl rfl) ?_
        refine go_aload_n dX7_news_5 rfl ?_
        refine go_iload_n dX7_news_6 rfl ?_
        refine go_callV1 (K' := kX7_noNews) [_] dX7_news_7 mX7_155 lX7_noNews rfl (by decide) rfl (by decide) rfl rfl (Nat.le_of_ble_eq_true rfl) (Nat.le_of_ble_eq_true rfl) (c_noNews hN (by omega)) ?_
        refine go_if_eq 15 dX7_news_10 (by decide) (fun h10 => ?_) (fun h => absurd (bI_0.mpr (by rw [hin]; rfl)) h)
        refine go_iload_n dX7_news_15 rfl ?_
        refine go_tableOut 89 dX7_news_16 (ho) (by decide) ?_
        refine go_bipush (-2) dX7_news_89 (by decide +kernel) ?_
        exact go_iret dX7_news_91 rfl rfl rfl
    | true =>
      obtain ⟨j, hj, rfl⟩ := iR_of hix
      match j, hj with
      | 0, _ =>
        refine ⟨(m.1 49 n), m, gup m 46 0 (nI 0), ?_, ?_, hthr⟩
        · show Go O (d + 4) kX6_news _ _ 0 [.ref 0, .int (nI n), .int (nI 0)] [] m
          refine go_aload_n dX6_news_0 rfl ?_
          refine go_iload_n dX6_news_1 rfl ?_
          refine go_callV1 (K' := kX6_isNews) [_] dX6_news_2 mX6_116 lX6_isNews rfl (by decide) rfl (by decide) rfl rfl (Nat.le_of_ble_eq_true rfl) (Nat.le_of_ble_eq_true rfl) (c_isNews_35 hT t6 (by omega)) ?_
          refine go_if_ne 10 dX6_news_5 (by decide) (fun h5 => ?_) (fun h => absurd h (bI_n0.mpr hin))
          refine go_iload_n dX6_news_10 rfl ?_
          refine go_tableIn (off := 33) 44 dX6_news_11 (by decide +kernel) (by decide +kernel) (by decide +kernel) (by decide) ?_
          refine go_aload_n dX6_news_44 rfl ?_
          refine go_getm dX6_news_45 fX6_47 rfl (by decide) (by decide) (by decide) rfl hT ?_
          refine go_getc dX6_news_48 fX6_119 rfl (by decide) (by decide) (by decide) rfl ?_
          refine go_iload_n dX6_news_51 rfl ?_
          refine go_iald dX6_news_52 rfl (by decide) rfl (by omega) (by decide) (tn n hnN).1 ?_
          exact go_iret dX6_news_53 rfl rfl rfl
        · show Go O (d + 4) kX7_news _ _ 0 [.ref 46, .int (nI n), .int (nI 0)] [] m
          refine go_aload_n dX7_news_0 rfl ?_
          refine go_iconst (nI 0) dX7_news_1 (by decide +kernel) ?_
          refine go_puti dX7_news_2 fX7_77 rfl (by decide) (by decide) (by decide) rfl (fun _ _ _ h => by cases h; rfl) (Or.inl rfl) ?_
          refine go_aload_n dX7_news_5 rfl ?_
          refine go_iload_n dX7_news_6 rfl ?_
          refine go_callV1 (K' := kX7_noNews) [_] dX7_news_7 mX7_155 lX7_noNews rfl (by decide) rfl (by decide) rfl rfl (Nat.le_of_ble_eq_true rfl) (Nat.le_of_ble_eq_true rfl) (c_noNews hN (by omega)) ?_
          refine go_if_eq 15 dX7_news_10 (by decide) (fun h10 => ?_) (fun h => absurd (bI_0.mpr (by rw [hin]; rfl)) h)
          refine go_iload_n dX7_news_15 rfl ?_
          refine go_tableIn (off := 36) 52 dX7_news_16 (by decide +kernel) (by decide +kernel) (by decide +kernel) (by decide) ?_
          refine go_aload_n dX7_news_52 rfl ?_
          refine go_getc dX7_news_53 fX7_16 rfl (by decide) (by decide) (by decide) rfl ?_
          refine go_iload_n dX7_news_56 rfl ?_
          refine go_iald dX7_news_57 rfl (by decide) rfl (by omega) (by decide) rfl ?_
          exact go_iret dX7_news_58 rfl rfl rfl
      | 1, _ =>
        refine ⟨(m.1 50 n), m, gup m 46 0 (nI 0), ?_, ?_, hthr⟩
        · show Go O (d + 4) kX6_news _ _ 0 [.ref 0, .int (nI n), .int (nI 1)] [] m
          refine go_aload_n dX6_news_0 rfl ?_
          refine go_iload_n dX6_news_1 rfl ?_
          refine go_callV1 (K' := kX6_isNews) [_] dX6_news_2 mX6_116 lX6_isNews rfl (by decide) rfl (by decide) rfl rfl (Nat.le_of_ble_eq_true rfl) (Nat.le_of_ble_eq_true rfl) (c_isNews_35 hT t6 (by omega)) ?_
          refine go_if_ne 10 dX6_news_5 (by decide) (fun h5 => ?_) (fun h => absurd h (bI_n0.mpr hin))
          refine go_iload_n dX6_news_10 rfl ?_
          refine go_tableIn (off := 43) 54 dX6_news_11 (by decide +kernel) (by decide +kernel) (by decide +kernel) (by decide) ?_
          refine go_aload_n dX6_news_54 rfl ?_
          refine go_getm dX6_news_55 fX6_47 rfl (by decide) (by decide) (by decide) rfl hT ?_
          refine go_getc dX6_news_58 fX6_123 rfl (by decide) (by decide) (by decide) rfl ?_
          refine go_iload_n dX6_news_61 rfl ?_
          refine go_iald dX6_news_62 rfl (by decide) rfl (by omega) (by decide) (tn n hnN).2.1 ?_
          exact go_iret dX6_news_63 rfl rfl rfl
        · show Go O (d + 4) kX7_news _ _ 0 [.ref 46, .int (nI n), .int (nI 1)] [] m
          refine go_aload_n dX7_news_0 rfl ?_
          refine go_iconst (nI 0) dX7_news_1 (by decide +kernel) ?_
          refine go_puti dX7_news_2 fX7_77 rfl (by decide) (by decide) (by decide) rfl (fun _ _ _ h => by cases h; rfl) (Or.inl rfl) ?_
          refine go_aload_n dX7_news_5 rfl ?_
          refine go_iload_n dX7_news_6 rfl ?_
          refine go_callV1 (K' := kX7_noNews) [_] dX7_news_7 mX7_155 lX7_noNews rfl (by decide) rfl (by decide) rfl rfl (Nat.le_of_ble_eq_true rfl) (Nat.le_of_ble_eq_true rfl) (c_noNews hN (by omega)) ?_
          refine go_if_eq 15 dX7_news_10 (by decide) (fun h10 => ?_) (fun h => absurd (bI_0.mpr (by rw [hin]; rfl)) h)
          refine go_iload_n dX7_news_15 rfl ?_
          refine go_tableIn (off := 43) 59 dX7_news_16 (by decide +kernel) (by decide +kernel) (by decide +kernel) (by decide) ?_
          refine go_aload_n dX7_news_59 rfl ?_
          refine go_getc dX7_news_60 fX7_19 rfl (by decide) (by decide) (by decide) rfl ?_
          refine go_iload_n dX7_news_63 rfl ?_
          refine go_iald dX7_news_64 rfl (by decide) rfl (by omega) (by decide) rfl ?_
          exact go_iret dX7_news_65 rfl rfl rfl
      | 2, _ =>
        refine ⟨(m.1 52 n), m, gup m 46 0 (nI 0), ?_, ?_, hthr⟩
        · show Go O (d + 4) kX6_news _ _ 0 [.ref 0, .int (nI n), .int (nI 2)] [] m
          refine go_aload_n dX6_news_0 rfl ?_
          refine go_iload_n dX6_news_1 rfl ?_
          refine go_callV1 (K' := kX6_isNews) [_] dX6_news_2 mX6_116 lX6_isNews rfl (by decide) rfl (by decide) rfl rfl (Nat.le_of_ble_eq_true rfl) (Nat.le_of_ble_eq_true rfl) (c_isNews_35 hT t6 (by omega)) ?_
          refine go_if_ne 10 dX6_news_5 (by decide) (fun h5 => ?_) (fun h => absurd h (bI_n0.mpr hin))
          refine go_iload_n dX6_news_10 rfl ?_
          refine go_tableIn (off := 53) 64 dX6_news_11 (by decide +kernel) (by decide +kernel) (by decide +kernel) (by decide) ?_
          refine go_aload_n dX6_news_64 rfl ?_
          refine go_getc dX6_news_65 fX6_19 rfl (by decide) (by decide) (by decide) rfl ?_
          refine go_iload_n dX6_news_68 rfl ?_
          refine go_callV1 (K' := kX5_tellingsOf) [_] dX6_news_69 mX6_126 lX5_tellingsOf rfl (by decide) rfl (by decide) rfl rfl (Nat.le_of_ble_eq_true rfl) (Nat.le_of_ble_eq_true rfl) (c_tellingsOf_3 (by omega)) ?_
          exact go_iret dX6_news_72 rfl (by rw [spl n 0 (by omega) (by omega), spl n 1 (by omega) (by omega), spl n 2 (by omega) (by omega), ok3 n (by omega)]) rfl
        · show Go O (d + 4) kX7_news _ _ 0 [.ref 46, .int (nI n), .int (nI 2)] [] m
          refine go_aload_n dX7_news_0 rfl ?_
          refine go_iconst (nI 0) dX7_news_1 (by decide +kernel) ?_
          refine go_puti dX7_news_2 fX7_77 rfl (by decide) (by decide) (by decide) rfl (fun _ _ _ h => by cases h; rfl) (Or.inl rfl) ?_
          refine go_aload_n dX7_news_5 rfl ?_
          refine go_iload_n dX7_news_6 rfl ?_
          refine go_callV1 (K' := kX7_noNews) [_] dX7_news_7 mX7_155 lX7_noNews rfl (by decide) rfl (by decide) rfl rfl (Nat.le_of_ble_eq_true rfl) (Nat.le_of_ble_eq_true rfl) (c_noNews hN (by omega)) ?_
          refine go_if_eq 15 dX7_news_10 (by decide) (fun h10 => ?_) (fun h => absurd (bI_0.mpr (by rw [hin]; rfl)) h)
          refine go_iload_n dX7_news_15 rfl ?_
          refine go_tableIn (off := 50) 66 dX7_news_16 (by decide +kernel) (by decide +kernel) (by decide +kernel) (by decide) ?_
          refine go_aload_n dX7_news_66 rfl ?_
          refine go_getc dX7_news_67 fX7_25 rfl (by decide) (by decide) (by decide) rfl ?_
          refine go_iload_n dX7_news_70 rfl ?_
          refine go_iald dX7_news_71 rfl (by decide) rfl (by omega) (by decide) rfl ?_
          exact go_iret dX7_news_72 rfl rfl rfl
      | 3, _ =>
        refine ⟨(m.1 52 (3 + n)), m, gup m 46 0 (nI 0), ?_, ?_, hthr⟩
        · show Go O (d + 4) kX6_news _ _ 0 [.ref 0, .int (nI n), .int (nI 3)] [] m
          refine go_aload_n dX6_news_0 rfl ?_
          refine go_iload_n dX6_news_1 rfl ?_
          refine go_callV1 (K' := kX6_isNews) [_] dX6_news_2 mX6_116 lX6_isNews rfl (by decide) rfl (by decide) rfl rfl (Nat.le_of_ble_eq_true rfl) (Nat.le_of_ble_eq_true rfl) (c_isNews_35 hT t6 (by omega)) ?_
          refine go_if_ne 10 dX6_news_5 (by decide) (fun h5 => ?_) (fun h => absurd h (bI_n0.mpr hin))
          refine go_iload_n dX6_news_10 rfl ?_
          refine go_tableIn (off := 62) 73 dX6_news_11 (by decide +kernel) (by decide +kernel) (by decide +kernel) (by decide) ?_
          refine go_aload_n dX6_news_73 rfl ?_
          refine go_getc dX6_news_74 fX6_19 rfl (by decide) (by decide) (by decide) rfl ?_
          refine go_getc dX6_news_77 fX6_130 rfl (by decide) (by decide) (by decide) rfl ?_
          refine go_iload_n dX6_news_80 rfl ?_
          refine go_iald dX6_news_81 rfl (by decide) rfl (by omega) (by decide) (sk n (by omega)) ?_
          exact go_iret dX6_news_82 rfl rfl rfl
        · show Go O (d + 4) kX7_news _ _ 0 [.ref 46, .int (nI n), .int (nI 3)] [] m
          refine go_aload_n dX7_news_0 rfl ?_
          refine go_iconst (nI 0) dX7_news_1 (by decide +kernel) ?_
          refine go_puti dX7_news_2 fX7_77 rfl (by decide) (by decide) (by decide) rfl (fun _ _ _ h => by cases h; rfl) (Or.inl rfl) ?_
          refine go_aload_n dX7_news_5 rfl ?_
          refine go_iload_n dX7_news_6 rfl ?_
          refine go_callV1 (K' := kX7_noNews) [_] dX7_news_7 mX7_155 lX7_noNews rfl (by decide) rfl (by decide) rfl rfl (Nat.le_of_ble_eq_true rfl) (Nat.le_of_ble_eq_true rfl) (c_noNews hN (by omega)) ?_
          refine go_if_eq 15 dX7_news_10 (by decide) (fun h10 => ?_) (fun h => absurd (bI_0.mpr (by rw [hin]; rfl)) h)
          refine go_iload_n dX7_news_15 rfl ?_
          refine go_tableIn (off := 57) 73 dX7_news_16 (by decide +kernel) (by decide +kernel) (by decide +kernel) (by decide) ?_
          refine go_aload_n dX7_news_73 rfl ?_
          refine go_getc dX7_news_74 fX7_25 rfl (by decide) (by decide) (by decide) rfl ?_
          refine go_iconst (nI 3) dX7_news_77 (by decide +kernel) ?_
          refine go_iload_n dX7_news_78 rfl ?_
          first | refine go_iadd_n dX7_news_79 ?_ | refine go_iadd dX7_news_79 rfl ?_
          refine go_iald dX7_news_80 rfl (by decide) rfl (by omega) (by decide) rfl ?_
          exact go_iret dX7_news_81 rfl rfl rfl
      | 4, _ =>
        refine ⟨(m.1 51 n), m, gup m 46 0 (nI 0), ?_, ?_, hthr⟩
        · show Go O (d + 4) kX6_news _ _ 0 [.ref 0, .int (nI n), .int (nI 4)] [] m
          refine go_aload_n dX6_news_0 rfl ?_
          refine go_iload_n dX6_news_1 rfl ?_
          refine go_callV1 (K' := kX6_isNews) [_] dX6_news_2 mX6_116 lX6_isNews rfl (by decide) rfl (by decide) rfl rfl (Nat.le_of_ble_eq_true rfl) (Nat.le_of_ble_eq_true rfl) (c_isNews_35 hT t6 (by omega)) ?_
          refine go_if_ne 10 dX6_news_5 (by decide) (fun h5 => ?_) (fun h => absurd h (bI_n0.mpr hin))
          refine go_iload_n dX6_news_10 rfl ?_
          refine go_tableIn (off := 72) 83 dX6_news_11 (by decide +kernel) (by decide +kernel) (by decide +kernel) (by decide) ?_
          refine go_aload_n dX6_news_83 rfl ?_
          refine go_getm dX6_news_84 fX6_47 rfl (by decide) (by decide) (by decide) rfl hT ?_
          refine go_getc dX6_news_87 fX6_133 rfl (by decide) (by decide) (by decide) rfl ?_
          refine go_iload_n dX6_news_90 rfl ?_
          refine go_iald dX6_news_91 rfl (by decide) rfl (by omega) (by decide) (tn n hnN).2.2 ?_
          exact go_iret dX6_news_92 rfl rfl rfl
        · show Go O (d + 4) kX7_news _ _ 0 [.ref 46, .int (nI n), .int (nI 4)] [] m
          refine go_aload_n dX7_news_0 rfl ?_
          refine go_iconst (nI 0) dX7_news_1 (by decide +kernel) ?_
          refine go_puti dX7_news_2 fX7_77 rfl (by decide) (by decide) (by decide) rfl (fun _ _ _ h => by cases h; rfl) (Or.inl rfl) ?_
          refine go_aload_n dX7_news_5 rfl ?_
          refine go_iload_n dX7_news_6 rfl ?_
          refine go_callV1 (K' := kX7_noNews) [_] dX7_news_7 mX7_155 lX7_noNews rfl (by decide) rfl (by decide) rfl rfl (Nat.le_of_ble_eq_true rfl) (Nat.le_of_ble_eq_true rfl) (c_noNews hN (by omega)) ?_
          refine go_if_eq 15 dX7_news_10 (by decide) (fun h10 => ?_) (fun h => absurd (bI_0.mpr (by rw [hin]; rfl)) h)
          refine go_iload_n dX7_news_15 rfl ?_
          refine go_tableIn (off := 66) 82 dX7_news_16 (by decide +kernel) (by decide +kernel) (by decide +kernel) (by decide) ?_
          refine go_aload_n dX7_news_82 rfl ?_
          refine go_getc dX7_news_83 fX7_22 rfl (by decide) (by decide) (by decide) rfl ?_
          refine go_iload_n dX7_news_86 rfl ?_
          refine go_iald dX7_news_87 rfl (by decide) rfl (by omega) (by decide) rfl ?_
          exact go_iret dX7_news_88 rfl rfl rfl
      | j + 5, hj => exact absurd hj (by omega)
theorem c_tellingsOfAll_35 {O : gOm} {d : Nat} {m : gMem} {N : Nat} {f : Nat → Int32} (hT : m.2 0 = 35) (t6 : m.1 35 6 = nI N) (hN3 : N ≤ 3) (hs : ∀ n, n < 3 → nI 0 + m.1 7 (n * 3 + 0) + m.1 7 (n * 3 + 1) + m.1 7 (n * 3 + 2) = f n) : Ca O (d + 1) kX6_tellingsOfAll [.ref 0] (some (.int (tA f N))) m m := by
  have key : ∀ c n, n + c = N → Go O (d + 1) kX6_tellingsOfAll (some (.int (tA f N))) m 4 [.ref 0, .int (tA f n), .int (nI n)] [] m := by
    intro c
    induction c with
    | zero =>
      intro n hn
      obtain rfl : n = N := by omega
      refine go_iload_n dX6_tellingsOfAll_4 rfl ?_
      refine go_aload_n dX6_tellingsOfAll_5 rfl ?_
      refine go_getm dX6_tellingsOfAll_6 fX6_47 rfl (by decide) (by decide) (by decide) rfl hT ?_
      refine go_geti dX6_tellingsOfAll_9 fX6_88 rfl (by decide) (by decide) (by decide) rfl t6 ?_
      refine go_icmp_ge 32 dX6_tellingsOfAll_12 (by decide) (fun h12 => ?_) (fun h => absurd (nI_le (by omega) (by omega)) h)
      refine go_iload_n dX6_tellingsOfAll_32 rfl ?_
      exact go_iret dX6_tellingsOfAll_33 rfl rfl rfl
    | succ c ih =>
      intro n hn
      have ev : tA f n + (nI 0 + m.1 7 (n * 3 + 0) + m.1 7 (n * 3 + 1) + m.1 7 (n * 3 + 2)) = tA f (n + 1) := by rw [hs n (by omega)]; rfl
      refine go_iload_n dX6_tellingsOfAll_4 rfl ?_
      refine go_aload_n dX6_tellingsOfAll_5 rfl ?_
      refine go_getm dX6_tellingsOfAll_6 fX6_47 rfl (by decide) (by decide) (by decide) rfl hT ?_
      refine go_geti dX6_tellingsOfAll_9 fX6_88 rfl (by decide) (by decide) (by decide) rfl t6 ?_
      refine go_icmp_ge 32 dX6_tellingsOfAll_12 (by decide) (fun h => absurd h (nI_ge (by omega) (by omega))) (fun h12 => ?_)
      refine go_iload_n dX6_tellingsOfAll_15 rfl ?_
      refine go_aload_n dX6_tellingsOfAll_16 rfl ?_
      refine go_getc dX6_tellingsOfAll_17 fX6_19 rfl (by decide) (by decide) (by decide) rfl ?_
      refine go_iload_n dX6_tellingsOfAll_20 rfl ?_
      refine go_callV1 (K' := kX5_tellingsOf) [_] dX6_tellingsOfAll_21 mX6_126 lX5_tellingsOf rfl (by decide) rfl (by decide) rfl rfl (Nat.le_of_ble_eq_true rfl) (Nat.le_of_ble_eq_true rfl) (c_tellingsOf_3 (by omega)) ?_
      refine go_iadd dX6_tellingsOfAll_24 ev ?_
      refine go_istore_n (L' := [_, _, _]) dX6_tellingsOfAll_25 (by decide) rfl ?_
      refine go_iinc_n (L' := [_, _, _]) dX6_tellingsOfAll_26 rfl (by decide) rfl ?_
      refine go_goto 4 dX6_tellingsOfAll_29 (by decide) ?_
      exact ih (n + 1) (by omega)
  show Go O (d + 1) kX6_tellingsOfAll _ m 0 [.ref 0, .null, .null] [] m
  refine go_iconst (nI 0) dX6_tellingsOfAll_0 (by decide +kernel) ?_
  refine go_istore_n (L' := [_, _, _]) dX6_tellingsOfAll_1 (by decide) rfl ?_
  refine go_iconst (nI 0) dX6_tellingsOfAll_2 (by decide +kernel) ?_
  refine go_istore_n (L' := [_, _, _]) dX6_tellingsOfAll_3 (by decide) rfl ?_
  exact key N 0 (by omega)
theorem c_worthOfAll_35 {O : gOm} {d : Nat} {m : gMem} {N : Nat} {w : Nat → Int32} {k : Nat → Nat} (hT : m.2 0 = 35) (t6 : m.1 35 6 = nI N) (hN3 : N ≤ 3) (hw : ∀ n, n < N → m.1 39 n = w n) (hk : ∀ n, n < N → m.1 4 n = nI (k n) ∧ k n < 64) : Ca O (d + 1) kX6_worthOfAll [.ref 0] (some (.int (wA w k N))) m m := by
  have key : ∀ c n, n + c = N → Go O (d + 1) kX6_worthOfAll (some (.int (wA w k N))) m 4 [.ref 0, .int (wA w k n), .int (nI n)] [] m := by
    intro c
    induction c with
    | zero =>
      intro n hn
      obtain rfl : n = N := by omega
      refine go_iload_n dX6_worthOfAll_4 rfl ?_
      refine go_aload_n dX6_worthOfAll_5 rfl ?_
      refine go_getm dX6_worthOfAll_6 fX6_47 rfl (by decide) (by decide) (by decide) rfl hT ?_
      refine go_geti dX6_worthOfAll_9 fX6_88 rfl (by decide) (by decide) (by decide) rfl t6 ?_
      refine go_icmp_ge 46 dX6_worthOfAll_12 (by decide) (fun h12 => ?_) (fun h => absurd (nI_le (by omega) (by omega)) h)
      refine go_iload_n dX6_worthOfAll_46 rfl ?_
      exact go_iret dX6_worthOfAll_47 rfl rfl rfl
    | succ c ih =>
      intro n hn
      refine go_iload_n dX6_worthOfAll_4 rfl ?_
      refine go_aload_n dX6_worthOfAll_5 rfl ?_
      refine go_getm dX6_worthOfAll_6 fX6_47 rfl (by decide) (by decide) (by decide) rfl hT ?_
      refine go_geti dX6_worthOfAll_9 fX6_88 rfl (by decide) (by decide) (by decide) rfl t6 ?_
      refine go_icmp_ge 46 dX6_worthOfAll_12 (by decide) (fun h => absurd h (nI_ge (by omega) (by omega))) (fun h12 => ?_)
      refine go_iload_n dX6_worthOfAll_15 rfl ?_
      refine go_aload_n dX6_worthOfAll_16 rfl ?_
      refine go_getm dX6_worthOfAll_17 fX6_47 rfl (by decide) (by decide) (by decide) rfl hT ?_
      refine go_getc dX6_worthOfAll_20 fX6_123 rfl (by decide) (by decide) (by decide) rfl ?_
      refine go_iload_n dX6_worthOfAll_23 rfl ?_
      refine go_iald dX6_worthOfAll_24 rfl (by decide) rfl (by omega) (by decide) (hw n (by omega)) ?_
      refine go_aload_n dX6_worthOfAll_25 rfl ?_
      refine go_getc dX6_worthOfAll_26 fX6_19 rfl (by decide) (by decide) (by decide) rfl ?_
      refine go_getc dX6_worthOfAll_29 fX6_130 rfl (by decide) (by decide) (by decide) rfl ?_
      refine go_iload_n dX6_worthOfAll_32 rfl ?_
      refine go_iald dX6_worthOfAll_33 rfl (by decide) rfl (by omega) (by decide) (hk n (by omega)).1 ?_
      refine go_callS1 (K' := kJ6_bitCount_0f7a4) [_] dX6_worthOfAll_34 mX6_257 lJ6_bitCount_0f7a4 rfl rfl (Nat.le_of_ble_eq_true rfl) (Nat.le_of_ble_eq_true rfl) (c_bitCount (hk n (by omega)).2) ?_
      refine go_imul dX6_worthOfAll_37 rfl ?_
      refine go_iadd dX6_worthOfAll_38 rfl ?_
      refine go_istore_n (L' := [_, _, _]) dX6_worthOfAll_39 (by decide) rfl ?_
      refine go_iinc_n (L' := [_, _, _]) dX6_worthOfAll_40 rfl (by decide) rfl ?_
      refine go_goto 4 dX6_worthOfAll_43 (by decide) ?_
      exact ih (n + 1) (by omega)
  show Go O (d + 1) kX6_worthOfAll _ m 0 [.ref 0, .null, .null] [] m
  refine go_iconst (nI 0) dX6_worthOfAll_0 (by decide +kernel) ?_
  refine go_istore_n (L' := [_, _, _]) dX6_worthOfAll_1 (by decide) rfl ?_
  refine go_iconst (nI 0) dX6_worthOfAll_2 (by decide +kernel) ?_
  refine go_istore_n (L' := [_, _, _]) dX6_worthOfAll_3 (by decide) rfl ?_
  exact key N 0 (by omega)
theorem op_about_35 {O : gOm} {d : Nat} {m : gMem} {x : Int32} (h0 : Inv m) (hT : m.2 0 = 35) : OpOk O (d + 4) kX6_about kX7_about [.int x] m := by
  have hthr := h0.thr
  obtain ⟨P, N, lw, hr, a, c, L, lim, h1, h2, h3, h4, h5, h6, h7, h8⟩ := h0
  obtain ⟨hP, hP6, hN, hN3, hlw, hl3, hw, hlim, hfs⟩ := id h2
  obtain ⟨t5, t6, t7, tp, tg, tn⟩ : IvT m 35 P N lw := hT ▸ h3
  obtain ⟨⟨s4, sk, st, sa, spl⟩, h11, ok1, ok2, ok3, ok4, ok5⟩ := id h4
  have hk : ∀ n, n < 3 → m.1 52 (3 + n) = nI ((m.1 52 (3 + n)).toNatClampNeg) ∧ (m.1 52 (3 + n)).toNatClampNeg < 64 := by
    intro n hn
    obtain ⟨k, q1, q2⟩ := ok2 n hn
    rw [q2, nI_clamp (by omega)]
    exact ⟨rfl, q1⟩
  have cS := c_tellingsOfAll_35 (O := O) (d := d + 2) (f := m.1 52) hT t6 hN3 (fun n hn => by rw [spl n 0 hn (by omega), spl n 1 hn (by omega), spl n 2 hn (by omega), ok3 n hn])
  have cW := c_worthOfAll_35 (O := O) (d := d + 2) (w := m.1 50) (k := fun n => (m.1 52 (3 + n)).toNatClampNeg) hT t6 hN3 (fun n hn => (tn n hn).2.1) (fun n hn => ⟨(sk n (by omega)).trans (hk n (by omega)).1, (hk n (by omega)).2⟩)
  have key : ∀ r, Go O (d + 4) kX7_about (some (.int r)) (gup m 46 0 (nI 0)) 60 [.ref 46, .int x, .int (tA (m.1 52) N), .int (wA (m.1 50) (fun n => (m.1 52 (3 + n)).toNatClampNeg) N), .int (nI N)] [] (gup m 46 0 (nI 0)) → Ca O (d + 4) kX7_about [.ref 46, .int x] (some (.int r)) m (gup m 46 0 (nI 0)) := by
    intro r hgo
    have lp : ∀ c n, n + c = N → Go O (d + 4) kX7_about (some (.int r)) (gup m 46 0 (nI 0)) 12 [.ref 46, .int x, .int (tA (m.1 52) n), .int (wA (m.1 50) (fun n => (m.1 52 (3 + n)).toNatClampNeg) n), .int (nI n)] [] (gup m 46 0 (nI 0)) := by
      intro c
      induction c with
      | zero =>
        intro n hn
        obtain rfl : n = N := by omega
        refine go_iload dX7_about_12 rfl ?_
        refine go_aload_n dX7_about_14 rfl ?_
        refine go_geti dX7_about_15 fX7_88 rfl (by decide) (by decide) (by decide) rfl hN ?_
        refine go_icmp_ge 60 dX7_about_18 (by decide) (fun h18 => ?_) (fun h => absurd (nI_le (by omega) (by omega)) h)
        exact hgo
      | succ c ih =>
        intro n hn
        refine go_iload dX7_about_12 rfl ?_
        refine go_aload_n dX7_about_14 rfl ?_
        refine go_geti dX7_about_15 fX7_88 rfl (by decide) (by decide) (by decide) rfl hN ?_
        refine go_icmp_ge 60 dX7_about_18 (by decide) (fun h => absurd h (nI_ge (by omega) (by omega))) (fun h18 => ?_)
        refine go_iload_n dX7_about_21 rfl ?_
        refine go_aload_n dX7_about_22 rfl ?_
        refine go_getc dX7_about_23 fX7_25 rfl (by decide) (by decide) (by decide) rfl ?_
        refine go_iload dX7_about_26 rfl ?_
        refine go_iald dX7_about_28 rfl (by decide) rfl (by omega) (by decide) rfl ?_
        refine go_iadd dX7_about_29 rfl ?_
        refine go_istore_n (L' := [_, _, _, _, _]) dX7_about_30 (by decide) rfl ?_
        refine go_iload_n dX7_about_31 rfl ?_
        refine go_aload_n dX7_about_32 rfl ?_
        refine go_getc dX7_about_33 fX7_19 rfl (by decide) (by decide) (by decide) rfl ?_
        refine go_iload dX7_about_36 rfl ?_
        refine go_iald dX7_about_38 rfl (by decide) rfl (by omega) (by decide) rfl ?_
        refine go_aload_n dX7_about_39 rfl ?_
        refine go_getc dX7_about_40 fX7_25 rfl (by decide) (by decide) (by decide) rfl ?_
        refine go_iconst (nI 3) dX7_about_43 (by decide +kernel) ?_
        refine go_iload dX7_about_44 rfl ?_
        first | refine go_iadd_n dX7_about_46 ?_ | refine go_iadd dX7_about_46 rfl ?_
        refine go_iald dX7_about_47 rfl (by decide) rfl (by omega) (by decide) (hk n (by omega)).1 ?_
        refine go_callS1 (K' := kX7_many) [_] dX7_about_48 mX7_143 lX7_many rfl rfl (Nat.le_of_ble_eq_true rfl) (Nat.le_of_ble_eq_true rfl) (c_many (by have := (hk n (by omega)).2; omega)) ?_
        refine go_imul dX7_about_51 rfl ?_
        refine go_iadd dX7_about_52 rfl ?_
        refine go_istore_n (L' := [_, _, _, _, _]) dX7_about_53 (by decide) rfl ?_
        refine go_iinc_n (L' := [_, _, _, _, _]) dX7_about_54 rfl (by decide) rfl ?_
        refine go_goto 12 dX7_about_57 (by decide) ?_
        exact ih (n + 1) (by omega)
    show Go O (d + 4) kX7_about _ _ 0 [.ref 46, .int x, .null, .null, .null] [] m
    refine go_aload_n dX7_about_0 rfl ?_
    refine go_iconst (nI 0) dX7_about_1 (by decide +kernel) ?_
    refine go_puti dX7_about_2 fX7_77 rfl (by decide) (by decide) (by decide) rfl (fun _ _ _ h => by cases h; rfl) (Or.inl rfl) ?_
    refine go_iconst (nI 0) dX7_about_5 (by decide +kernel) ?_
    refine go_istore_n (L' := [_, _, _, _, _]) dX7_about_6 (by decide) rfl ?_
    refine go_iconst (nI 0) dX7_about_7 (by decide +kernel) ?_
    refine go_istore_n (L' := [_, _, _, _, _]) dX7_about_8 (by decide) rfl ?_
    refine go_iconst (nI 0) dX7_about_9 (by decide +kernel) ?_
    refine go_istore (L' := [_, _, _, _, _]) dX7_about_10 (by decide) rfl ?_
    exact lp N 0 (by omega)
  cases hix : iR x 9 with
  | false =>
    have ho := iR_out (n := 8) hix
    refine ⟨(-2), m, (gup m 46 0 (nI 0)), ?_, key _ ?_, hthr⟩
    · show Go O (d + 4) kX6_about _ _ 0 [.ref 0, .int x] [] m
      refine go_iload_n dX6_about_0 rfl ?_
      refine go_tableOut 118 dX6_about_1 (ho) (by decide) ?_
      refine go_bipush (-2) dX6_about_118 (by decide +kernel) ?_
      exact go_iret dX6_about_120 rfl rfl rfl
    · refine go_iload_n dX7_about_60 rfl ?_
      refine go_tableOut 151 dX7_about_61 (ho) (by decide) ?_
      refine go_bipush (-2) dX7_about_151 (by decide +kernel) ?_
      exact go_iret dX7_about_153 rfl rfl rfl
  | true =>
    obtain ⟨j, hj, rfl⟩ := iR_of hix
    match j, hj with
    | 0, _ =>
      refine ⟨(nI P), m, (gup m 46 0 (nI 0)), ?_, key _ ?_, hthr⟩
      · show Go O (d + 4) kX6_about _ _ 0 [.ref 0, .int (nI 0)] [] m
        refine go_iload_n dX6_about_0 rfl ?_
        refine go_tableIn (off := 51) 52 dX6_about_1 (by decide +kernel) (by decide +kernel) (by decide +kernel) (by decide) ?_
        refine go_aload_n dX6_about_52 rfl ?_
        refine go_getm dX6_about_53 fX6_47 rfl (by decide) (by decide) (by decide) rfl hT ?_
        refine go_geti dX6_about_56 fX6_85 rfl (by decide) (by decide) (by decide) rfl t5 ?_
        exact go_iret dX6_about_59 rfl rfl rfl
      · refine go_iload_n dX7_about_60 rfl ?_
        refine go_tableIn (off := 51) 112 dX7_about_61 (by decide +kernel) (by decide +kernel) (by decide +kernel) (by decide) ?_
        refine go_aload_n dX7_about_112 rfl ?_
        refine go_geti dX7_about_113 fX7_81 rfl (by decide) (by decide) (by decide) rfl hP ?_
        exact go_iret dX7_about_116 rfl rfl rfl
    | 1, _ =>
      refine ⟨(nI N), m, (gup m 46 0 (nI 0)), ?_, key _ ?_, hthr⟩
      · show Go O (d + 4) kX6_about _ _ 0 [.ref 0, .int (nI 1)] [] m
        refine go_iload_n dX6_about_0 rfl ?_
        refine go_tableIn (off := 59) 60 dX6_about_1 (by decide +kernel) (by decide +kernel) (by decide +kernel) (by decide) ?_
        refine go_aload_n dX6_about_60 rfl ?_
        refine go_getm dX6_about_61 fX6_47 rfl (by decide) (by decide) (by decide) rfl hT ?_
        refine go_geti dX6_about_64 fX6_88 rfl (by decide) (by decide) (by decide) rfl t6 ?_
        exact go_iret dX6_about_67 rfl rfl rfl
      · refine go_iload_n dX7_about_60 rfl ?_
        refine go_tableIn (off := 56) 117 dX7_about_61 (by decide +kernel) (by decide +kernel) (by decide +kernel) (by decide) ?_
        refine go_aload_n dX7_about_117 rfl ?_
        refine go_geti dX7_about_118 fX7_88 rfl (by decide) (by decide) (by decide) rfl hN ?_
        exact go_iret dX7_about_121 rfl rfl rfl
    | 2, _ =>
      refine ⟨(nI lw), m, (gup m 46 0 (nI 0)), ?_, key _ ?_, hthr⟩
      · show Go O (d + 4) kX6_about _ _ 0 [.ref 0, .int (nI 2)] [] m
        refine go_iload_n dX6_about_0 rfl ?_
        refine go_tableIn (off := 67) 68 dX6_about_1 (by decide +kernel) (by decide +kernel) (by decide +kernel) (by decide) ?_
        refine go_aload_n dX6_about_68 rfl ?_
        refine go_getm dX6_about_69 fX6_47 rfl (by decide) (by decide) (by decide) rfl hT ?_
        refine go_geti dX6_about_72 fX6_91 rfl (by decide) (by decide) (by decide) rfl t7 ?_
        exact go_iret dX6_about_75 rfl rfl rfl
      · refine go_iload_n dX7_about_60 rfl ?_
        refine go_tableIn (off := 61) 122 dX7_about_61 (by decide +kernel) (by decide +kernel) (by decide +kernel) (by decide) ?_
        refine go_aload_n dX7_about_122 rfl ?_
        refine go_geti dX7_about_123 fX7_130 rfl (by decide) (by decide) (by decide) rfl hlw ?_
        exact go_iret dX7_about_126 rfl rfl rfl
    | 3, _ =>
      refine ⟨(nI hr), m, (gup m 46 0 (nI 0)), ?_, key _ ?_, hthr⟩
      · show Go O (d + 4) kX6_about _ _ 0 [.ref 0, .int (nI 3)] [] m
        refine go_iload_n dX6_about_0 rfl ?_
        refine go_tableIn (off := 75) 76 dX6_about_1 (by decide +kernel) (by decide +kernel) (by decide +kernel) (by decide) ?_
        refine go_aload_n dX6_about_76 rfl ?_
        refine go_getc dX6_about_77 fX6_19 rfl (by decide) (by decide) (by decide) rfl ?_
        refine go_geti dX6_about_80 fX6_94 rfl (by decide) (by decide) (by decide) rfl s4 ?_
        exact go_iret dX6_about_83 rfl rfl rfl
      · refine go_iload_n dX7_about_60 rfl ?_
        refine go_tableIn (off := 66) 127 dX7_about_61 (by decide +kernel) (by decide +kernel) (by decide +kernel) (by decide) ?_
        refine go_aload_n dX7_about_127 rfl ?_
        refine go_geti dX7_about_128 fX7_137 rfl (by decide) (by decide) (by decide) rfl h11 ?_
        exact go_iret dX7_about_131 rfl rfl rfl
    | 4, _ =>
      refine ⟨(nI a), m, (gup m 46 0 (nI 0)), ?_, key _ ?_, hthr⟩
      · show Go O (d + 4) kX6_about _ _ 0 [.ref 0, .int (nI 4)] [] m
        refine go_iload_n dX6_about_0 rfl ?_
        refine go_tableIn (off := 83) 84 dX6_about_1 (by decide +kernel) (by decide +kernel) (by decide +kernel) (by decide) ?_
        refine go_aload_n dX6_about_84 rfl ?_
        refine go_getc dX6_about_85 fX6_33 rfl (by decide) (by decide) (by decide) rfl ?_
        refine go_geti dX6_about_88 fX6_78 rfl (by decide) (by decide) (by decide) rfl h5.2.1 ?_
        exact go_iret dX6_about_91 rfl rfl rfl
      · refine go_iload_n dX7_about_60 rfl ?_
        refine go_tableIn (off := 71) 132 dX7_about_61 (by decide +kernel) (by decide +kernel) (by decide +kernel) (by decide) ?_
        refine go_aload_n dX7_about_132 rfl ?_
        refine go_geti dX7_about_133 fX7_140 rfl (by decide) (by decide) (by decide) rfl h5.2.2.1 ?_
        exact go_iret dX7_about_136 rfl rfl rfl
    | 5, _ =>
      refine ⟨(tA (m.1 52) N), m, (gup m 46 0 (nI 0)), ?_, key _ ?_, hthr⟩
      · show Go O (d + 4) kX6_about _ _ 0 [.ref 0, .int (nI 5)] [] m
        refine go_iload_n dX6_about_0 rfl ?_
        refine go_tableIn (off := 91) 92 dX6_about_1 (by decide +kernel) (by decide +kernel) (by decide +kernel) (by decide) ?_
        refine go_aload_n dX6_about_92 rfl ?_
        refine go_callV1 (K' := kX6_tellingsOfAll) [] dX6_about_93 mX6_97 lX6_tellingsOfAll rfl (by decide) rfl (by decide) rfl rfl (Nat.le_of_ble_eq_true rfl) (Nat.le_of_ble_eq_true rfl) (cS) ?_
        exact go_iret dX6_about_96 rfl rfl rfl
      · refine go_iload_n dX7_about_60 rfl ?_
        refine go_tableIn (off := 76) 137 dX7_about_61 (by decide +kernel) (by decide +kernel) (by decide +kernel) (by decide) ?_
        refine go_iload_n dX7_about_137 rfl ?_
        exact go_iret dX7_about_138 rfl rfl rfl
    | 6, _ =>
      refine ⟨(wA (m.1 50) (fun n => (m.1 52 (3 + n)).toNatClampNeg) N), m, (gup m 46 0 (nI 0)), ?_, key _ ?_, hthr⟩
      · show Go O (d + 4) kX6_about _ _ 0 [.ref 0, .int (nI 6)] [] m
        refine go_iload_n dX6_about_0 rfl ?_
        refine go_tableIn (off := 96) 97 dX6_about_1 (by decide +kernel) (by decide +kernel) (by decide +kernel) (by decide) ?_
        refine go_aload_n dX6_about_97 rfl ?_
        refine go_callV1 (K' := kX6_worthOfAll) [] dX6_about_98 mX6_101 lX6_worthOfAll rfl (by decide) rfl (by decide) rfl rfl (Nat.le_of_ble_eq_true rfl) (Nat.le_of_ble_eq_true rfl) (cW) ?_
        exact go_iret dX6_about_101 rfl rfl rfl
      · refine go_iload_n dX7_about_60 rfl ?_
        refine go_tableIn (off := 78) 139 dX7_about_61 (by decide +kernel) (by decide +kernel) (by decide +kernel) (by decide) ?_
        refine go_iload_n dX7_about_139 rfl ?_
        exact go_iret dX7_about_140 rfl rfl rfl
    | 7, _ =>
      refine ⟨(nI c), m, (gup m 46 0 (nI 0)), ?_, key _ ?_, hthr⟩
      · show Go O (d + 4) kX6_about _ _ 0 [.ref 0, .int (nI 7)] [] m
        refine go_iload_n dX6_about_0 rfl ?_
        refine go_tableIn (off := 101) 102 dX6_about_1 (by decide +kernel) (by decide +kernel) (by decide +kernel) (by decide) ?_
        refine go_aload_n dX6_about_102 rfl ?_
        refine go_getc dX6_about_103 fX6_40 rfl (by decide) (by decide) (by decide) rfl ?_
        refine go_geti dX6_about_106 fX6_104 rfl (by decide) (by decide) (by decide) rfl h7.2.1 ?_
        exact go_iret dX6_about_109 rfl rfl rfl
      · refine go_iload_n dX7_about_60 rfl ?_
        refine go_tableIn (off := 80) 141 dX7_about_61 (by decide +kernel) (by decide +kernel) (by decide +kernel) (by decide) ?_
        refine go_aload_n dX7_about_141 rfl ?_
        refine go_geti dX7_about_142 fX7_147 rfl (by decide) (by decide) (by decide) rfl h7.2.2.1 ?_
        exact go_iret dX7_about_145 rfl rfl rfl
    | 8, _ =>
      refine ⟨(nI L), m, (gup m 46 0 (nI 0)), ?_, key _ ?_, hthr⟩
      · show Go O (d + 4) kX6_about _ _ 0 [.ref 0, .int (nI 8)] [] m
        refine go_iload_n dX6_about_0 rfl ?_
        refine go_tableIn (off := 109) 110 dX6_about_1 (by decide +kernel) (by decide +kernel) (by decide +kernel) (by decide) ?_
        refine go_aload_n dX6_about_110 rfl ?_
        refine go_getc dX6_about_111 fX6_12 rfl (by decide) (by decide) (by decide) rfl ?_
        refine go_geti dX6_about_114 fX6_63 rfl (by decide) (by decide) (by decide) rfl h8.2.1 ?_
        exact go_iret dX6_about_117 rfl rfl rfl
      · refine go_iload_n dX7_about_60 rfl ?_
        refine go_tableIn (off := 85) 146 dX7_about_61 (by decide +kernel) (by decide +kernel) (by decide +kernel) (by decide) ?_
        refine go_aload_n dX7_about_146 rfl ?_
        refine go_geti dX7_about_147 fX7_93 rfl (by decide) (by decide) (by decide) rfl h8.2.2.1 ?_
        exact go_iret dX7_about_150 rfl rfl rfl
    | j + 9, hj => exact absurd hj (by omega)
theorem op_news {O : gOm} {d : Nat} {m : gMem} {n x : Int32} (h0 : Inv m) : OpOk O (d + 4) kX6_news kX7_news [.int n, .int x] m := by
  have hh := h0
  obtain ⟨P, N, lw, hr, a, c, L, lim, h1, h2, h3, h4, h5, h6, h7, h8⟩ := hh
  rcases h1 with ⟨e, -⟩ | ⟨e, -⟩
  · exact op_news_29 h0 e
  · exact op_news_35 h0 e
theorem op_about {O : gOm} {d : Nat} {m : gMem} {x : Int32} (h0 : Inv m) : OpOk O (d + 4) kX6_about kX7_about [.int x] m := by
  have hh := h0
  obtain ⟨P, N, lw, hr, a, c, L, lim, h1, h2, h3, h4, h5, h6, h7, h8⟩ := hh
  rcases h1 with ⟨e, -⟩ | ⟨e, -⟩
  · exact op_about_29 h0 e
  · exact op_about_35 h0 e
