/-! FAULT, DAY -/
theorem tx_text {m : gMem} {L : Nat} (h : IvX m L) : ∃ x : Nat → Nat, TxC m L x ∧ TxM m L x := by
  obtain ⟨h1, h2, h3, h4⟩ := h
  have key : ∃ x : Nat → Nat, ∀ i, i < L → x i < 256 ∧ m.1 2 i = nI (x i) ∧ m.1 47 i = nI (x i) := by
    refine ⟨fun i => if h : i < L then Classical.choose (h4 i h) else 0, fun i hi => ?_⟩
    dsimp only
    rw [dif_pos hi]
    exact Classical.choose_spec (h4 i hi)
  obtain ⟨x, hx⟩ := key
  exact ⟨x, ⟨h1, h2, fun i hi => ⟨(hx i hi).1, (hx i hi).2.1⟩⟩, ⟨h1, h3, fun i hi => ⟨(hx i hi).1, (hx i hi).2.2⟩⟩⟩
theorem tx_keep_29 {m m2 : gMem} (h : Inv m) (hT : m.2 0 = 29) (e2 : m2.2 = m.2) (hc : ∀ k, k ≠ 46 → k ∉ [35, 36, 37, 38, 39, 40] → k ∉ [53, 54, 55, 56] → m2.1 k = m.1 k) (hj : ∀ j, j ∉ [0, 3, 13, 14, 15] → m2.1 46 j = m.1 46 j) : Inv m2 := by
  obtain ⟨P, N, lw, hr, a, c, L, lim, h1, h2, h3, h4, h5, h6, h7, h8⟩ := h
  rw [hT] at h3
  refine ⟨P, N, lw, hr, a, c, L, lim, ?_, h2.kept (hj 4 (by decide)) (hj 5 (by decide)) (hj 6 (by decide)) (hc 48 (by decide) (by decide) (by decide)) (hc 49 (by decide) (by decide) (by decide)) (hc 51 (by decide) (by decide) (by decide)), ?_, h4.kept (congrFun (hc 3 (by decide) (by decide) (by decide)) 4) (hc 4 (by decide) (by decide) (by decide)) (hc 5 (by decide) (by decide) (by decide)) (hc 6 (by decide) (by decide) (by decide)) (hc 7 (by decide) (by decide) (by decide)) (hj 11 (by decide)) (hc 52 (by decide) (by decide) (by decide)), h5.kept (congrFun (hc 24 (by decide) (by decide) (by decide)) 1) (hc 25 (by decide) (by decide) (by decide)) (hj 21 (by decide)) (hc 48 (by decide) (by decide) (by decide)) (hc 52 (by decide) (by decide) (by decide)) (hc 57 (by decide) (by decide) (by decide)), h6.kept (hc 14 (by decide) (by decide) (by decide)) (hc 15 (by decide) (by decide) (by decide)) (hc 16 (by decide) (by decide) (by decide)) (hc 17 (by decide) (by decide) (by decide)) (hc 18 (by decide) (by decide) (by decide)) (hc 19 (by decide) (by decide) (by decide)) (hc 20 (by decide) (by decide) (by decide)) (hc 21 (by decide) (by decide) (by decide)) (hc 22 (by decide) (by decide) (by decide)) (hc 23 (by decide) (by decide) (by decide)) (hc 58 (by decide) (by decide) (by decide)) (hc 59 (by decide) (by decide) (by decide)), h7.kept (congrFun (hc 26 (by decide) (by decide) (by decide)) 2) (hc 27 (by decide) (by decide) (by decide)) (hc 28 (by decide) (by decide) (by decide)) (hj 25 (by decide)) (hc 61 (by decide) (by decide) (by decide)) (hc 62 (by decide) (by decide) (by decide)) (hc 63 (by decide) (by decide) (by decide)), h8.kept (congrFun (hc 1 (by decide) (by decide) (by decide)) 1) (hc 2 (by decide) (by decide) (by decide)) (hj 2 (by decide)) (hc 47 (by decide) (by decide) (by decide))⟩
  · unfold IvTD
    rw [e2]
    exact h1
  · rw [e2, hT]
    exact h3.kept (hc 29 (by decide) (by decide) (by decide)) (hc 30 (by decide) (by decide) (by decide)) (hc 31 (by decide) (by decide) (by decide)) (hc 32 (by decide) (by decide) (by decide)) (hc 33 (by decide) (by decide) (by decide)) (hc 34 (by decide) (by decide) (by decide)) (hc 48 (by decide) (by decide) (by decide)) (hc 49 (by decide) (by decide) (by decide)) (hc 50 (by decide) (by decide) (by decide)) (hc 51 (by decide) (by decide) (by decide))
theorem op_fault_29 {O : gOm} {d : Nat} {m : gMem} (h0 : Inv m) (hT : m.2 0 = 29) : OpOk O (d + 40) kX6_fault kX7_fault [] m := by
  have hI := h0
  obtain ⟨P, N, lw, hr, a, c, L, lim, h1, h2, h3, h4, h5, h6, h7, h8⟩ := h0
  have hD : m.2 1 = 35 := by rcases h1 with ⟨a, b⟩ | ⟨a, b⟩ <;> omega
  obtain ⟨x, hC, hM⟩ := tx_text h8
  obtain ⟨m1, c1, f1, e1⟩ := c_readInto_35 (O := O) (d := d + 35) hC
  have hM1 : TxM (gup m1 46 0 (nI 0)) L x := hM.of (congrFun (f1.2 46 (by decide)) 2) (f1.2 47 (by decide))
  obtain ⟨m2, c2, f2, -⟩ := c_readDay (O := O) (d := d + 36) hM1
  have hI2 : Inv m2 := tx_keep_29 hI hT (f2.1.trans f1.1) (fun k a b c => (f2.2.1 k a c).trans ((gup_k m1 _ a).trans (f1.2 k b))) (fun j hj => (f2.2.2 j (fun z => hj (List.mem_cons_of_mem _ z))).trans ((gup_i m1 _ (fun e => hj (by rw [e]; decide))).trans (congrFun (f1.2 46 (by decide)) j)))
  refine ⟨(tx_F x L), m1, m2, ?_, ?_, hI2⟩
  · show Go O (d + 40) kX6_fault _ _ 0 [.ref 0] [] m
    refine go_aload_n dX6_fault_0 rfl ?_
    refine go_getc dX6_fault_1 fX6_12 rfl (by decide) (by decide) (by decide) rfl ?_
    refine go_aload_n dX6_fault_4 rfl ?_
    refine go_getm dX6_fault_5 fX6_51 rfl (by decide) (by decide) (by decide) rfl hD ?_
    refine go_callV1 (K' := kX3_readInto) [_] dX6_fault_8 mX6_71 lX3_readInto rfl (by decide) rfl (by decide) rfl rfl (Nat.le_of_ble_eq_true rfl) (Nat.le_of_ble_eq_true rfl) (c1) ?_
    exact go_iret dX6_fault_11 rfl rfl rfl
  · show Go O (d + 40) kX7_fault _ _ 0 [.ref 46] [] m1
    refine go_aload_n dX7_fault_0 rfl ?_
    refine go_iconst (nI 0) dX7_fault_1 (by decide +kernel) ?_
    refine go_puti dX7_fault_2 fX7_77 rfl (by decide) (by decide) (by decide) rfl (fun _ _ _ h => by cases h; rfl) (Or.inl rfl) ?_
    refine go_aload_n dX7_fault_5 rfl ?_
    refine go_callV1 (K' := kX7_readDay) [] dX7_fault_6 mX7_126 lX7_readDay rfl (by decide) rfl (by decide) rfl rfl (Nat.le_of_ble_eq_true rfl) (Nat.le_of_ble_eq_true rfl) (c2) ?_
    exact go_iret dX7_fault_9 rfl rfl rfl
theorem tx_keep_35 {m m2 : gMem} (h : Inv m) (hT : m.2 0 = 35) (e2 : m2.2 = m.2) (hc : ∀ k, k ≠ 46 → k ∉ [29, 30, 31, 32, 33, 34] → k ∉ [53, 54, 55, 56] → m2.1 k = m.1 k) (hj : ∀ j, j ∉ [0, 3, 13, 14, 15] → m2.1 46 j = m.1 46 j) : Inv m2 := by
  obtain ⟨P, N, lw, hr, a, c, L, lim, h1, h2, h3, h4, h5, h6, h7, h8⟩ := h
  rw [hT] at h3
  refine ⟨P, N, lw, hr, a, c, L, lim, ?_, h2.kept (hj 4 (by decide)) (hj 5 (by decide)) (hj 6 (by decide)) (hc 48 (by decide) (by decide) (by decide)) (hc 49 (by decide) (by decide) (by decide)) (hc 51 (by decide) (by decide) (by decide)), ?_, h4.kept (congrFun (hc 3 (by decide) (by decide) (by decide)) 4) (hc 4 (by decide) (by decide) (by decide)) (hc 5 (by decide) (by decide) (by decide)) (hc 6 (by decide) (by decide) (by decide)) (hc 7 (by decide) (by decide) (by decide)) (hj 11 (by decide)) (hc 52 (by decide) (by decide) (by decide)), h5.kept (congrFun (hc 24 (by decide) (by decide) (by decide)) 1) (hc 25 (by decide) (by decide) (by decide)) (hj 21 (by decide)) (hc 48 (by decide) (by decide) (by decide)) (hc 52 (by decide) (by decide) (by decide)) (hc 57 (by decide) (by decide) (by decide)), h6.kept (hc 14 (by decide) (by decide) (by decide)) (hc 15 (by decide) (by decide) (by decide)) (hc 16 (by decide) (by decide) (by decide)) (hc 17 (by decide) (by decide) (by decide)) (hc 18 (by decide) (by decide) (by decide)) (hc 19 (by decide) (by decide) (by decide)) (hc 20 (by decide) (by decide) (by decide)) (hc 21 (by decide) (by decide) (by decide)) (hc 22 (by decide) (by decide) (by decide)) (hc 23 (by decide) (by decide) (by decide)) (hc 58 (by decide) (by decide) (by decide)) (hc 59 (by decide) (by decide) (by decide)), h7.kept (congrFun (hc 26 (by decide) (by decide) (by decide)) 2) (hc 27 (by decide) (by decide) (by decide)) (hc 28 (by decide) (by decide) (by decide)) (hj 25 (by decide)) (hc 61 (by decide) (by decide) (by decide)) (hc 62 (by decide) (by decide) (by decide)) (hc 63 (by decide) (by decide) (by decide)), h8.kept (congrFun (hc 1 (by decide) (by decide) (by decide)) 1) (hc 2 (by decide) (by decide) (by decide)) (hj 2 (by decide)) (hc 47 (by decide) (by decide) (by decide))⟩
  · unfold IvTD
    rw [e2]
    exact h1
  · rw [e2, hT]
    exact h3.kept (hc 35 (by decide) (by decide) (by decide)) (hc 36 (by decide) (by decide) (by decide)) (hc 37 (by decide) (by decide) (by decide)) (hc 38 (by decide) (by decide) (by decide)) (hc 39 (by decide) (by decide) (by decide)) (hc 40 (by decide) (by decide) (by decide)) (hc 48 (by decide) (by decide) (by decide)) (hc 49 (by decide) (by decide) (by decide)) (hc 50 (by decide) (by decide) (by decide)) (hc 51 (by decide) (by decide) (by decide))
theorem op_fault_35 {O : gOm} {d : Nat} {m : gMem} (h0 : Inv m) (hT : m.2 0 = 35) : OpOk O (d + 40) kX6_fault kX7_fault [] m := by
  have hI := h0
  obtain ⟨P, N, lw, hr, a, c, L, lim, h1, h2, h3, h4, h5, h6, h7, h8⟩ := h0
  have hD : m.2 1 = 29 := by rcases h1 with ⟨a, b⟩ | ⟨a, b⟩ <;> omega
  obtain ⟨x, hC, hM⟩ := tx_text h8
  obtain ⟨m1, c1, f1, e1⟩ := c_readInto_29 (O := O) (d := d + 35) hC
  have hM1 : TxM (gup m1 46 0 (nI 0)) L x := hM.of (congrFun (f1.2 46 (by decide)) 2) (f1.2 47 (by decide))
  obtain ⟨m2, c2, f2, -⟩ := c_readDay (O := O) (d := d + 36) hM1
  have hI2 : Inv m2 := tx_keep_35 hI hT (f2.1.trans f1.1) (fun k a b c => (f2.2.1 k a c).trans ((gup_k m1 _ a).trans (f1.2 k b))) (fun j hj => (f2.2.2 j (fun z => hj (List.mem_cons_of_mem _ z))).trans ((gup_i m1 _ (fun e => hj (by rw [e]; decide))).trans (congrFun (f1.2 46 (by decide)) j)))
  refine ⟨(tx_F x L), m1, m2, ?_, ?_, hI2⟩
  · show Go O (d + 40) kX6_fault _ _ 0 [.ref 0] [] m
    refine go_aload_n dX6_fault_0 rfl ?_
    refine go_getc dX6_fault_1 fX6_12 rfl (by decide) (by decide) (by decide) rfl ?_
    refine go_aload_n dX6_fault_4 rfl ?_
    refine go_getm dX6_fault_5 fX6_51 rfl (by decide) (by decide) (by decide) rfl hD ?_
    refine go_callV1 (K' := kX3_readInto) [_] dX6_fault_8 mX6_71 lX3_readInto rfl (by decide) rfl (by decide) rfl rfl (Nat.le_of_ble_eq_true rfl) (Nat.le_of_ble_eq_true rfl) (c1) ?_
    exact go_iret dX6_fault_11 rfl rfl rfl
  · show Go O (d + 40) kX7_fault _ _ 0 [.ref 46] [] m1
    refine go_aload_n dX7_fault_0 rfl ?_
    refine go_iconst (nI 0) dX7_fault_1 (by decide +kernel) ?_
    refine go_puti dX7_fault_2 fX7_77 rfl (by decide) (by decide) (by decide) rfl (fun _ _ _ h => by cases h; rfl) (Or.inl rfl) ?_
    refine go_aload_n dX7_fault_5 rfl ?_
    refine go_callV1 (K' := kX7_readDay) [] dX7_fault_6 mX7_126 lX7_readDay rfl (by decide) rfl (by decide) rfl rfl (Nat.le_of_ble_eq_true rfl) (Nat.le_of_ble_eq_true rfl) (c2) ?_
    exact go_iret dX7_fault_9 rfl rfl rfl
theorem op_fault {O : gOm} {d : Nat} {m : gMem} (h0 : Inv m) : OpOk O (d + 40) kX6_fault kX7_fault [] m := by
  have h1 := h0
  obtain ⟨P, N, lw, hr, a, c, L, lim, hTD, -⟩ := h1
  rcases hTD with ⟨e, -⟩ | ⟨e, -⟩
  · exact op_fault_29 h0 e
  · exact op_fault_35 h0 e
/-- the reference's day is laid: i places, j rows of now, n news are done -/
def tx_I (m0 m : gMem) (P N lw i j n : Nat) : Prop := m.2 = m0.2 ∧ (∀ k, k ∉ [46, 48, 49, 50, 51, 52] → m.1 k = m0.1 k) ∧ (∀ q, q ∉ [4, 5, 6] → m.1 46 q = m0.1 46 q) ∧ (m.1 46 4 = nI P ∧ m.1 46 5 = nI N ∧ m.1 46 6 = nI lw) ∧ (∀ k, k < i → m.1 48 k = m0.1 53 k) ∧ (∀ k, k < j → (k < 3 ∨ 3 + n ≤ k) → m.1 52 k = nI 0) ∧ ∀ q, q < n → m.1 52 (3 + q) = m0.1 56 q ∧ m.1 49 q = m0.1 54 q ∧ m.1 50 q = m0.1 55 q ∧ m.1 51 q = m0.1 56 q
theorem tx_ne {k c : Nat} {A : List Nat} (h : k ∉ A) (hc : c ∈ A) : k ≠ c := fun e => h (e ▸ hc)
theorem tx_I.s1 {m0 m : gMem} {P N lw i j n : Nat} (h : tx_I m0 m P N lw i j n) : tx_I m0 (gup m 48 i (m0.1 53 i)) P N lw (i + 1) j n := by
  obtain ⟨h1, h2, h3, h4, h5, h6, h7⟩ := h
  refine ⟨h1, fun k hk => ?_, h3, h4, fun k hk => ?_, h6, h7⟩
  · rw [gup_k _ _ (tx_ne hk (by decide))]
    exact h2 k hk
  · rw [gup_if]
    by_cases e : k = i
    · rw [if_pos e, e]
    · rw [if_neg e]
      exact h5 k (by omega)
theorem tx_I.s2 {m0 m : gMem} {P N lw i j : Nat} (h : tx_I m0 m P N lw i j 0) : tx_I m0 (gup m 52 j (nI 0)) P N lw i (j + 1) 0 := by
  obtain ⟨h1, h2, h3, h4, h5, h6, h7⟩ := h
  refine ⟨h1, fun k hk => ?_, h3, h4, h5, fun k hk hz => ?_, fun q hq => absurd hq (by omega)⟩
  · rw [gup_k _ _ (tx_ne hk (by decide))]
    exact h2 k hk
  · rw [gup_if]
    by_cases e : k = j
    · rw [if_pos e]
    · rw [if_neg e]
      exact h6 k (by omega) hz
def tx_n4 (m0 m : gMem) (n : Nat) : gMem := gup (gup (gup (gup m 49 n (m0.1 54 n)) 50 n (m0.1 55 n)) 51 n (m0.1 56 n)) 52 (3 + n) (m0.1 56 n)
theorem tx_I.s3 {m0 m : gMem} {P N lw i j n : Nat} (h : tx_I m0 m P N lw i j n) : tx_I m0 (tx_n4 m0 m n) P N lw i j (n + 1) := by
  obtain ⟨h1, h2, h3, h4, h5, h6, h7⟩ := h
  unfold tx_n4
  refine ⟨h1, fun k hk => ?_, h3, h4, h5, fun k hk hz => ?_, fun q hq => ?_⟩
  · rw [gup_k _ _ (tx_ne hk (by decide)), gup_k _ _ (tx_ne hk (by decide)), gup_k _ _ (tx_ne hk (by decide)), gup_k _ _ (tx_ne hk (by decide))]
    exact h2 k hk
  · rw [gup_i _ _ (by omega), gup_k _ _ (by decide), gup_k _ _ (by decide), gup_k _ _ (by decide)]
    exact h6 k hk (by omega)
  · by_cases e : q = n
    · rw [e]
      refine ⟨gup_s _ _ _ _, ?_, ?_, ?_⟩
      · rw [gup_k _ _ (by decide), gup_k _ _ (by decide), gup_k _ _ (by decide), gup_s]
      · rw [gup_k _ _ (by decide), gup_k _ _ (by decide), gup_s]
      · rw [gup_k _ _ (by decide), gup_s]
    · obtain ⟨k1, k2, k3, k4⟩ := h7 q (by omega)
      refine ⟨?_, ?_, ?_, ?_⟩
      · rw [gup_i _ _ (by omega), gup_k _ _ (by decide), gup_k _ _ (by decide), gup_k _ _ (by decide)]
        exact k1
      · rw [gup_k _ _ (by decide), gup_k _ _ (by decide), gup_k _ _ (by decide), gup_i _ _ e]
        exact k2
      · rw [gup_k _ _ (by decide), gup_k _ _ (by decide), gup_i _ _ e, gup_k _ _ (by decide)]
        exact k3
      · rw [gup_k _ _ (by decide), gup_i _ _ e, gup_k _ _ (by decide), gup_k _ _ (by decide)]
        exact k4
def tx_fM (m : gMem) (N : Nat) : gMem := gup (gup (gup (gup (gup (gupA m 52 (hvP (m.1 52) N)) 51 2 (hvP (m.1 52) N 5)) 46 11 (nI 0)) 46 21 (nI 0)) 59 0 (nI 0)) 59 1 (nI 0)
theorem tx_lay {O : gOm} {d : Nat} {m0 : gMem} {P N lw : Nat} (hP : P ≤ 6) (hN : N ≤ 3) (r2 : m0.1 46 13 = nI P) (r3 : m0.1 46 14 = nI N) (r6 : m0.1 46 15 = nI lw) : ∃ m', tx_I m0 m' P N lw (6 * P) 58 N ∧ ∀ z, Go O (d + 1) kX7_day (some (.int (nI P))) (tx_fM m' N) 17 [.ref 46, z] [] m0 := by
  have l3 : ∀ n' n (m : gMem), n + n' = N → tx_I m0 m P N lw (6 * P) 58 n → ∃ m', tx_I m0 m' P N lw (6 * P) 58 N ∧ Go O (d + 1) kX7_day (some (.int (nI P))) (tx_fM m' N) 95 [.ref 46, .int (nI n)] [] m := by
    intro n'
    induction n' with
    | zero =>
      intro n m hn hI
      obtain rfl : n = N := by omega
      refine ⟨m, hI, ?_⟩
      have h5 := hI.2.2.2.1.2.1
      have ch := c_halve_52 (O := O) (d := d) (m := m) h5 hN
      refine go_iload_n dX7_day_95 rfl ?_
      refine go_aload_n dX7_day_96 rfl ?_
      refine go_geti dX7_day_97 fX7_88 rfl (by decide) (by decide) (by decide) rfl h5 ?_
      refine go_icmp_ge 159 dX7_day_100 (by decide) (fun h100 => ?_) (fun h => absurd (nI_le (by omega) (by omega)) h)
      refine go_aload_n dX7_day_159 rfl ?_
      refine go_aload_n dX7_day_160 rfl ?_
      refine go_getc dX7_day_161 fX7_25 rfl (by decide) (by decide) (by decide) rfl ?_
      refine go_callV0 (K' := kX7_halve) [_] dX7_day_164 mX7_133 lX7_halve rfl (by decide) rfl (by decide) rfl rfl (Nat.le_of_ble_eq_true rfl) (Nat.le_of_ble_eq_true rfl) (ch) ?_
      refine go_aload_n dX7_day_167 rfl ?_
      refine go_getc dX7_day_168 fX7_22 rfl (by decide) (by decide) (by decide) rfl ?_
      refine go_iconst (nI 2) dX7_day_171 (by decide +kernel) ?_
      refine go_aload_n dX7_day_172 rfl ?_
      refine go_getc dX7_day_173 fX7_25 rfl (by decide) (by decide) (by decide) rfl ?_
      refine go_iconst (nI 5) dX7_day_176 (by decide +kernel) ?_
      refine go_iald dX7_day_177 rfl (by decide) rfl (by omega) (by decide) (congrFun (gupA_s m 52 _) 5) ?_
      refine go_iast dX7_day_178 rfl (by decide) rfl (by omega) (by decide) ?_
      refine go_aload_n dX7_day_179 rfl ?_
      refine go_iconst (nI 0) dX7_day_180 (by decide +kernel) ?_
      refine go_puti dX7_day_181 fX7_137 rfl (by decide) (by decide) (by decide) rfl (fun _ _ _ h => by cases h; rfl) (Or.inl rfl) ?_
      refine go_aload_n dX7_day_184 rfl ?_
      refine go_iconst (nI 0) dX7_day_185 (by decide +kernel) ?_
      refine go_puti dX7_day_186 fX7_140 rfl (by decide) (by decide) (by decide) rfl (fun _ _ _ h => by cases h; rfl) (Or.inl rfl) ?_
      refine go_aload_n dX7_day_189 rfl ?_
      refine go_getc dX7_day_190 fX7_46 rfl (by decide) (by decide) (by decide) rfl ?_
      refine go_iconst (nI 0) dX7_day_193 (by decide +kernel) ?_
      refine go_iconst (nI 0) dX7_day_194 (by decide +kernel) ?_
      refine go_zast dX7_day_195 rfl (by decide) rfl (by omega) (by decide) (by first | exact Or.inl rfl | exact Or.inr rfl) ?_
      refine go_aload_n dX7_day_196 rfl ?_
      refine go_getc dX7_day_197 fX7_46 rfl (by decide) (by decide) (by decide) rfl ?_
      refine go_iconst (nI 1) dX7_day_200 (by decide +kernel) ?_
      refine go_iconst (nI 0) dX7_day_201 (by decide +kernel) ?_
      refine go_zast dX7_day_202 rfl (by decide) rfl (by omega) (by decide) (by first | exact Or.inl rfl | exact Or.inr rfl) ?_
      refine go_aload_n dX7_day_203 rfl ?_
      refine go_geti dX7_day_204 fX7_81 rfl (by decide) (by decide) (by decide) rfl hI.2.2.2.1.1 ?_
      exact go_iret dX7_day_207 rfl rfl rfl
    | succ n' ih =>
      intro n m hn hI
      obtain ⟨m', q1, q2⟩ := ih (n + 1) (tx_n4 m0 m n) (by omega) hI.s3
      refine ⟨m', q1, ?_⟩
      have h5 := hI.2.2.2.1.2.1
      have e54 : m.1 54 n = m0.1 54 n := congrFun (hI.2.1 54 (by decide)) n
      have e55 : m.1 55 n = m0.1 55 n := congrFun (hI.2.1 55 (by decide)) n
      have e56 : m.1 56 n = m0.1 56 n := congrFun (hI.2.1 56 (by decide)) n
      refine go_iload_n dX7_day_95 rfl ?_
      refine go_aload_n dX7_day_96 rfl ?_
      refine go_geti dX7_day_97 fX7_88 rfl (by decide) (by decide) (by decide) rfl h5 ?_
      refine go_icmp_ge 159 dX7_day_100 (by decide) (fun h => absurd h (nI_ge (by omega) (by omega))) (fun h100 => ?_)
      refine go_aload_n dX7_day_103 rfl ?_
      refine go_getc dX7_day_104 fX7_16 rfl (by decide) (by decide) (by decide) rfl ?_
      refine go_iload_n dX7_day_107 rfl ?_
      refine go_aload_n dX7_day_108 rfl ?_
      refine go_getc dX7_day_109 fX7_31 rfl (by decide) (by decide) (by decide) rfl ?_
      refine go_iload_n dX7_day_112 rfl ?_
      refine go_iald dX7_day_113 rfl (by decide) rfl (by omega) (by decide) e54 ?_
      refine go_iast dX7_day_114 rfl (by decide) rfl (by omega) (by decide) ?_
      refine go_aload_n dX7_day_115 rfl ?_
      refine go_getc dX7_day_116 fX7_19 rfl (by decide) (by decide) (by decide) rfl ?_
      refine go_iload_n dX7_day_119 rfl ?_
      refine go_aload_n dX7_day_120 rfl ?_
      refine go_getc dX7_day_121 fX7_34 rfl (by decide) (by decide) (by decide) rfl ?_
      refine go_iload_n dX7_day_124 rfl ?_
      refine go_iald dX7_day_125 rfl (by decide) rfl (by omega) (by decide) e55 ?_
      refine go_iast dX7_day_126 rfl (by decide) rfl (by omega) (by decide) ?_
      refine go_aload_n dX7_day_127 rfl ?_
      refine go_getc dX7_day_128 fX7_22 rfl (by decide) (by decide) (by decide) rfl ?_
      refine go_iload_n dX7_day_131 rfl ?_
      refine go_aload_n dX7_day_132 rfl ?_
      refine go_getc dX7_day_133 fX7_37 rfl (by decide) (by decide) (by decide) rfl ?_
      refine go_iload_n dX7_day_136 rfl ?_
      refine go_iald dX7_day_137 rfl (by decide) rfl (by omega) (by decide) e56 ?_
      refine go_iast dX7_day_138 rfl (by decide) rfl (by omega) (by decide) ?_
      refine go_aload_n dX7_day_139 rfl ?_
      refine go_getc dX7_day_140 fX7_25 rfl (by decide) (by decide) (by decide) rfl ?_
      refine go_iconst (nI 3) dX7_day_143 (by decide +kernel) ?_
      refine go_iload_n dX7_day_144 rfl ?_
      first | refine go_iadd_n dX7_day_145 ?_ | refine go_iadd dX7_day_145 rfl ?_
      refine go_aload_n dX7_day_146 rfl ?_
      refine go_getc dX7_day_147 fX7_22 rfl (by decide) (by decide) (by decide) rfl ?_
      refine go_iload_n dX7_day_150 rfl ?_
      refine go_iald dX7_day_151 rfl (by decide) rfl (by omega) (by decide) (gup_s _ _ _ _) ?_
      refine go_iast dX7_day_152 rfl (by decide) rfl (by omega) (by decide) ?_
      refine go_iinc_n (L' := [_, _]) dX7_day_153 rfl (by decide) rfl ?_
      refine go_goto 95 dX7_day_156 (by decide) ?_
      exact q2
  have l2 : ∀ n' k (m : gMem), k + n' = 58 → tx_I m0 m P N lw (6 * P) k 0 → ∃ m', tx_I m0 m' P N lw (6 * P) 58 N ∧ Go O (d + 1) kX7_day (some (.int (nI P))) (tx_fM m' N) 74 [.ref 46, .int (nI k)] [] m := by
    intro n'
    induction n' with
    | zero =>
      intro k m hk hI
      obtain rfl : k = 58 := by omega
      obtain ⟨m', q1, q2⟩ := l3 N 0 m (by omega) hI
      refine ⟨m', q1, ?_⟩
      refine go_iload_n dX7_day_74 rfl ?_
      refine go_bipush (nI 58) dX7_day_75 (by decide +kernel) ?_
      refine go_icmp_ge 93 dX7_day_77 (by decide) (fun h77 => ?_) (fun h => absurd (nI_le (by omega) (by omega)) h)
      refine go_iconst (nI 0) dX7_day_93 (by decide +kernel) ?_
      refine go_istore_n (L' := [_, _]) dX7_day_94 (by decide) rfl ?_
      exact q2
    | succ n' ih =>
      intro k m hk hI
      obtain ⟨m', q1, q2⟩ := ih (k + 1) (gup m 52 k (nI 0)) (by omega) hI.s2
      refine ⟨m', q1, ?_⟩
      refine go_iload_n dX7_day_74 rfl ?_
      refine go_bipush (nI 58) dX7_day_75 (by decide +kernel) ?_
      refine go_icmp_ge 93 dX7_day_77 (by decide) (fun h => absurd h (nI_ge (by omega) (by omega))) (fun h77 => ?_)
      refine go_aload_n dX7_day_80 rfl ?_
      refine go_getc dX7_day_81 fX7_25 rfl (by decide) (by decide) (by decide) rfl ?_
      refine go_iload_n dX7_day_84 rfl ?_
      refine go_iconst (nI 0) dX7_day_85 (by decide +kernel) ?_
      refine go_iast dX7_day_86 rfl (by decide) rfl (by omega) (by decide) ?_
      refine go_iinc_n (L' := [_, _]) dX7_day_87 rfl (by decide) rfl ?_
      refine go_goto 74 dX7_day_90 (by decide) ?_
      exact q2
  have l1 : ∀ n' k (m : gMem), k + n' = 6 * P → tx_I m0 m P N lw k 0 0 → ∃ m', tx_I m0 m' P N lw (6 * P) 58 N ∧ Go O (d + 1) kX7_day (some (.int (nI P))) (tx_fM m' N) 43 [.ref 46, .int (nI k)] [] m := by
    intro n'
    induction n' with
    | zero =>
      intro k m hk hI
      obtain rfl : k = 6 * P := by omega
      obtain ⟨m', q1, q2⟩ := l2 58 0 m (by omega) hI
      refine ⟨m', q1, ?_⟩
      have h4 := hI.2.2.2.1.1
      refine go_iload_n dX7_day_43 rfl ?_
      refine go_bipush (nI 6) dX7_day_44 (by decide +kernel) ?_
      refine go_aload_n dX7_day_46 rfl ?_
      refine go_geti dX7_day_47 fX7_81 rfl (by decide) (by decide) (by decide) rfl h4 ?_
      first | refine go_imul_n dX7_day_50 ?_ | refine go_imul dX7_day_50 rfl ?_
      refine go_icmp_ge 72 dX7_day_51 (by decide) (fun h51 => ?_) (fun h => absurd (nI_le (by omega) (by omega)) h)
      refine go_iconst (nI 0) dX7_day_72 (by decide +kernel) ?_
      refine go_istore_n (L' := [_, _]) dX7_day_73 (by decide) rfl ?_
      exact q2
    | succ n' ih =>
      intro k m hk hI
      obtain ⟨m', q1, q2⟩ := ih (k + 1) (gup m 48 k (m0.1 53 k)) (by omega) hI.s1
      refine ⟨m', q1, ?_⟩
      have h4 := hI.2.2.2.1.1
      have e53 : m.1 53 k = m0.1 53 k := congrFun (hI.2.1 53 (by decide)) k
      refine go_iload_n dX7_day_43 rfl ?_
      refine go_bipush (nI 6) dX7_day_44 (by decide +kernel) ?_
      refine go_aload_n dX7_day_46 rfl ?_
      refine go_geti dX7_day_47 fX7_81 rfl (by decide) (by decide) (by decide) rfl h4 ?_
      first | refine go_imul_n dX7_day_50 ?_ | refine go_imul dX7_day_50 rfl ?_
      refine go_icmp_ge 72 dX7_day_51 (by decide) (fun h => absurd h (nI_ge (by omega) (by omega))) (fun h51 => ?_)
      refine go_aload_n dX7_day_54 rfl ?_
      refine go_getc dX7_day_55 fX7_13 rfl (by decide) (by decide) (by decide) rfl ?_
      refine go_iload_n dX7_day_58 rfl ?_
      refine go_aload_n dX7_day_59 rfl ?_
      refine go_getc dX7_day_60 fX7_28 rfl (by decide) (by decide) (by decide) rfl ?_
      refine go_iload_n dX7_day_63 rfl ?_
      refine go_iald dX7_day_64 rfl (by decide) rfl (by omega) (by decide) e53 ?_
      refine go_iast dX7_day_65 rfl (by decide) rfl (by omega) (by decide) ?_
      refine go_iinc_n (L' := [_, _]) dX7_day_66 rfl (by decide) rfl ?_
      refine go_goto 43 dX7_day_69 (by decide) ?_
      exact q2
  obtain ⟨m', q1, q2⟩ := l1 (6 * P) 0 (gup (gup (gup m0 46 4 (nI P)) 46 5 (nI N)) 46 6 (nI lw)) (by omega) (by
    refine ⟨rfl, fun k hk => ?_, fun q hq => ?_, ⟨rfl, rfl, rfl⟩, fun k hk => absurd hk (by omega), fun k hk => absurd hk (by omega), fun k hk => absurd hk (by omega)⟩
    · rw [gup_k _ _ (tx_ne hk (by decide)), gup_k _ _ (tx_ne hk (by decide)), gup_k _ _ (tx_ne hk (by decide))]
    · rw [gup_i _ _ (tx_ne hq (by decide)), gup_i _ _ (tx_ne hq (by decide)), gup_i _ _ (tx_ne hq (by decide))])
  refine ⟨m', q1, fun z => ?_⟩
  refine go_aload_n dX7_day_17 rfl ?_
  refine go_aload_n dX7_day_18 rfl ?_
  refine go_geti dX7_day_19 fX7_103 rfl (by decide) (by decide) (by decide) rfl r2 ?_
  refine go_puti dX7_day_22 fX7_81 rfl (by decide) (by decide) (by decide) rfl (fun _ _ _ h => by cases h; rfl) (Or.inl rfl) ?_
  refine go_aload_n dX7_day_25 rfl ?_
  refine go_aload_n dX7_day_26 rfl ?_
  refine go_geti dX7_day_27 fX7_106 rfl (by decide) (by decide) (by decide) rfl r3 ?_
  refine go_puti dX7_day_30 fX7_88 rfl (by decide) (by decide) (by decide) rfl (fun _ _ _ h => by cases h; rfl) (Or.inl rfl) ?_
  refine go_aload_n dX7_day_33 rfl ?_
  refine go_aload_n dX7_day_34 rfl ?_
  refine go_geti dX7_day_35 fX7_113 rfl (by decide) (by decide) (by decide) rfl r6 ?_
  refine go_puti dX7_day_38 fX7_130 rfl (by decide) (by decide) (by decide) rfl (fun _ _ _ h => by cases h; rfl) (Or.inl rfl) ?_
  refine go_iconst (nI 0) dX7_day_41 (by decide +kernel) ?_
  refine go_istore_n (L' := [_, _]) dX7_day_42 (by decide) rfl ?_
  exact q2
theorem tx_sub1 : ∀ k ∈ [46, 48, 49, 50, 51, 52], k ∈ [46, 48, 49, 50, 51, 52, 53, 54, 55, 56, 59] := by decide
theorem tx_sub2 : ∀ k ∈ [53, 54, 55, 56], k ∈ [46, 48, 49, 50, 51, 52, 53, 54, 55, 56, 59] := by decide
theorem tx_thA {W : Nat → Int32} {w : Nat → Nat → Option Nat} {P h a : Nat} (ha : a < 3) (h1 : ∀ p, p < P → W (6 * p + h) = oI (-9) (w p h)) (h2 : ∀ p b, w p h = some b → b < 3) : ∀ n, n ≤ P → th W (nI a) h n = tx_gA w h a n
  | 0, _ => rfl
  | n + 1, hn => by
    rw [th, tx_gA, tx_thA ha h1 h2 n (by omega), h1 n (by omega)]
    cases hw : w n h with
    | none => rw [if_neg (by intro z; exact absurd z.symm (nI_n9 (by omega))), if_neg (by intro z; cases z)]
    | some b =>
      have := h2 n b hw
      by_cases e : b = a
      · rw [if_pos (by rw [e]; rfl), if_pos (by rw [e])]
      · rw [if_neg (show ¬ oI (-9) (some b) = nI a from fun z => e ((nI_eq (by omega) (by omega)).mp z)), if_neg (fun z => e (Option.some.inj z))]
theorem tx_gA_up {w : Nat → Nat → Option Nat} {P h a : Nat} (h3 : ∀ p, P ≤ p → w p h = none) : ∀ n, tx_gA w h a (P + n) = tx_gA w h a P
  | 0 => rfl
  | n + 1 => by
    rw [← Nat.add_assoc, tx_gA, tx_gA_up h3 n, h3 (P + n) (by omega), if_neg (by intro z; cases z), Nat.or_zero]
theorem tx_grp {W : Nat → Int32} {w : Nat → Nat → Option Nat} {P h a : Nat} (hP : P ≤ 6) (ha : a < 3) (h1 : ∀ p, p < P → W (6 * p + h) = oI (-9) (w p h)) (h2 : ∀ p b, w p h = some b → b < 3) (h3 : ∀ p, P ≤ p → w p h = none) : tx_gw w h a = grp W P h a := by
  have e := tx_gA_up (a := a) h3 (6 - P)
  rw [show P + (6 - P) = 6 by omega] at e
  rw [tx_gw, e, grp, tx_thA ha h1 h2 P (Nat.le_refl _)]
/-- the reference behind a day -/
def tx_Pd (s mf : gMem) (P N lw : Nat) (w : Nat → Nat → Option Nat) (li wo fi : Nat → Nat) : Prop := mf.2 = s.2 ∧ (∀ k, k ∉ [46, 48, 49, 50, 51, 52, 53, 54, 55, 56, 59] → mf.1 k = s.1 k) ∧ (mf.1 46 2 = s.1 46 2 ∧ mf.1 46 25 = s.1 46 25) ∧ (mf.1 46 4 = nI P ∧ mf.1 46 5 = nI N ∧ mf.1 46 6 = nI lw ∧ mf.1 46 11 = nI 0 ∧ mf.1 46 21 = nI 0) ∧ (∀ p h, p < P → h < 6 → mf.1 48 (6 * p + h) = oI (-9) (w p h)) ∧ (∀ n, n < N → mf.1 49 n = nI (li n) ∧ mf.1 50 n = nI (wo n) ∧ mf.1 51 n = nI (tx_jh fi N n)) ∧ (∀ n, n < 3 → mf.1 52 (3 + n) = nI (tx_jh fi N n)) ∧ (∀ j, j < 58 → (j < 3 ∨ 6 ≤ j) → mf.1 52 j = nI 0) ∧ ∀ q, q < 2 → mf.1 59 q = nI 0
theorem tx_hv {f : Nat → Int32} {fi : Nat → Nat} {N : Nat} (hN : N ≤ 3) (h1 : ∀ n, n < N → f (3 + n) = nI (fi n)) (h0 : ∀ n, n < 3 → N ≤ n → f (3 + n) = nI 0 ∧ fi n = 0) : ∀ n, n < 3 → hvP f N (3 + n) = nI (tx_jh fi N n) := by
  intro n hn
  have hf : ∀ n, n < 3 → f (3 + n) = nI (fi n) := by
    intro n hn
    by_cases q : n < N
    · exact h1 n q
    · rw [(h0 n hn (by omega)).1, (h0 n hn (by omega)).2]
  unfold hvP tx_jh
  by_cases e : n = 2
  · subst e
    rw [upd_s, hf 2 (by omega)]
    by_cases q : N = 3
    · rw [if_pos q, if_pos ⟨rfl, q⟩, show f 3 = nI (fi 0) from hf 0 (by omega), show f 4 = nI (fi 1) from hf 1 (by omega), nb_and, nb_or]
    · rw [if_neg q, if_neg (fun z => q z.2), nb_or, Nat.or_zero]
  · rw [upd_n _ _ (by omega), if_neg (fun z => e z.1)]
    exact hf n hn
theorem c_dayM {O : gOm} {d : Nat} {m : gMem} {L lw P N : Nat} {x : Nat → Nat} {w : Nat → Nat → Option Nat} {li wo fi : Nat → Nat} (hX : TxM m L x) (h0 : 0 < L ∧ x 0 = 68) (hd : dg x L 1 3 = some lw) (hp : tx_0 x L = .inr (P, N, w, li, wo, fi)) : ∃ mf, Ca O (d + 4) kX7_day [.ref 46] (some (.int (nI P))) m mf ∧ tx_Pd m mf P N lw w li wo fi := by
  obtain ⟨m4, c4, f4, e4⟩ := c_readDay (O := O) (d := d) (m := gup m 46 0 (nI 0)) (hX.of rfl rfl)
  obtain ⟨⟨r1, r2, r3, r4, r5⟩, r6⟩ := e4 lw P N w li wo fi h0 hd hp
  have d1 := dg_s hd
  obtain ⟨k1, k2, k3, k4, k5, k6, k7⟩ := tx_prs_ok _ _ _ _ _ _ _ _ d1.1 tx_Ok.st hp
  obtain ⟨m5, ⟨i1, i2, i3, ⟨i4, i5, i6⟩, i7, i8, i9⟩, g⟩ := tx_lay (O := O) (d := d + 3) k1 k2 r2 r3 r6
  have hF : tx_F x L = -9 := by
    rw [tx_F, if_pos h0, hd]
    dsimp only
    rw [hp]
    rfl
  rw [hF] at c4
  have hv := tx_hv (f := m5.1 52) (fi := fi) k2 (fun n hn => (i9 n hn).1.trans (r5 n hn).2.2) (fun n hn hN => ⟨i8 (3 + n) (by omega) (by omega), k7 n hN⟩)
  refine ⟨tx_fM m5 N, ?_, ?_⟩
  · show Go O (d + 4) kX7_day _ _ 0 [.ref 46, .null] [] m
    refine go_aload_n dX7_day_0 rfl ?_
    refine go_iconst (nI 0) dX7_day_1 (by decide +kernel) ?_
    refine go_puti dX7_day_2 fX7_77 rfl (by decide) (by decide) (by decide) rfl (fun _ _ _ h => by cases h; rfl) (Or.inl rfl) ?_
    refine go_aload_n dX7_day_5 rfl ?_
    refine go_callV1 (K' := kX7_readDay) [] dX7_day_6 mX7_126 lX7_readDay rfl (by decide) rfl (by decide) rfl rfl (Nat.le_of_ble_eq_true rfl) (Nat.le_of_ble_eq_true rfl) (c4) ?_
    refine go_bipush (-9) dX7_day_9 (by decide +kernel) ?_
    refine go_icmp_eq 17 dX7_day_11 (by decide) (fun h11 => ?_) (fun h => absurd (rfl) h)
    exact g _
  · unfold tx_fM
    refine ⟨i1.trans f4.1, fun k hk => ?_, ⟨?_, ?_⟩, ⟨i4, i5, i6, rfl, rfl⟩, fun p h hp hh => ?_, fun n hn => ⟨?_, ?_, ?_⟩, fun n hn => ?_, fun j hj hz => ?_, fun q hq => ?_⟩
    · rw [gup_k _ _ (tx_ne hk (by decide)), gup_k _ _ (tx_ne hk (by decide)), gup_k _ _ (tx_ne hk (by decide)), gup_k _ _ (tx_ne hk (by decide)), gup_k _ _ (tx_ne hk (by decide)), gupA_k _ _ (tx_ne hk (by decide)), i2 k (fun z => hk (tx_sub1 k z)), f4.2.1 k (tx_ne hk (by decide)) (fun z => hk (tx_sub2 k z)), gup_k _ _ (tx_ne hk (by decide))]
    · exact (i3 2 (by decide)).trans (f4.2.2 2 (by decide))
    · exact (i3 25 (by decide)).trans (f4.2.2 25 (by decide))
    · show m5.1 48 (6 * p + h) = _
      rw [i7 _ (by omega)]
      exact r4 p h hp hh
    · exact (i9 n hn).2.1.trans (r5 n hn).1
    · exact (i9 n hn).2.2.1.trans (r5 n hn).2.1
    · show (gup (gupA m5 52 (hvP (m5.1 52) N)) 51 2 (hvP (m5.1 52) N 5)).1 51 n = _
      rw [gup_if]
      by_cases e : n = 2
      · rw [if_pos e, e]
        exact hv 2 (by omega)
      · rw [if_neg e, gupA_k _ _ (by decide), (i9 n hn).2.2.2, (r5 n hn).2.2, tx_jh, if_neg (fun z => e z.1)]
    · show hvP (m5.1 52) N (3 + n) = _
      exact hv n hn
    · show hvP (m5.1 52) N j = _
      rw [hvP, upd_n _ _ (by omega)]
      exact i8 j hj (by omega)
    · rcases lt2 hq with rfl | rfl <;> rfl
