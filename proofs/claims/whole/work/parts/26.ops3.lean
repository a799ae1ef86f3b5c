/-- class and reference answer alike, and what holds between calls holds behind both -/
def OpOk (O : gOm) (d : Nat) (KX KM : gM) (as : List Value) (m : gMem) : Prop := ∃ (r : Int32) (m1 m2 : gMem), Ca O d KX (.ref 0 :: as) (some (.int r)) m m1 ∧ Ca O d KM (.ref 46 :: as) (some (.int r)) m1 m2 ∧ Inv m2
def OpL (O : gOm) (d : Nat) (KX KM : gM) (as : List Value) (m : gMem) : Prop := ∃ (r : Int64) (m1 m2 : gMem), Ca O d KX (.ref 0 :: as) (some (.long r)) m m1 ∧ Ca O d KM (.ref 46 :: as) (some (.long r)) m1 m2 ∧ Inv m2
theorem IvT.all {m m' : gMem} {P N lw : Nat} (hTD : IvTD m) (h : IvT m (m.2 0) P N lw) (e : m'.2 = m.2) (hk : ∀ k, 29 ≤ k → k ≤ 40 → m'.1 k = m.1 k) (a1 : m'.1 48 = m.1 48) (a2 : m'.1 49 = m.1 49) (a3 : m'.1 50 = m.1 50) (a4 : m'.1 51 = m.1 51) : IvTD m' ∧ IvT m' (m'.2 0) P N lw := by
  rcases hTD with ⟨e0, e1⟩ | ⟨e0, e1⟩
  · refine ⟨Or.inl ⟨by rw [e]; exact e0, by rw [e]; exact e1⟩, ?_⟩
    rw [e]
    rw [e0] at h ⊢
    exact h.kept (hk _ (by omega) (by omega)) (hk _ (by omega) (by omega)) (hk _ (by omega) (by omega)) (hk _ (by omega) (by omega)) (hk _ (by omega) (by omega)) (hk _ (by omega) (by omega)) a1 a2 a3 a4
  · refine ⟨Or.inr ⟨by rw [e]; exact e0, by rw [e]; exact e1⟩, ?_⟩
    rw [e]
    rw [e0] at h ⊢
    exact h.kept (hk _ (by omega) (by omega)) (hk _ (by omega) (by omega)) (hk _ (by omega) (by omega)) (hk _ (by omega) (by omega)) (hk _ (by omega) (by omega)) (hk _ (by omega) (by omega)) a1 a2 a3 a4
theorem ntM_57 {m m' : gMem} {a : Nat} (e57 : m'.1 57 = m.1 57) (e52 : m'.1 52 = m.1 52) (e11 : m'.1 46 11 = m.1 46 11) : (ntM m' a).1 57 = (ntM m a).1 57 ∧ (ntM m' a).1 46 21 = (ntM m a).1 46 21 := by
  unfold ntM
  by_cases h : a = 16
  · rw [if_pos h, if_pos h, gup_s, gup_s, gup_k _ _ (by decide), gup_k _ _ (by decide), gupA_s, gupA_s, e57, e52, e11]
    exact ⟨rfl, rfl⟩
  · rw [if_neg h, if_neg h, gup_s, gup_s, gup_k _ _ (by decide), gup_k _ _ (by decide), gupA_s, gupA_s, e57, e52, e11]
    exact ⟨rfl, rfl⟩
theorem op_where {O : gOm} {d : Nat} {m : gMem} {p h : Int32} (h0 : Inv m) : OpOk O (d + 4) kX6_where kX7_where [.int p, .int h] m := by
  have hthr := h0.thr
  obtain ⟨P, N, lw, hr, a, c, L, lim, h1, h2, h3, h4, h5, h6, h7, h8⟩ := h0
  rcases h1 with ⟨e, -⟩ | ⟨e, -⟩
  · rw [e] at h3
    obtain ⟨r, q1, q2⟩ := op_where_29 (O := O) (d := d) (p := p) (h := h) e h2 h3 h4
    exact ⟨_, _, _, q1, q2, hthr⟩
  · rw [e] at h3
    obtain ⟨r, q1, q2⟩ := op_where_35 (O := O) (d := d) (p := p) (h := h) e h2 h3 h4
    exact ⟨_, _, _, q1, q2, hthr⟩
theorem op_told {O : gOm} {d : Nat} {m : gMem} {p n : Int32} (h0 : Inv m) : OpOk O (d + 4) kX6_told kX7_told [.int p, .int n] m := by
  have hthr := h0.thr
  obtain ⟨P, N, lw, hr, a, c, L, lim, h1, h2, h3, h4, h5, h6, h7, h8⟩ := h0
  rcases h1 with ⟨e, -⟩ | ⟨e, -⟩
  · rw [e] at h3
    obtain ⟨r, q1, q2⟩ := op_told_29 (O := O) (d := d) (p := p) (n := n) e h2 h3 h4
    exact ⟨_, _, _, q1, q2, hthr⟩
  · rw [e] at h3
    obtain ⟨r, q1, q2⟩ := op_told_35 (O := O) (d := d) (p := p) (n := n) e h2 h3 h4
    exact ⟨_, _, _, q1, q2, hthr⟩
theorem op_left {O : gOm} {d : Nat} {m : gMem} {p n : Int32} (h0 : Inv m) : OpOk O (d + 4) kX6_left kX7_left [.int p, .int n] m := by
  have hthr := h0.thr
  obtain ⟨P, N, lw, hr, a, c, L, lim, h1, h2, h3, h4, h5, h6, h7, h8⟩ := h0
  rcases h1 with ⟨e, -⟩ | ⟨e, -⟩
  · rw [e] at h3
    obtain ⟨r, q1, q2⟩ := op_left_29 (O := O) (d := d) (p := p) (n := n) e h2 h3 h4
    exact ⟨_, _, _, q1, q2, hthr⟩
  · rw [e] at h3
    obtain ⟨r, q1, q2⟩ := op_left_35 (O := O) (d := d) (p := p) (n := n) e h2 h3 h4
    exact ⟨_, _, _, q1, q2, hthr⟩
theorem op_may {O : gOm} {d : Nat} {m : gMem} {p n : Int32} (h0 : Inv m) : OpOk O (d + 4) kX6_may kX7_may [.int p, .int n] m := by
  have hthr := h0.thr
  obtain ⟨P, N, lw, hr, a, c, L, lim, h1, h2, h3, h4, h5, h6, h7, h8⟩ := h0
  rcases h1 with ⟨e, -⟩ | ⟨e, -⟩
  · rw [e] at h3
    obtain ⟨r, q1, q2⟩ := op_may_29 (O := O) (d := d) (p := p) (n := n) e h2 h3 h4
    exact ⟨_, _, _, q1, q2, hthr⟩
  · rw [e] at h3
    obtain ⟨r, q1, q2⟩ := op_may_35 (O := O) (d := d) (p := p) (n := n) e h2 h3 h4
    exact ⟨_, _, _, q1, q2, hthr⟩
theorem op_wipe {O : gOm} {d : Nat} {m : gMem} (h0 : Inv m) : OpOk O (d + 4) kX6_wipe kX7_wipe [] m := by
  obtain ⟨P, N, lw, hr, a, c, L, lim, h1, h2, h3, h4, h5, h6, h7, h8⟩ := h0
  obtain ⟨x1, x2, x3, x4⟩ := h8
  refine ⟨(nI L), gup m 1 1 (nI 0), gup (gup (gup m 1 1 (nI 0)) 46 0 (nI 0)) 46 2 (nI 0), ?_, ?_, P, N, lw, hr, a, c, 0, lim, ?_⟩
  · show Go O (d + 4) kX6_wipe _ _ 0 [.ref 0, .null] [] m
    refine go_aload_n dX6_wipe_0 rfl ?_
    refine go_getc dX6_wipe_1 fX6_12 rfl (by decide) (by decide) (by decide) rfl ?_
    refine go_geti dX6_wipe_4 fX6_63 rfl (by decide) (by decide) (by decide) rfl x2 ?_
    refine go_istore_n (L' := [_, _]) dX6_wipe_7 (by decide) rfl ?_
    refine go_aload_n dX6_wipe_8 rfl ?_
    refine go_getc dX6_wipe_9 fX6_12 rfl (by decide) (by decide) (by decide) rfl ?_
    refine go_iconst (nI 0) dX6_wipe_12 (by decide +kernel) ?_
    refine go_puti dX6_wipe_13 fX6_63 rfl (by decide) (by decide) (by decide) rfl (fun _ _ _ h => by cases h; rfl) (Or.inl rfl) ?_
    refine go_iload_n dX6_wipe_16 rfl ?_
    exact go_iret dX6_wipe_17 rfl rfl rfl
  · show Go O (d + 4) kX7_wipe _ _ 0 [.ref 46, .null] [] (gup m 1 1 (nI 0))
    refine go_aload_n dX7_wipe_0 rfl ?_
    refine go_iconst (nI 0) dX7_wipe_1 (by decide +kernel) ?_
    refine go_puti dX7_wipe_2 fX7_77 rfl (by decide) (by decide) (by decide) rfl (fun _ _ _ h => by cases h; rfl) (Or.inl rfl) ?_
    refine go_aload_n dX7_wipe_5 rfl ?_
    refine go_geti dX7_wipe_6 fX7_93 rfl (by decide) (by decide) (by decide) rfl x3 ?_
    refine go_istore_n (L' := [_, _]) dX7_wipe_9 (by decide) rfl ?_
    refine go_aload_n dX7_wipe_10 rfl ?_
    refine go_iconst (nI 0) dX7_wipe_11 (by decide +kernel) ?_
    refine go_puti dX7_wipe_12 fX7_93 rfl (by decide) (by decide) (by decide) rfl (fun _ _ _ h => by cases h; rfl) (Or.inl rfl) ?_
    refine go_iload_n dX7_wipe_15 rfl ?_
    exact go_iret dX7_wipe_16 rfl rfl rfl
  · obtain ⟨g1, g3⟩ := h3.all (m' := gup (gup (gup m 1 1 (nI 0)) 46 0 (nI 0)) 46 2 (nI 0)) h1 rfl (fun k z1 z2 => by rw [gup_k _ _ (by omega), gup_k _ _ (by omega), gup_k _ _ (by omega)]) rfl rfl rfl rfl
    exact ⟨g1, h2.kept rfl rfl rfl rfl rfl rfl, g3, h4.kept rfl rfl rfl rfl rfl rfl rfl, h5.kept rfl rfl rfl rfl rfl rfl, h6.kept rfl rfl rfl rfl rfl rfl rfl rfl rfl rfl rfl rfl, h7.kept rfl rfl rfl rfl rfl rfl rfl, Nat.zero_le _, rfl, rfl, fun i hi => absurd hi (by omega)⟩
theorem op_unsee {O : gOm} {d : Nat} {m : gMem} (h0 : Inv m) : OpOk O (d + 4) kX6_unsee kX7_unsee [] m := by
  obtain ⟨P, N, lw, hr, a, c, L, lim, h1, h2, h3, h4, h5, h6, h7, h8⟩ := h0
  have x2 := h7.2.1
  have x3 := h7.2.2.1
  refine ⟨(nI c), fgM m, gup (gup (fgM m) 46 0 (nI 0)) 46 25 (nI 0), ?_, ?_, P, N, lw, hr, a, 0, L, lim, ?_⟩
  · show Go O (d + 4) kX6_unsee _ _ 0 [.ref 0, .null] [] m
    refine go_aload_n dX6_unsee_0 rfl ?_
    refine go_getc dX6_unsee_1 fX6_40 rfl (by decide) (by decide) (by decide) rfl ?_
    refine go_geti dX6_unsee_4 fX6_104 rfl (by decide) (by decide) (by decide) rfl x2 ?_
    refine go_istore_n (L' := [_, _]) dX6_unsee_7 (by decide) rfl ?_
    refine go_aload_n dX6_unsee_8 rfl ?_
    refine go_getc dX6_unsee_9 fX6_40 rfl (by decide) (by decide) (by decide) rfl ?_
    refine go_callV0 (K' := kX4_forget) [] dX6_unsee_12 mX6_241 lX4_forget rfl (by decide) rfl (by decide) rfl rfl (Nat.le_of_ble_eq_true rfl) (Nat.le_of_ble_eq_true rfl) (c_forget) ?_
    refine go_iload_n dX6_unsee_15 rfl ?_
    exact go_iret dX6_unsee_16 rfl rfl rfl
  · show Go O (d + 4) kX7_unsee _ _ 0 [.ref 46, .null] [] (fgM m)
    refine go_aload_n dX7_unsee_0 rfl ?_
    refine go_iconst (nI 0) dX7_unsee_1 (by decide +kernel) ?_
    refine go_puti dX7_unsee_2 fX7_77 rfl (by decide) (by decide) (by decide) rfl (fun _ _ _ h => by cases h; rfl) (Or.inl rfl) ?_
    refine go_aload_n dX7_unsee_5 rfl ?_
    refine go_geti dX7_unsee_6 fX7_147 rfl (by decide) (by decide) (by decide) rfl x3 ?_
    refine go_istore_n (L' := [_, _]) dX7_unsee_9 (by decide) rfl ?_
    refine go_aload_n dX7_unsee_10 rfl ?_
    refine go_iconst (nI 0) dX7_unsee_11 (by decide +kernel) ?_
    refine go_puti dX7_unsee_12 fX7_147 rfl (by decide) (by decide) (by decide) rfl (fun _ _ _ h => by cases h; rfl) (Or.inl rfl) ?_
    refine go_iload_n dX7_unsee_15 rfl ?_
    exact go_iret dX7_unsee_16 rfl rfl rfl
  · obtain ⟨g1, g3⟩ := h3.all (m' := gup (gup (fgM m) 46 0 (nI 0)) 46 25 (nI 0)) h1 rfl (fun k z1 z2 => by rw [gup_k _ _ (by omega), gup_k _ _ (by omega), fgM, gup_k _ _ (by omega), gupA_k _ _ (by omega), gupA_k _ _ (by omega)]) rfl rfl rfl rfl
    refine ⟨g1, h2.kept rfl rfl rfl rfl rfl rfl, g3, h4.kept rfl rfl rfl rfl rfl rfl rfl, h5.kept rfl rfl rfl rfl rfl rfl, h6.kept rfl rfl rfl rfl rfl rfl rfl rfl rfl rfl rfl rfl, ⟨Nat.zero_le _, rfl, rfl, fun i hi => absurd hi (by omega), fun h hh => ⟨?_, ?_⟩⟩, h8.kept rfl rfl rfl rfl⟩
    · show flP (m.1 27) (nI 0) 6 h = nI 0
      rw [flP_at, if_pos hh]
    · show flP (m.1 28) (nI 0) 6 h = nI 0
      rw [flP_at, if_pos hh]
theorem op_hour {O : gOm} {d : Nat} {m : gMem} (h0 : Inv m) : OpOk O (d + 4) kX6_hour kX7_hour [] m := by
  have hthr := h0.thr
  obtain ⟨P, N, lw, hr, a, c, L, lim, h1, h2, h3, h4, h5, h6, h7, h8⟩ := h0
  have hP6 := h2.2.1
  have hN3 := h2.2.2.2.1
  have s4 := h4.1.1
  have s11 := h4.2.1
  have ok := h4.2.2
  have ok1 := ok.1
  have a24 := h5.2.1
  have a21 := h5.2.2.1
  have ha16 := h5.1
  rcases Nat.lt_or_ge hr 5 with z | z
  · have nk : ∀ k, k ≠ 3 → k ≠ 24 → k ≠ 25 → k ≠ 46 → k ≠ 57 → (gup (ntM (gup (gup (apM m a (-1)) 3 4 (nI (hr + 1))) 46 0 (nI 0)) a) 46 11 (nI (hr + 1))).1 k = m.1 k := fun k z1 z2 z3 z4 z5 => by
      rw [gup_k _ _ z4, ntM_k z4 z5, gup_k _ _ z4, gup_k _ _ z1, apM_k z2 z3]
    have nf : ∀ i, i ≠ 0 → i ≠ 11 → i ≠ 21 → (gup (ntM (gup (gup (apM m a (-1)) 3 4 (nI (hr + 1))) 46 0 (nI 0)) a) 46 11 (nI (hr + 1))).1 46 i = m.1 46 i := fun i z1 z2 z3 => by
      rw [gup_i _ _ z2, ntM_f z3, gup_i _ _ z1, gup_k _ _ (by decide), apM_k (by decide) (by decide)]
    have e46 : ∀ i, (apM m a (-1)).1 46 i = m.1 46 i := fun i => congrFun (apM_k (by decide) (by decide)) i
    have n57 := ntM_57 (m := m) (m' := gup (gup (apM m a (-1)) 3 4 (nI (hr + 1))) 46 0 (nI 0)) (a := a) (by rw [gup_k _ _ (by decide), gup_k _ _ (by decide), apM_k (by decide) (by decide)]) (by rw [gup_k _ _ (by decide), gup_k _ _ (by decide), apM_k (by decide) (by decide)]) (e46 11)
    refine ⟨(nI (hr + 1)), gup (apM m a (-1)) 3 4 (nI (hr + 1)), gup (ntM (gup (gup (apM m a (-1)) 3 4 (nI (hr + 1))) 46 0 (nI 0)) a) 46 11 (nI (hr + 1)), ?_, ?_, ?_⟩
    · show Go O (d + 4) kX6_hour _ _ 0 [.ref 0] [] m
      refine go_aload_n dX6_hour_0 rfl ?_
      refine go_getc dX6_hour_1 fX6_19 rfl (by decide) (by decide) (by decide) rfl ?_
      refine go_geti dX6_hour_4 fX6_94 rfl (by decide) (by decide) (by decide) rfl s4 ?_
      refine go_iconst (nI 5) dX6_hour_7 (by decide +kernel) ?_
      refine go_icmp_lt 14 dX6_hour_8 (by decide) (fun h8 => ?_) (fun h => absurd (nI_lt z (by omega)) h)
      refine go_aload_n dX6_hour_14 rfl ?_
      refine go_getc dX6_hour_15 fX6_33 rfl (by decide) (by decide) (by decide) rfl ?_
      refine go_iconst (-1) dX6_hour_18 (by decide +kernel) ?_
      refine go_callV0 (K' := kX0_append) [_] dX6_hour_19 mX6_157 lX0_append rfl (by decide) rfl (by decide) rfl rfl (Nat.le_of_ble_eq_true rfl) (Nat.le_of_ble_eq_true rfl) (c_append a24 ha16) ?_
      refine go_aload_n dX6_hour_22 rfl ?_
      refine go_getc dX6_hour_23 fX6_19 rfl (by decide) (by decide) (by decide) rfl ?_
      refine go_dup dX6_hour_26 rfl ?_
      refine go_geti dX6_hour_27 fX6_94 rfl (by decide) (by decide) (by decide) rfl ((congrFun (apM_k (by decide) (by decide)) 4).trans s4) ?_
      refine go_iconst (nI 1) dX6_hour_30 (by decide +kernel) ?_
      first | refine go_iadd_n dX6_hour_31 ?_ | refine go_iadd dX6_hour_31 rfl ?_
      refine go_puti dX6_hour_32 fX6_94 rfl (by decide) (by decide) (by decide) rfl (fun _ _ _ h => by cases h; rfl) (Or.inl rfl) ?_
      refine go_aload_n dX6_hour_35 rfl ?_
      refine go_getc dX6_hour_36 fX6_19 rfl (by decide) (by decide) (by decide) rfl ?_
      refine go_geti dX6_hour_39 fX6_94 rfl (by decide) (by decide) (by decide) rfl (gup_s _ 3 4 _) ?_
      exact go_iret dX6_hour_42 rfl rfl rfl
    · show Go O (d + 4) kX7_hour _ _ 0 [.ref 46] [] (gup (apM m a (-1)) 3 4 (nI (hr + 1)))
      refine go_aload_n dX7_hour_0 rfl ?_
      refine go_iconst (nI 0) dX7_hour_1 (by decide +kernel) ?_
      refine go_puti dX7_hour_2 fX7_77 rfl (by decide) (by decide) (by decide) rfl (fun _ _ _ h => by cases h; rfl) (Or.inl rfl) ?_
      refine go_aload_n dX7_hour_5 rfl ?_
      refine go_geti dX7_hour_6 fX7_137 rfl (by decide) (by decide) (by decide) rfl ((e46 11).trans s11) ?_
      refine go_iconst (nI 5) dX7_hour_9 (by decide +kernel) ?_
      refine go_icmp_ne 16 dX7_hour_10 (by decide) (fun h10 => ?_) (fun h => absurd h (fun q => absurd ((nI_eq (by omega) (by omega)).mp q) (by omega)))
      refine go_aload_n dX7_hour_16 rfl ?_
      refine go_callV0 (K' := kX7_note) [] dX7_hour_17 mX7_169 lX7_note rfl (by decide) rfl (by decide) rfl rfl (Nat.le_of_ble_eq_true rfl) (Nat.le_of_ble_eq_true rfl) (c_note ((e46 21).trans a21) ha16) ?_
      refine go_aload_n dX7_hour_20 rfl ?_
      refine go_dup dX7_hour_21 rfl ?_
      refine go_geti dX7_hour_22 fX7_137 rfl (by decide) (by decide) (by decide) rfl ((ntM_f (by decide)).trans ((e46 11).trans s11)) ?_
      refine go_iconst (nI 1) dX7_hour_25 (by decide +kernel) ?_
      first | refine go_iadd_n dX7_hour_26 ?_ | refine go_iadd dX7_hour_26 rfl ?_
      refine go_puti dX7_hour_27 fX7_137 rfl (by decide) (by decide) (by decide) rfl (fun _ _ _ h => by cases h; rfl) (Or.inl rfl) ?_
      refine go_aload_n dX7_hour_30 rfl ?_
      refine go_geti dX7_hour_31 fX7_137 rfl (by decide) (by decide) (by decide) rfl (gup_s _ 46 11 _) ?_
      exact go_iret dX7_hour_34 rfl rfl rfl
    · obtain ⟨g1, g3⟩ := h3.all (m' := gup (ntM (gup (gup (apM m a (-1)) 3 4 (nI (hr + 1))) 46 0 (nI 0)) a) 46 11 (nI (hr + 1))) h1 (by show (ntM _ a).2 = m.2; rw [ntM_2]; exact apM_2) (fun k z1 z2 => nk k (by omega) (by omega) (by omega) (by omega) (by omega)) (nk 48 (by decide) (by decide) (by decide) (by decide) (by decide)) (nk 49 (by decide) (by decide) (by decide) (by decide) (by decide)) (nk 50 (by decide) (by decide) (by decide) (by decide) (by decide)) (nk 51 (by decide) (by decide) (by decide) (by decide) (by decide))
      have n52 := nk 52 (by decide) (by decide) (by decide) (by decide) (by decide)
      have n48 := nk 48 (by decide) (by decide) (by decide) (by decide) (by decide)
      obtain ⟨a', hA⟩ := h5.push (m2 := gup (ntM (gup (gup (apM m a (-1)) 3 4 (nI (hr + 1))) 46 0 (nI 0)) a) 46 11 (nI (hr + 1))) (hr' := hr + 1) (x := -1) hP6 hN3 ok s11 (by rw [gup_k _ _ (by decide), ntM_k (by decide) (by decide), gup_k _ _ (by decide), gup_k _ _ (by decide)]) (by rw [gup_k _ _ (by decide), ntM_k (by decide) (by decide), gup_k _ _ (by decide), gup_k _ _ (by decide)]) (by rw [gup_k _ _ (by decide)]; exact n57.1) (by rw [gup_i _ _ (by decide)]; exact n57.2) n48 (Or.inl ⟨rfl, rfl, by rw [n52]; exact PgE.rf _⟩)
      have hSt : StP (gup (ntM (gup (gup (apM m a (-1)) 3 4 (nI (hr + 1))) 46 0 (nI 0)) a) 46 11 (nI (hr + 1))) 3 (m.1 52) (hr + 1) := by
        obtain ⟨b1, b2, b3, b4, b5⟩ := h4.1
        refine ⟨?_, ?_, ?_, ?_, ?_⟩
        · rw [gup_k _ _ (by decide), ntM_k (by decide) (by decide), gup_k _ _ (by decide), gup_s]
        · rw [nk (3 + 1) (by decide) (by decide) (by decide) (by decide) (by decide)]
          exact b2
        · rw [nk (3 + 2) (by decide) (by decide) (by decide) (by decide) (by decide)]
          exact b3
        · rw [nk (3 + 3) (by decide) (by decide) (by decide) (by decide) (by decide)]
          exact b4
        · rw [nk (3 + 4) (by decide) (by decide) (by decide) (by decide) (by decide)]
          exact b5
      have hPg : IvP (gup (ntM (gup (gup (apM m a (-1)) 3 4 (nI (hr + 1))) 46 0 (nI 0)) a) 46 11 (nI (hr + 1))) N lim (hr + 1) := by
        unfold IvP
        rw [n52]
        exact ⟨hSt, gup_s _ 46 11 _, by omega, ok.2⟩
      refine ⟨P, N, lw, hr + 1, a', c, L, lim, g1, ?_, g3, hPg, hA, ?_, ?_, ?_⟩
      · exact h2.kept (nf 4 (by decide) (by decide) (by decide)) (nf 5 (by decide) (by decide) (by decide)) (nf 6 (by decide) (by decide) (by decide)) n48 (nk 49 (by decide) (by decide) (by decide) (by decide) (by decide)) (nk 51 (by decide) (by decide) (by decide) (by decide) (by decide))
      · exact h6.kept (nk 14 (by decide) (by decide) (by decide) (by decide) (by decide)) (nk 15 (by decide) (by decide) (by decide) (by decide) (by decide)) (nk 16 (by decide) (by decide) (by decide) (by decide) (by decide)) (nk 17 (by decide) (by decide) (by decide) (by decide) (by decide)) (nk 18 (by decide) (by decide) (by decide) (by decide) (by decide)) (nk 19 (by decide) (by decide) (by decide) (by decide) (by decide)) (nk 20 (by decide) (by decide) (by decide) (by decide) (by decide)) (nk 21 (by decide) (by decide) (by decide) (by decide) (by decide)) (nk 22 (by decide) (by decide) (by decide) (by decide) (by decide)) (nk 23 (by decide) (by decide) (by decide) (by decide) (by decide)) (nk 58 (by decide) (by decide) (by decide) (by decide) (by decide)) (nk 59 (by decide) (by decide) (by decide) (by decide) (by decide))
      · exact h7.kept (congrFun (nk 26 (by decide) (by decide) (by decide) (by decide) (by decide)) 2) (nk 27 (by decide) (by decide) (by decide) (by decide) (by decide)) (nk 28 (by decide) (by decide) (by decide) (by decide) (by decide)) (nf 25 (by decide) (by decide) (by decide)) (nk 61 (by decide) (by decide) (by decide) (by decide) (by decide)) (nk 62 (by decide) (by decide) (by decide) (by decide) (by decide)) (nk 63 (by decide) (by decide) (by decide) (by decide) (by decide))
      · exact h8.kept (congrFun (nk 1 (by decide) (by decide) (by decide) (by decide) (by decide)) 1) (nk 2 (by decide) (by decide) (by decide) (by decide) (by decide)) (nf 2 (by decide) (by decide) (by decide)) (nk 47 (by decide) (by decide) (by decide) (by decide) (by decide))
  · obtain rfl : hr = 5 := by omega
    refine ⟨(-3), m, gup m 46 0 (nI 0), ?_, ?_, hthr⟩
    · show Go O (d + 4) kX6_hour _ _ 0 [.ref 0] [] m
      refine go_aload_n dX6_hour_0 rfl ?_
      refine go_getc dX6_hour_1 fX6_19 rfl (by decide) (by decide) (by decide) rfl ?_
      refine go_geti dX6_hour_4 fX6_94 rfl (by decide) (by decide) (by decide) rfl s4 ?_
      refine go_iconst (nI 5) dX6_hour_7 (by decide +kernel) ?_
      refine go_icmp_lt 14 dX6_hour_8 (by decide) (fun h => absurd h (by decide +kernel)) (fun h8 => ?_)
      refine go_bipush (-3) dX6_hour_11 (by decide +kernel) ?_
      exact go_iret dX6_hour_13 rfl rfl rfl
    · show Go O (d + 4) kX7_hour _ _ 0 [.ref 46] [] m
      refine go_aload_n dX7_hour_0 rfl ?_
      refine go_iconst (nI 0) dX7_hour_1 (by decide +kernel) ?_
      refine go_puti dX7_hour_2 fX7_77 rfl (by decide) (by decide) (by decide) rfl (fun _ _ _ h => by cases h; rfl) (Or.inl rfl) ?_
      refine go_aload_n dX7_hour_5 rfl ?_
      refine go_geti dX7_hour_6 fX7_137 rfl (by decide) (by decide) (by decide) rfl s11 ?_
      refine go_iconst (nI 5) dX7_hour_9 (by decide +kernel) ?_
      refine go_icmp_ne 16 dX7_hour_10 (by decide) (fun h => absurd h (fun q => q rfl)) (fun h10 => ?_)
      refine go_bipush (-3) dX7_hour_13 (by decide +kernel) ?_
      exact go_iret dX7_hour_15 rfl rfl rfl
