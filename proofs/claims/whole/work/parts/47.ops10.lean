theorem ftB_congr {m m' : gMem} {c h k : Nat} (a1 : m'.1 61 = m.1 61) (a2 : m'.1 62 = m.1 62) (a3 : m'.1 63 = m.1 63) : ftB m' c h k = ftB m c h k := by
  unfold ftB
  rw [snA_congr a1 a2 a3, snA_congr a1 a2 a3]
def cfM_29 (m : gMem) (k lim : Nat) : gMem := gupA (gup (gupR m 2 29) 41 6 (nI lim)) 44 (upd (flP (m.1 44) (nI 0) 640) (k * 10) (nI 1))
theorem c_countFrom_29 {O : gOm} {d : Nat} {m : gMem} {k lim : Nat} (hk : k < 64) : Ca O (d + 1) kX2_countFrom [.ref 41, .ref 29, .int (nI k), .int (nI lim)] none m (cfM_29 m k lim) := by
  show Go O (d + 1) kX2_countFrom none _ 0 [.ref 41, .ref 29, .int (nI k), .int (nI lim)] [] m
  refine go_aload_n dX2_countFrom_0 rfl ?_
  refine go_aload_n dX2_countFrom_1 rfl ?_
  refine go_putr dX2_countFrom_2 fX2_24 rfl (by decide) (by decide) (by decide) rfl (fun _ _ _ h => by cases h; rfl) ⟨_, rfl⟩ ?_
  refine go_aload_n dX2_countFrom_5 rfl ?_
  refine go_iload_n dX2_countFrom_6 rfl ?_
  refine go_puti dX2_countFrom_7 fX2_84 rfl (by decide) (by decide) (by decide) rfl (fun _ _ _ h => by cases h; rfl) (Or.inl rfl) ?_
  refine go_aload_n dX2_countFrom_10 rfl ?_
  refine go_getc dX2_countFrom_11 fX2_18 rfl (by decide) (by decide) (by decide) rfl ?_
  refine go_iconst (nI 0) dX2_countFrom_14 (by decide +kernel) ?_
  refine go_callS0 (K' := kJ7_fill_53178) [_, _] dX2_countFrom_15 mX2_46 lJ7_fill_53178 rfl rfl (Nat.le_of_ble_eq_true rfl) (Nat.le_of_ble_eq_true rfl) (c_fill rfl (by decide) (by decide)) ?_
  refine go_aload_n dX2_countFrom_18 rfl ?_
  refine go_getc dX2_countFrom_19 fX2_18 rfl (by decide) (by decide) (by decide) rfl ?_
  refine go_iload_n dX2_countFrom_22 rfl ?_
  refine go_bipush (nI 10) dX2_countFrom_23 (by decide +kernel) ?_
  first | refine go_imul_n dX2_countFrom_25 ?_ | refine go_imul dX2_countFrom_25 rfl ?_
  refine go_iconst (nI 1) dX2_countFrom_26 (by decide +kernel) ?_
  refine go_iastA dX2_countFrom_27 rfl (by decide) rfl (by omega) (by decide) ?_
  exact go_vret dX2_countFrom_28 rfl rfl rfl
theorem c_rowsX_29 {O : gOm} {d : Nat} {m : gMem} {G : Nat → Nat → Nat} {F : Nat → Nat → Bool} {k0 n lim N cs : Nat} (hT : m.2 0 = 29) (t6 : m.1 29 6 = nI N) (hN3 : N ≤ 3) (hnN : n < N) (hg : ∀ h a, G h a < 64) (hk : k0 < 64) (hG : ∀ h a, h < 6 → a < 3 → m.1 31 (h * 3 + a) = nI (G h a)) (hf : m.1 34 n = nI k0) (ha : m.1 32 n = nI lim) (ha9 : lim ≤ 9) (hs : ∀ i, i < cs → ∃ p, p < 6 ∧ m.1 62 i = nI p) (h27 : ∀ h, h < 6 → m.1 27 h = nI (snA m h true cs) ∧ m.1 28 h = nI (snA m h false cs)) (hF : ∀ h k, F h k = ftB m cs h k) : ∃ m1, Ca O (d + 5) kX6_rows [.ref 0, .int (nI n)] (some (.int (nI (sm (rwW G lim k0 F 6) 640)))) m m1 ∧ (∀ k, k ≠ 41 → k ≠ 44 → k ≠ 45 → m1.1 k = m.1 k) ∧ m1.2 0 = m.2 0 ∧ m1.2 1 = m.2 1 := by
  obtain ⟨M, hM⟩ : ∃ M, gup (gupR m 2 29) 41 6 (nI lim) = M := ⟨_, rfl⟩
  have M2 : M.2 2 = 29 := by rw [← hM]; rfl
  have Mg : ∀ k, k ≠ 41 → M.1 k = m.1 k := fun k hk => by rw [← hM, gup_k _ _ hk]; rfl
  have Ml : M.1 41 6 = nI lim := by rw [← hM, gup_s]
  have lp : ∀ q c (x y : Nat → Int32), c + q = 6 → (∀ i, i < 640 → x i = nI (rwW G lim k0 F c i)) → ∃ (x' y' : Nat → Int32), Go O (d + 5) kX6_rows (some (.int (nI (sm (rwW G lim k0 F 6) 640)))) (mm M 44 45 x' y') 41 [.ref 0, .int (nI n), .int (nI c)] [] (mm M 44 45 x y) := by
    intro q
    induction q with
    | zero =>
      intro c x y hc hx
      obtain rfl : c = 6 := by omega
      refine ⟨x, y, ?_⟩
      refine go_iload_n dX6_rows_41 rfl ?_
      refine go_bipush (nI 6) dX6_rows_42 (by decide +kernel) ?_
      refine go_icmp_ge 73 dX6_rows_44 (by decide) (fun h44 => ?_) (fun h => absurd (nI_le (by omega) (by omega)) h)
      refine go_aload_n dX6_rows_73 rfl ?_
      refine go_getc dX6_rows_74 fX6_59 rfl (by decide) (by decide) (by decide) rfl ?_
      refine go_callV1 (K' := kX2_counted) [] dX6_rows_77 mX6_254 lX2_counted rfl (by decide) rfl (by decide) rfl rfl (Nat.le_of_ble_eq_true rfl) (Nat.le_of_ble_eq_true rfl) (c_counted (m := mm M 44 45 x y) hx) ?_
      exact go_iret dX6_rows_80 rfl rfl rfl
    | succ q ih =>
      intro c x y hc hx
      obtain ⟨x1, y1, w1, c1⟩ := c_countThrough_29 (O := O) (d := d) (m := mm M 44 45 x y) (h := c) (lim := lim) (gr := G c) (W := rwW G lim k0 F c) M2 (fun a ha => ((congrFun (Mg 31 (by decide)) _).trans (hG c a (by omega) ha))) (hg c) (by omega) ha9 Ml (fun j _ hj => rwW_z ha9 hg c j hj) (fun i hi => ⟨hx i hi, rwW_b (by omega) hi⟩)
      rw [mm_mm] at c1
      have c2 := c_strike (O := O) (d := d + 3) (m := M) (h := c) (lim := lim) (F := F c) (x := x1) (y := y1) (a := snA m c true cs) (b := snA m c false cs) (by omega) ha9 Ml (snA_64 cs hs) (snA_64 cs hs) ((congrFun (Mg 27 (by decide)) _).trans (h27 c (by omega)).1) ((congrFun (Mg 28 (by decide)) _).trans (h27 c (by omega)).2) (fun k hk => hF c k)
      obtain ⟨x', y', p1⟩ := ih (c + 1) (stO (F c) lim x1 64) y1 (by omega) (fun i hi => by
        rw [stO_at ha9, rwW]
        cases hFk : F c (i / 10) with
        | true =>
          rw [if_neg (fun q => by cases q.2.1), if_pos rfl]
          exact w1 i hi
        | false =>
          by_cases z : i % 10 ≤ lim
          · rw [if_pos ⟨by omega, rfl, z⟩, if_neg (by simp)]
          · rw [if_neg (fun q => z q.2.2), if_neg (by simp), w1 i hi, gW_z ha9 (by omega) (hg c)])
      refine ⟨x', y', ?_⟩
      refine go_iload_n dX6_rows_41 rfl ?_
      refine go_bipush (nI 6) dX6_rows_42 (by decide +kernel) ?_
      refine go_icmp_ge 73 dX6_rows_44 (by decide) (fun h => absurd h (nI_ge (by omega) (by omega))) (fun h44 => ?_)
      refine go_aload_n dX6_rows_47 rfl ?_
      refine go_getc dX6_rows_48 fX6_59 rfl (by decide) (by decide) (by decide) rfl ?_
      refine go_iload_n dX6_rows_51 rfl ?_
      refine go_callV0 (K' := kX2_countThrough) [_] dX6_rows_52 mX6_247 lX2_countThrough rfl (by decide) rfl (by decide) rfl rfl (Nat.le_of_ble_eq_true rfl) (Nat.le_of_ble_eq_true rfl) (c1) ?_
      refine go_aload_n dX6_rows_55 rfl ?_
      refine go_getc dX6_rows_56 fX6_59 rfl (by decide) (by decide) (by decide) rfl ?_
      refine go_iload_n dX6_rows_59 rfl ?_
      refine go_aload_n dX6_rows_60 rfl ?_
      refine go_getc dX6_rows_61 fX6_40 rfl (by decide) (by decide) (by decide) rfl ?_
      refine go_callV0 (K' := kX2_strikeUnseen) [_, _] dX6_rows_64 mX6_250 lX2_strikeUnseen rfl (by decide) rfl (by decide) rfl rfl (Nat.le_of_ble_eq_true rfl) (Nat.le_of_ble_eq_true rfl) (c2) ?_
      refine go_iinc_n (L' := [_, _, _]) dX6_rows_67 rfl (by decide) rfl ?_
      refine go_goto 41 dX6_rows_70 (by decide) ?_
      exact p1
  obtain ⟨x', y', p1⟩ := lp 6 0 (upd (flP (m.1 44) (nI 0) 640) (k0 * 10) (nI 1)) (m.1 45) (by omega) (fun i hi => by
    rw [rwW]
    by_cases e : i = 10 * k0
    · rw [if_pos e, e, Nat.mul_comm, upd_s]
    · rw [if_neg e, upd_n _ _ (by omega), flP_at, if_pos hi])
  have em : cfM_29 m k0 lim = mm M 44 45 (upd (flP (m.1 44) (nI 0) 640) (k0 * 10) (nI 1)) (m.1 45) := by
    unfold cfM_29 mm
    rw [hM]
    have e45 : m.1 45 = (gupA M 44 (upd (flP (m.1 44) (nI 0) 640) (k0 * 10) (nI 1))).1 45 := by
      rw [gupA_k _ _ (by decide), Mg 45 (by decide)]
    rw [e45, gupA_self]
  refine ⟨mm M 44 45 x' y', ?_, fun k z1 z2 z3 => by rw [mm_k _ _ _ z2 z3, Mg k z1], by rw [← hM]; rfl, by rw [← hM]; rfl⟩
  have c0 := c_countFrom_29 (O := O) (d := d + 3) (m := m) (k := k0) (lim := lim) hk
  rw [em] at c0
  show Go O (d + 5) kX6_rows _ _ 0 [.ref 0, .int (nI n), .null] [] m
  refine go_aload_n dX6_rows_0 rfl ?_
  refine go_iload_n dX6_rows_1 rfl ?_
  refine go_callV1 (K' := kX6_isNews) [_] dX6_rows_2 mX6_116 lX6_isNews rfl (by decide) rfl (by decide) rfl rfl (Nat.le_of_ble_eq_true rfl) (Nat.le_of_ble_eq_true rfl) (c_isNews_29 hT t6 (by omega)) ?_
  refine go_if_ne 10 dX6_rows_5 (by decide) (fun h5 => ?_) (fun h => absurd h (bI_n0.mpr (iR_nI hnN (by omega))))
  refine go_aload_n dX6_rows_10 rfl ?_
  refine go_getc dX6_rows_11 fX6_59 rfl (by decide) (by decide) (by decide) rfl ?_
  refine go_aload_n dX6_rows_14 rfl ?_
  refine go_getm dX6_rows_15 fX6_47 rfl (by decide) (by decide) (by decide) rfl hT ?_
  refine go_aload_n dX6_rows_18 rfl ?_
  refine go_getm dX6_rows_19 fX6_47 rfl (by decide) (by decide) (by decide) rfl hT ?_
  refine go_getc dX6_rows_22 fX6_133 rfl (by decide) (by decide) (by decide) rfl ?_
  refine go_iload_n dX6_rows_25 rfl ?_
  refine go_iald dX6_rows_26 rfl (by decide) rfl (by omega) (by decide) hf ?_
  refine go_aload_n dX6_rows_27 rfl ?_
  refine go_getm dX6_rows_28 fX6_47 rfl (by decide) (by decide) (by decide) rfl hT ?_
  refine go_getc dX6_rows_31 fX6_119 rfl (by decide) (by decide) (by decide) rfl ?_
  refine go_iload_n dX6_rows_34 rfl ?_
  refine go_iald dX6_rows_35 rfl (by decide) rfl (by omega) (by decide) ha ?_
  refine go_callV0 (K' := kX2_countFrom) [_, _, _] dX6_rows_36 mX6_244 lX2_countFrom rfl (by decide) rfl (by decide) rfl rfl (Nat.le_of_ble_eq_true rfl) (Nat.le_of_ble_eq_true rfl) (c0) ?_
  refine go_iconst (nI 0) dX6_rows_39 (by decide +kernel) ?_
  refine go_istore_n (L' := [_, _, _]) dX6_rows_40 (by decide) rfl ?_
  exact p1
def cfM_35 (m : gMem) (k lim : Nat) : gMem := gupA (gup (gupR m 2 35) 41 6 (nI lim)) 44 (upd (flP (m.1 44) (nI 0) 640) (k * 10) (nI 1))
theorem c_countFrom_35 {O : gOm} {d : Nat} {m : gMem} {k lim : Nat} (hk : k < 64) : Ca O (d + 1) kX2_countFrom [.ref 41, .ref 35, .int (nI k), .int (nI lim)] none m (cfM_35 m k lim) := by
  show Go O (d + 1) kX2_countFrom none _ 0 [.ref 41, .ref 35, .int (nI k), .int (nI lim)] [] m
  refine go_aload_n dX2_countFrom_0 rfl ?_
  refine go_aload_n dX2_countFrom_1 rfl ?_
  refine go_putr dX2_countFrom_2 fX2_24 rfl (by decide) (by decide) (by decide) rfl (fun _ _ _ h => by cases h; rfl) ⟨_, rfl⟩ ?_
  refine go_aload_n dX2_countFrom_5 rfl ?_
  refine go_iload_n dX2_countFrom_6 rfl ?_
  refine go_puti dX2_countFrom_7 fX2_84 rfl (by decide) (by decide) (by decide) rfl (fun _ _ _ h => by cases h; rfl) (Or.inl rfl) ?_
  refine go_aload_n dX2_countFrom_10 rfl ?_
  refine go_getc dX2_countFrom_11 fX2_18 rfl (by decide) (by decide) (by decide) rfl ?_
  refine go_iconst (nI 0) dX2_countFrom_14 (by decide +kernel) ?_
  refine go_callS0 (K' := kJ7_fill_53178) [_, _] dX2_countFrom_15 mX2_46 lJ7_fill_53178 rfl rfl (Nat.le_of_ble_eq_true rfl) (Nat.le_of_ble_eq_true rfl) (c_fill rfl (by decide) (by decide)) ?_
  refine go_aload_n dX2_countFrom_18 rfl ?_
  refine go_getc dX2_countFrom_19 fX2_18 rfl (by decide) (by decide) (by decide) rfl ?_
  refine go_iload_n dX2_countFrom_22 rfl ?_
  refine go_bipush (nI 10) dX2_countFrom_23 (by decide +kernel) ?_
  first | refine go_imul_n dX2_countFrom_25 ?_ | refine go_imul dX2_countFrom_25 rfl ?_
  refine go_iconst (nI 1) dX2_countFrom_26 (by decide +kernel) ?_
  refine go_iastA dX2_countFrom_27 rfl (by decide) rfl (by omega) (by decide) ?_
  exact go_vret dX2_countFrom_28 rfl rfl rfl
theorem c_rowsX_35 {O : gOm} {d : Nat} {m : gMem} {G : Nat → Nat → Nat} {F : Nat → Nat → Bool} {k0 n lim N cs : Nat} (hT : m.2 0 = 35) (t6 : m.1 35 6 = nI N) (hN3 : N ≤ 3) (hnN : n < N) (hg : ∀ h a, G h a < 64) (hk : k0 < 64) (hG : ∀ h a, h < 6 → a < 3 → m.1 37 (h * 3 + a) = nI (G h a)) (hf : m.1 40 n = nI k0) (ha : m.1 38 n = nI lim) (ha9 : lim ≤ 9) (hs : ∀ i, i < cs → ∃ p, p < 6 ∧ m.1 62 i = nI p) (h27 : ∀ h, h < 6 → m.1 27 h = nI (snA m h true cs) ∧ m.1 28 h = nI (snA m h false cs)) (hF : ∀ h k, F h k = ftB m cs h k) : ∃ m1, Ca O (d + 5) kX6_rows [.ref 0, .int (nI n)] (some (.int (nI (sm (rwW G lim k0 F 6) 640)))) m m1 ∧ (∀ k, k ≠ 41 → k ≠ 44 → k ≠ 45 → m1.1 k = m.1 k) ∧ m1.2 0 = m.2 0 ∧ m1.2 1 = m.2 1 := by
  obtain ⟨M, hM⟩ : ∃ M, gup (gupR m 2 35) 41 6 (nI lim) = M := ⟨_, rfl⟩
  have M2 : M.2 2 = 35 := by rw [← hM]; rfl
  have Mg : ∀ k, k ≠ 41 → M.1 k = m.1 k := fun k hk => by rw [← hM, gup_k _ _ hk]; rfl
  have Ml : M.1 41 6 = nI lim := by rw [← hM, gup_s]
  have lp : ∀ q c (x y : Nat → Int32), c + q = 6 → (∀ i, i < 640 → x i = nI (rwW G lim k0 F c i)) → ∃ (x' y' : Nat → Int32), Go O (d + 5) kX6_rows (some (.int (nI (sm (rwW G lim k0 F 6) 640)))) (mm M 44 45 x' y') 41 [.ref 0, .int (nI n), .int (nI c)] [] (mm M 44 45 x y) := by
    intro q
    induction q with
    | zero =>
      intro c x y hc hx
      obtain rfl : c = 6 := by omega
      refine ⟨x, y, ?_⟩
      refine go_iload_n dX6_rows_41 rfl ?_
      refine go_bipush (nI 6) dX6_rows_42 (by decide +kernel) ?_
      refine go_icmp_ge 73 dX6_rows_44 (by decide) (fun h44 => ?_) (fun h => absurd (nI_le (by omega) (by omega)) h)
      refine go_aload_n dX6_rows_73 rfl ?_
      refine go_getc dX6_rows_74 fX6_59 rfl (by decide) (by decide) (by decide) rfl ?_
      refine go_callV1 (K' := kX2_counted) [] dX6_rows_77 mX6_254 lX2_counted rfl (by decide) rfl (by decide) rfl rfl (Nat.le_of_ble_eq_true rfl) (Nat.le_of_ble_eq_true rfl) (c_counted (m := mm M 44 45 x y) hx) ?_
      exact go_iret dX6_rows_80 rfl rfl rfl
    | succ q ih =>
      intro c x y hc hx
      obtain ⟨x1, y1, w1, c1⟩ := c_countThrough_35 (O := O) (d := d) (m := mm M 44 45 x y) (h := c) (lim := lim) (gr := G c) (W := rwW G lim k0 F c) M2 (fun a ha => ((congrFun (Mg 37 (by decide)) _).trans (hG c a (by omega) ha))) (hg c) (by omega) ha9 Ml (fun j _ hj => rwW_z ha9 hg c j hj) (fun i hi => ⟨hx i hi, rwW_b (by omega) hi⟩)
      rw [mm_mm] at c1
      have c2 := c_strike (O := O) (d := d + 3) (m := M) (h := c) (lim := lim) (F := F c) (x := x1) (y := y1) (a := snA m c true cs) (b := snA m c false cs) (by omega) ha9 Ml (snA_64 cs hs) (snA_64 cs hs) ((congrFun (Mg 27 (by decide)) _).trans (h27 c (by omega)).1) ((congrFun (Mg 28 (by decide)) _).trans (h27 c (by omega)).2) (fun k hk => hF c k)
      obtain ⟨x', y', p1⟩ := ih (c + 1) (stO (F c) lim x1 64) y1 (by omega) (fun i hi => by
        rw [stO_at ha9, rwW]
        cases hFk : F c (i / 10) with
        | true =>
          rw [if_neg (fun q => by cases q.2.1), if_pos rfl]
          exact w1 i hi
        | false =>
          by_cases z : i % 10 ≤ lim
          · rw [if_pos ⟨by omega, rfl, z⟩, if_neg (by simp)]
          · rw [if_neg (fun q => z q.2.2), if_neg (by simp), w1 i hi, gW_z ha9 (by omega) (hg c)])
      refine ⟨x', y', ?_⟩
      refine go_iload_n dX6_rows_41 rfl ?_
      refine go_bipush (nI 6) dX6_rows_42 (by decide +kernel) ?_
      refine go_icmp_ge 73 dX6_rows_44 (by decide) (fun h => absurd h (nI_ge (by omega) (by omega))) (fun h44 => ?_)
      refine go_aload_n dX6_rows_47 rfl ?_
      refine go_getc dX6_rows_48 fX6_59 rfl (by decide) (by decide) (by decide) rfl ?_
      refine go_iload_n dX6_rows_51 rfl ?_
      refine go_callV0 (K' := kX2_countThrough) [_] dX6_rows_52 mX6_247 lX2_countThrough rfl (by decide) rfl (by decide) rfl rfl (Nat.le_of_ble_eq_true rfl) (Nat.le_of_ble_eq_true rfl) (c1) ?_
      refine go_aload_n dX6_rows_55 rfl ?_
      refine go_getc dX6_rows_56 fX6_59 rfl (by decide) (by decide) (by decide) rfl ?_
      refine go_iload_n dX6_rows_59 rfl ?_
      refine go_aload_n dX6_rows_60 rfl ?_
      refine go_getc dX6_rows_61 fX6_40 rfl (by decide) (by decide) (by decide) rfl ?_
      refine go_callV0 (K' := kX2_strikeUnseen) [_, _] dX6_rows_64 mX6_250 lX2_strikeUnseen rfl (by decide) rfl (by decide) rfl rfl (Nat.le_of_ble_eq_true rfl) (Nat.le_of_ble_eq_true rfl) (c2) ?_
      refine go_iinc_n (L' := [_, _, _]) dX6_rows_67 rfl (by decide) rfl ?_
      refine go_goto 41 dX6_rows_70 (by decide) ?_
      exact p1
  obtain ⟨x', y', p1⟩ := lp 6 0 (upd (flP (m.1 44) (nI 0) 640) (k0 * 10) (nI 1)) (m.1 45) (by omega) (fun i hi => by
    rw [rwW]
    by_cases e : i = 10 * k0
    · rw [if_pos e, e, Nat.mul_comm, upd_s]
    · rw [if_neg e, upd_n _ _ (by omega), flP_at, if_pos hi])
  have em : cfM_35 m k0 lim = mm M 44 45 (upd (flP (m.1 44) (nI 0) 640) (k0 * 10) (nI 1)) (m.1 45) := by
    unfold cfM_35 mm
    rw [hM]
    have e45 : m.1 45 = (gupA M 44 (upd (flP (m.1 44) (nI 0) 640) (k0 * 10) (nI 1))).1 45 := by
      rw [gupA_k _ _ (by decide), Mg 45 (by decide)]
    rw [e45, gupA_self]
  refine ⟨mm M 44 45 x' y', ?_, fun k z1 z2 z3 => by rw [mm_k _ _ _ z2 z3, Mg k z1], by rw [← hM]; rfl, by rw [← hM]; rfl⟩
  have c0 := c_countFrom_35 (O := O) (d := d + 3) (m := m) (k := k0) (lim := lim) hk
  rw [em] at c0
  show Go O (d + 5) kX6_rows _ _ 0 [.ref 0, .int (nI n), .null] [] m
  refine go_aload_n dX6_rows_0 rfl ?_
  refine go_iload_n dX6_rows_1 rfl ?_
  refine go_callV1 (K' := kX6_isNews) [_] dX6_rows_2 mX6_116 lX6_isNews rfl (by decide) rfl (by decide) rfl rfl (Nat.le_of_ble_eq_true rfl) (Nat.le_of_ble_eq_true rfl) (c_isNews_35 hT t6 (by omega)) ?_
  refine go_if_ne 10 dX6_rows_5 (by decide) (fun h5 => ?_) (fun h => absurd h (bI_n0.mpr (iR_nI hnN (by omega))))
  refine go_aload_n dX6_rows_10 rfl ?_
  refine go_getc dX6_rows_11 fX6_59 rfl (by decide) (by decide) (by decide) rfl ?_
  refine go_aload_n dX6_rows_14 rfl ?_
  refine go_getm dX6_rows_15 fX6_47 rfl (by decide) (by decide) (by decide) rfl hT ?_
  refine go_aload_n dX6_rows_18 rfl ?_
  refine go_getm dX6_rows_19 fX6_47 rfl (by decide) (by decide) (by decide) rfl hT ?_
  refine go_getc dX6_rows_22 fX6_133 rfl (by decide) (by decide) (by decide) rfl ?_
  refine go_iload_n dX6_rows_25 rfl ?_
  refine go_iald dX6_rows_26 rfl (by decide) rfl (by omega) (by decide) hf ?_
  refine go_aload_n dX6_rows_27 rfl ?_
  refine go_getm dX6_rows_28 fX6_47 rfl (by decide) (by decide) (by decide) rfl hT ?_
  refine go_getc dX6_rows_31 fX6_119 rfl (by decide) (by decide) (by decide) rfl ?_
  refine go_iload_n dX6_rows_34 rfl ?_
  refine go_iald dX6_rows_35 rfl (by decide) rfl (by omega) (by decide) ha ?_
  refine go_callV0 (K' := kX2_countFrom) [_, _, _] dX6_rows_36 mX6_244 lX2_countFrom rfl (by decide) rfl (by decide) rfl rfl (Nat.le_of_ble_eq_true rfl) (Nat.le_of_ble_eq_true rfl) (c0) ?_
  refine go_iconst (nI 0) dX6_rows_39 (by decide +kernel) ?_
  refine go_istore_n (L' := [_, _, _]) dX6_rows_40 (by decide) rfl ?_
  exact p1
theorem c_rowsM {O : gOm} {d : Nat} {m : gMem} {G : Nat → Nat → Nat} {F : Nat → Nat → Bool} {P k0 n lim N cs : Nat} (hP : m.1 46 4 = nI P) (hP6 : P ≤ 6) (hN : m.1 46 5 = nI N) (hN3 : N ≤ 3) (hnN : n < N) (hG : grp (m.1 48) P = G) (hk0 : k0 < 64) (hf : m.1 51 n = nI k0) (ha : m.1 49 n = nI lim) (ha9 : lim ≤ 9) (hc8 : cs ≤ 8) (h25 : m.1 46 25 = nI cs) (hs : ∀ i, i < cs → (∃ h, h < 6 ∧ m.1 61 i = nI h) ∧ (∃ p, p < 6 ∧ m.1 62 i = nI p) ∧ ∃ b, m.1 63 i = bI b) (hF : ∀ h k, F h k = ftB m cs h k) : ∃ (g65 g66 : Nat → Int32), Ca O (d + 4) kX7_rows [.ref 46, .int (nI n)] (some (.int (nI (sm (rwW G lim k0 F 6) 640)))) m (mm (gup m 46 0 (nI 0)) 65 66 g65 g66) := by
  obtain ⟨M, hM⟩ : ∃ M, gup m 46 0 (nI 0) = M := ⟨_, rfl⟩
  rw [hM]
  have Mg : ∀ k, k ≠ 46 → M.1 k = m.1 k := fun k hk => by rw [← hM, gup_k _ _ hk]
  have Mf : ∀ i, i ≠ 0 → M.1 46 i = m.1 46 i := fun i hi => by rw [← hM, gup_i _ _ hi]
  have q4 : M.1 46 4 = nI P := (Mf 4 (by decide)).trans hP
  have q5 : M.1 46 5 = nI N := (Mf 5 (by decide)).trans hN
  have q25 : M.1 46 25 = nI cs := (Mf 25 (by decide)).trans h25
  have q48 : M.1 48 = m.1 48 := Mg 48 (by decide)
  have q49 : M.1 49 n = nI lim := (congrFun (Mg 49 (by decide)) n).trans ha
  have q51 : M.1 51 n = nI k0 := (congrFun (Mg 51 (by decide)) n).trans hf
  have hg : ∀ h a, G h a < 64 := fun h a => by rw [← hG]; exact grp_64 _ h a hP6
  have seen : ∀ (x y : Nat → Int32) (h k : Nat), h < 6 → k < 64 → Ca O (d + 3) kX7_isSeen [.ref 46, .int (nI h), .int (nI k)] (some (.int (bI (F h k)))) (mm M 65 66 x y) (mm M 65 66 x y) := by
    intro x y h k hh hk
    have z := c_isSeen (O := O) (d := d + 2) (m := mm M 65 66 x y) (h := h) (k := k) (c := cs) hh hk hc8 q25 (fun i hi => by
      rw [show (mm M 65 66 x y).1 61 = m.1 61 from Mg 61 (by decide), show (mm M 65 66 x y).1 62 = m.1 62 from Mg 62 (by decide), show (mm M 65 66 x y).1 63 = m.1 63 from Mg 63 (by decide)]
      exact hs i hi)
    rw [ftB_congr (m := m) (m' := mm M 65 66 x y) (Mg 61 (by decide)) (Mg 62 (by decide)) (Mg 63 (by decide)), ← hF] at z
    exact z
  -- the sum
  have su : ∀ (x y : Nat → Int32), (∀ i, i < 640 → x i = nI (rwW G lim k0 F 6 i)) → ∀ q i, i + q = 640 → Go O (d + 4) kX7_rows (some (.int (nI (sm (rwW G lim k0 F 6) 640)))) (mm M 65 66 x y) 126 [.ref 46, .int (nI n), .int (nI (sm (rwW G lim k0 F 6) i)), .int (nI i)] [] (mm M 65 66 x y) := by
    intro x y hx q
    induction q with
    | zero =>
      intro i hi
      obtain rfl : i = 640 := by omega
      refine go_iload_n dX7_rows_126 rfl ?_
      refine go_sipush (nI 640) dX7_rows_127 (by decide +kernel) ?_
      refine go_icmp_ge 148 dX7_rows_130 (by decide) (fun h130 => ?_) (fun h => absurd (nI_le (by omega) (by omega)) h)
      refine go_iload_n dX7_rows_148 rfl ?_
      exact go_iret dX7_rows_149 rfl rfl rfl
    | succ q ih =>
      intro i hi
      have hi2 := ih (i + 1) (by omega)
      rw [sm_s] at hi2
      refine go_iload_n dX7_rows_126 rfl ?_
      refine go_sipush (nI 640) dX7_rows_127 (by decide +kernel) ?_
      refine go_icmp_ge 148 dX7_rows_130 (by decide) (fun h => absurd h (nI_ge (by omega) (by omega))) (fun h130 => ?_)
      refine go_iload_n dX7_rows_133 rfl ?_
      refine go_aload_n dX7_rows_134 rfl ?_
      refine go_getc dX7_rows_135 fX7_65 rfl (by decide) (by decide) (by decide) rfl ?_
      refine go_iload_n dX7_rows_138 rfl ?_
      refine go_iald dX7_rows_139 rfl (by decide) rfl (by omega) (by decide) (hx i (by omega)) ?_
      first | refine go_iadd_n dX7_rows_140 ?_ | refine go_iadd dX7_rows_140 rfl ?_
      refine go_istore_n (L' := [_, _, _, _]) dX7_rows_141 (by decide) rfl ?_
      refine go_iinc_n (L' := [_, _, _, _]) dX7_rows_142 rfl (by decide) rfl ?_
      refine go_goto 126 dX7_rows_145 (by decide) ?_
      exact hi2
  -- the hours
  have hrs : ∀ q c (x y : Nat → Int32), c + q = 6 → (∀ i, i < 640 → x i = nI (rwW G lim k0 F c i)) → ∃ (x' y' : Nat → Int32), ∀ u, Go O (d + 4) kX7_rows (some (.int (nI (sm (rwW G lim k0 F 6) 640)))) (mm M 65 66 x' y') 56 [.ref 46, .int (nI n), .int (nI c), u] [] (mm M 65 66 x y) := by
    intro q
    induction q with
    | zero =>
      intro c x y hc hx
      obtain rfl : c = 6 := by omega
      refine ⟨x, y, fun u => ?_⟩
      have s0 := su x y hx 640 0 (by omega)
      refine go_iload_n dX7_rows_56 rfl ?_
      refine go_bipush (nI 6) dX7_rows_57 (by decide +kernel) ?_
      refine go_icmp_ge 122 dX7_rows_59 (by decide) (fun h59 => ?_) (fun h => absurd (nI_le (by omega) (by omega)) h)
      refine go_iconst (nI 0) dX7_rows_122 (by decide +kernel) ?_
      refine go_istore_n (L' := [_, _, _, _]) dX7_rows_123 (by decide) rfl ?_
      refine go_iconst (nI 0) dX7_rows_124 (by decide +kernel) ?_
      refine go_istore_n (L' := [_, _, _, _]) dX7_rows_125 (by decide) rfl ?_
      exact s0
    | succ q ihq =>
      intro c x y hc hx
      obtain ⟨x1, y1, w1, c1⟩ := c_goWays (O := O) (d := d) (m := mm M 65 66 x y) (P := P) (h := c) (most := lim) (gr := G c) (W := rwW G lim k0 F c) q4 hP6 (by rw [mm_k _ _ _ (by decide) (by decide), q48, hG]) (by omega) ha9 (fun i hi => ⟨hx i hi, rwW_b (by omega) hi⟩)
      rw [mm_mm] at c1
      obtain ⟨x', y', p1⟩ := ihq (c + 1) (flV x1 (fun i => if F c (i / 10) then x1 i else nI 0) 640) y1 (by omega) (fun i hi => by
        rw [flV_at, if_pos hi, rwW]
        cases F c (i / 10) with
        | true => exact w1 i hi
        | false => rfl)
      refine ⟨x', y', fun u => ?_⟩
      have lp : ∀ q k, k + q = 640 → Go O (d + 4) kX7_rows (some (.int (nI (sm (rwW G lim k0 F 6) 640)))) (mm M 65 66 x' y') 75 [.ref 46, .int (nI n), .int (nI c), .int (nI k)] [] (mm M 65 66 (flV x1 (fun i => if F c (i / 10) then x1 i else nI 0) k) y1) := by
        intro q
        induction q with
        | zero =>
          intro k hk
          obtain rfl : k = 640 := by omega
          refine go_iload_n dX7_rows_75 rfl ?_
          refine go_sipush (nI 640) dX7_rows_76 (by decide +kernel) ?_
          refine go_icmp_ge 116 dX7_rows_79 (by decide) (fun h79 => ?_) (fun h => absurd (nI_le (by omega) (by omega)) h)
          refine go_iinc_n (L' := [_, _, _, _]) dX7_rows_116 rfl (by decide) rfl ?_
          refine go_goto 56 dX7_rows_119 (by decide) ?_
          exact p1 _
        | succ q ih =>
          intro k hk
          have hi := ih (k + 1) (by omega)
          rw [flV] at hi
          have cs1 := seen (flV x1 (fun i => if F c (i / 10) then x1 i else nI 0) k) y1 c (k / 10) (by omega) (by omega)
          have xv : flV x1 (fun i => if F c (i / 10) then x1 i else nI 0) k k = x1 k := by rw [flV_at, if_neg (by omega)]
          cases hFk : F c (k / 10) with
          | true =>
            rw [hFk] at cs1 hi
            rw [if_pos rfl] at hi
            refine go_iload_n dX7_rows_75 rfl ?_
            refine go_sipush (nI 640) dX7_rows_76 (by decide +kernel) ?_
            refine go_icmp_ge 116 dX7_rows_79 (by decide) (fun h => absurd h (nI_ge (by omega) (by omega))) (fun h79 => ?_)
            refine go_aload_n dX7_rows_82 rfl ?_
            refine go_getc dX7_rows_83 fX7_65 rfl (by decide) (by decide) (by decide) rfl ?_
            refine go_iload_n dX7_rows_86 rfl ?_
            refine go_aload_n dX7_rows_87 rfl ?_
            refine go_iload_n dX7_rows_88 rfl ?_
            refine go_iload_n dX7_rows_89 rfl ?_
            refine go_bipush (nI 10) dX7_rows_90 (by decide +kernel) ?_
            refine go_idiv dX7_rows_92 (by decide +kernel) (pk_div (by omega) (by omega) (by omega)) ?_
            refine go_callV1 (K' := kX7_isSeen) [_, _] dX7_rows_93 mX7_223 lX7_isSeen rfl (by decide) rfl (by decide) rfl rfl (Nat.le_of_ble_eq_true rfl) (Nat.le_of_ble_eq_true rfl) (cs1) ?_
            refine go_if_eq 108 dX7_rows_96 (by decide) (fun h => absurd h (bI_n0.mpr rfl)) (fun h96 => ?_)
            refine go_aload_n dX7_rows_99 rfl ?_
            refine go_getc dX7_rows_100 fX7_65 rfl (by decide) (by decide) (by decide) rfl ?_
            refine go_iload_n dX7_rows_103 rfl ?_
            refine go_iald dX7_rows_104 rfl (by decide) rfl (by omega) (by decide) xv ?_
            refine go_goto 109 dX7_rows_105 (by decide) ?_
            refine go_iast dX7_rows_109 rfl (by decide) rfl (by omega) (by decide) ?_
            rw [mm_1 (by decide)]
            refine go_iinc_n (L' := [_, _, _, _]) dX7_rows_110 rfl (by decide) rfl ?_
            refine go_goto 75 dX7_rows_113 (by decide) ?_
            exact hi
          | false =>
            rw [hFk] at cs1 hi
            rw [if_neg (by simp)] at hi
            refine go_iload_n dX7_rows_75 rfl ?_
            refine go_sipush (nI 640) dX7_rows_76 (by decide +kernel) ?_
            refine go_icmp_ge 116 dX7_rows_79 (by decide) (fun h => absurd h (nI_ge (by omega) (by omega))) (fun h79 => ?_)
            refine go_aload_n dX7_rows_82 rfl ?_
            refine go_getc dX7_rows_83 fX7_65 rfl (by decide) (by decide) (by decide) rfl ?_
            refine go_iload_n dX7_rows_86 rfl ?_
            refine go_aload_n dX7_rows_87 rfl ?_
            refine go_iload_n dX7_rows_88 rfl ?_
            refine go_iload_n dX7_rows_89 rfl ?_
            refine go_bipush (nI 10) dX7_rows_90 (by decide +kernel) ?_
            refine go_idiv dX7_rows_92 (by decide +kernel) (pk_div (by omega) (by omega) (by omega)) ?_
            refine go_callV1 (K' := kX7_isSeen) [_, _] dX7_rows_93 mX7_223 lX7_isSeen rfl (by decide) rfl (by decide) rfl rfl (Nat.le_of_ble_eq_true rfl) (Nat.le_of_ble_eq_true rfl) (cs1) ?_
            refine go_if_eq 108 dX7_rows_96 (by decide) (fun h96 => ?_) (fun h => absurd (bI_0.mpr rfl) h)
            refine go_iconst (nI 0) dX7_rows_108 (by decide +kernel) ?_
            refine go_iast dX7_rows_109 rfl (by decide) rfl (by omega) (by decide) ?_
            rw [mm_1 (by decide)]
            refine go_iinc_n (L' := [_, _, _, _]) dX7_rows_110 rfl (by decide) rfl ?_
            refine go_goto 75 dX7_rows_113 (by decide) ?_
            exact hi
      have lp0 := lp 640 0 (by omega)
      refine go_iload_n dX7_rows_56 rfl ?_
      refine go_bipush (nI 6) dX7_rows_57 (by decide +kernel) ?_
      refine go_icmp_ge 122 dX7_rows_59 (by decide) (fun h => absurd h (nI_ge (by omega) (by omega))) (fun h59 => ?_)
      refine go_aload_n dX7_rows_62 rfl ?_
      refine go_iload_n dX7_rows_63 rfl ?_
      refine go_aload_n dX7_rows_64 rfl ?_
      refine go_getc dX7_rows_65 fX7_16 rfl (by decide) (by decide) (by decide) rfl ?_
      refine go_iload_n dX7_rows_68 rfl ?_
      refine go_iald dX7_rows_69 rfl (by decide) rfl (by omega) (by decide) q49 ?_
      refine go_callV0 (K' := kX7_goWays) [_, _] dX7_rows_70 mX7_200 lX7_goWays rfl (by decide) rfl (by decide) rfl rfl (Nat.le_of_ble_eq_true rfl) (Nat.le_of_ble_eq_true rfl) (c1) ?_
      refine go_iconst (nI 0) dX7_rows_73 (by decide +kernel) ?_
      refine go_istore_n (L' := [_, _, _, _]) dX7_rows_74 (by decide) rfl ?_
      exact lp0
  have ini : ∀ res M', (∀ u, Go O (d + 4) kX7_rows res M' 54 [.ref 46, .int (nI n), .int (nI 640), u] [] (mm M 65 66 (flV (M.1 65) (fun k => nI (if k = 10 * k0 then 1 else 0)) 640) (M.1 66))) → ∀ q k, k + q = 640 → ∀ u, Go O (d + 4) kX7_rows res M' 17 [.ref 46, .int (nI n), .int (nI k), u] [] (mm M 65 66 (flV (M.1 65) (fun k => nI (if k = 10 * k0 then 1 else 0)) k) (M.1 66)) := by
    intro res M' kk q
    induction q with
    | zero =>
      intro k hk u
      obtain rfl : k = 640 := by omega
      refine go_iload_n dX7_rows_17 rfl ?_
      refine go_sipush (nI 640) dX7_rows_18 (by decide +kernel) ?_
      refine go_icmp_ge 54 dX7_rows_21 (by decide) (fun h21 => ?_) (fun h => absurd (nI_le (by omega) (by omega)) h)
      exact kk _
    | succ q ih =>
      intro k hk u
      have hi := ih (k + 1) (by omega) u
      rw [flV] at hi
      by_cases e : k = 10 * k0
      · rw [if_pos e] at hi
        refine go_iload_n dX7_rows_17 rfl ?_
        refine go_sipush (nI 640) dX7_rows_18 (by decide +kernel) ?_
        refine go_icmp_ge 54 dX7_rows_21 (by decide) (fun h => absurd h (nI_ge (by omega) (by omega))) (fun h21 => ?_)
        refine go_aload_n dX7_rows_24 rfl ?_
        refine go_getc dX7_rows_25 fX7_65 rfl (by decide) (by decide) (by decide) rfl ?_
        refine go_iload_n dX7_rows_28 rfl ?_
        refine go_iload_n dX7_rows_29 rfl ?_
        refine go_bipush (nI 10) dX7_rows_30 (by decide +kernel) ?_
        refine go_aload_n dX7_rows_32 rfl ?_
        refine go_getc dX7_rows_33 fX7_22 rfl (by decide) (by decide) (by decide) rfl ?_
        refine go_iload_n dX7_rows_36 rfl ?_
        refine go_iald dX7_rows_37 rfl (by decide) rfl (by omega) (by decide) q51 ?_
        first | refine go_imul_n dX7_rows_38 ?_ | refine go_imul dX7_rows_38 rfl ?_
        refine go_icmp_ne 46 dX7_rows_39 (by decide) (fun h => absurd h (fun q => q (by rw [e]))) (fun h39 => ?_)
        refine go_iconst (nI 1) dX7_rows_42 (by decide +kernel) ?_
        refine go_goto 47 dX7_rows_43 (by decide) ?_
        refine go_iast dX7_rows_47 rfl (by decide) rfl (by omega) (by decide) ?_
        rw [mm_1 (by decide)]
        refine go_iinc_n (L' := [_, _, _, _]) dX7_rows_48 rfl (by decide) rfl ?_
        refine go_goto 17 dX7_rows_51 (by decide) ?_
        exact hi
      · rw [if_neg e] at hi
        refine go_iload_n dX7_rows_17 rfl ?_
        refine go_sipush (nI 640) dX7_rows_18 (by decide +kernel) ?_
        refine go_icmp_ge 54 dX7_rows_21 (by decide) (fun h => absurd h (nI_ge (by omega) (by omega))) (fun h21 => ?_)
        refine go_aload_n dX7_rows_24 rfl ?_
        refine go_getc dX7_rows_25 fX7_65 rfl (by decide) (by decide) (by decide) rfl ?_
        refine go_iload_n dX7_rows_28 rfl ?_
        refine go_iload_n dX7_rows_29 rfl ?_
        refine go_bipush (nI 10) dX7_rows_30 (by decide +kernel) ?_
        refine go_aload_n dX7_rows_32 rfl ?_
        refine go_getc dX7_rows_33 fX7_22 rfl (by decide) (by decide) (by decide) rfl ?_
        refine go_iload_n dX7_rows_36 rfl ?_
        refine go_iald dX7_rows_37 rfl (by decide) rfl (by omega) (by decide) q51 ?_
        first | refine go_imul_n dX7_rows_38 ?_ | refine go_imul dX7_rows_38 rfl ?_
        refine go_icmp_ne 46 dX7_rows_39 (by decide) (fun h39 => ?_) (fun h => absurd h (fun q => e ((nI_eq (by omega) (by omega)).mp q)))
        refine go_iconst (nI 0) dX7_rows_46 (by decide +kernel) ?_
        refine go_iast dX7_rows_47 rfl (by decide) rfl (by omega) (by decide) ?_
        rw [mm_1 (by decide)]
        refine go_iinc_n (L' := [_, _, _, _]) dX7_rows_48 rfl (by decide) rfl ?_
        refine go_goto 17 dX7_rows_51 (by decide) ?_
        exact hi
  obtain ⟨x', y', p1⟩ := hrs 6 0 (flV (M.1 65) (fun k => nI (if k = 10 * k0 then 1 else 0)) 640) (M.1 66) (by omega) (fun i hi => by
    rw [flV_at, if_pos hi, rwW])
  refine ⟨x', y', ?_⟩
  have f2 := ini (some (.int (nI (sm (rwW G lim k0 F 6) 640)))) (mm M 65 66 x' y') (fun u => by
    refine go_iconst (nI 0) dX7_rows_54 (by decide +kernel) ?_
    refine go_istore_n (L' := [_, _, _, _]) dX7_rows_55 (by decide) rfl ?_
    exact p1 _) 640 0 (by omega)
  show Go O (d + 4) kX7_rows _ _ 0 [.ref 46, .int (nI n), .null, .null] [] m
  refine go_aload_n dX7_rows_0 rfl ?_
  refine go_iconst (nI 0) dX7_rows_1 (by decide +kernel) ?_
  refine go_puti dX7_rows_2 fX7_77 rfl (by decide) (by decide) (by decide) rfl (fun _ _ _ h => by cases h; rfl) (Or.inl rfl) ?_
  rw [hM]
  refine go_aload_n dX7_rows_5 rfl ?_
  refine go_iload_n dX7_rows_6 rfl ?_
  refine go_callV1 (K' := kX7_noNews) [_] dX7_rows_7 mX7_155 lX7_noNews rfl (by decide) rfl (by decide) rfl rfl (Nat.le_of_ble_eq_true rfl) (Nat.le_of_ble_eq_true rfl) (c_noNews q5 (by omega)) ?_
  refine go_if_eq 15 dX7_rows_10 (by decide) (fun h10 => ?_) (fun h => absurd (bI_0.mpr (by rw [iR_nI hnN (by omega)]; rfl)) h)
  refine go_iconst (nI 0) dX7_rows_15 (by decide +kernel) ?_
  refine go_istore_n (L' := [_, _, _, _]) dX7_rows_16 (by decide) rfl ?_
  refine go_mem (mm_id M 65 66).symm ?_
  exact f2 _
theorem op_rows_29 {O : gOm} {d : Nat} {m : gMem} {n : Int32} (h0 : Inv m) (hT : m.2 0 = 29) : OpOk O (d + 40) kX6_rows kX7_rows [.int n] m := by
  have hthr := h0.thr
  have hin0 := h0
  obtain ⟨P, N, lw, hr, a, c, L, lim, h1, h2, h3, h4, h5, h6, h7, h8⟩ := h0
  obtain ⟨hP, hP6, hN, hN3, hlw, hl3, hw, hlim, hfs⟩ := id h2
  obtain ⟨t5, t6, t7, tp, tg, tn⟩ : IvT m 29 P N lw := hT ▸ h3
  obtain ⟨⟨s4, sk, st, sa, spl⟩, h11, ok1, ok2, ok3, ok4, ok5⟩ := id h4
  obtain ⟨hc8, c26, c25, hcs, c27⟩ := id h7
  cases hin : iR n N with
  | false =>
    refine ⟨(-1), m, gup m 46 0 (nI 0), ?_, ?_, hthr⟩
    · show Go O (d + 40) kX6_rows _ _ 0 [.ref 0, .int n, .null] [] m
      refine go_aload_n dX6_rows_0 rfl ?_
      refine go_iload_n dX6_rows_1 rfl ?_
      refine go_callV1 (K' := kX6_isNews) [_] dX6_rows_2 mX6_116 lX6_isNews rfl (by decide) rfl (by decide) rfl rfl (Nat.le_of_ble_eq_true rfl) (Nat.le_of_ble_eq_true rfl) (c_isNews_29 hT t6 (by omega)) ?_
      refine go_if_ne 10 dX6_rows_5 (by decide) (fun h => absurd h (fun q => q (bI_0.mpr hin))) (fun h5 => ?_)
      refine go_iconst (-1) dX6_rows_8 (by decide +kernel) ?_
      exact go_iret dX6_rows_9 rfl rfl rfl
    · show Go O (d + 40) kX7_rows _ _ 0 [.ref 46, .int n, .null, .null] [] m
      refine go_aload_n dX7_rows_0 rfl ?_
      refine go_iconst (nI 0) dX7_rows_1 (by decide +kernel) ?_
      refine go_puti dX7_rows_2 fX7_77 rfl (by decide) (by decide) (by decide) rfl (fun _ _ _ h => by cases h; rfl) (Or.inl rfl) ?_
      refine go_aload_n dX7_rows_5 rfl ?_
      refine go_iload_n dX7_rows_6 rfl ?_
      refine go_callV1 (K' := kX7_noNews) [_] dX7_rows_7 mX7_155 lX7_noNews rfl (by decide) rfl (by decide) rfl rfl (Nat.le_of_ble_eq_true rfl) (Nat.le_of_ble_eq_true rfl) (c_noNews hN (by omega)) ?_
      refine go_if_eq 15 dX7_rows_10 (by decide) (fun h => absurd h (bI_n0.mpr (by rw [hin]; rfl))) (fun h10 => ?_)
      refine go_iconst (-1) dX7_rows_13 (by decide +kernel) ?_
      exact go_iret dX7_rows_14 rfl rfl rfl
  | true =>
    obtain ⟨n, hnN, rfl⟩ := iR_of hin
    obtain ⟨l9, el⟩ := hlim n hnN
    obtain ⟨k, hk, ek⟩ := hfs n hnN
    obtain ⟨m1, c1, g, e0, e1⟩ := c_rowsX_29 (O := O) (d := d + 35) (m := m) (G := grp (m.1 48) P) (F := ftB m c) (k0 := k) (n := n) (lim := lim n) (cs := c) hT t6 hN3 hnN (fun h a => grp_64 _ h a hP6) hk tg ((tn n hnN).2.2.trans ek) ((tn n hnN).1.trans el) l9 (fun i hi => (hcs i hi).2.1) c27 (fun _ _ => rfl)
    have g46 := g 46 (by decide) (by decide) (by decide)
    have g48 := g 48 (by decide) (by decide) (by decide)
    have g49 := g 49 (by decide) (by decide) (by decide)
    have g51 := g 51 (by decide) (by decide) (by decide)
    have g61 := g 61 (by decide) (by decide) (by decide)
    have g62 := g 62 (by decide) (by decide) (by decide)
    have g63 := g 63 (by decide) (by decide) (by decide)
    obtain ⟨x, y, c2⟩ := c_rowsM (O := O) (d := d + 36) (m := m1) (G := grp (m.1 48) P) (F := ftB m c) (P := P) (k0 := k) (n := n) (lim := lim n) (cs := c) ((congrFun g46 4).trans hP) hP6 ((congrFun g46 5).trans hN) hN3 hnN (by rw [g48]) hk ((congrFun g51 _).trans ek) ((congrFun g49 _).trans el) l9 hc8 ((congrFun g46 25).trans c25) (by rw [g61, g62, g63]; exact hcs) (fun h k => (ftB_congr g61 g62 g63).symm)
    exact ⟨_, _, _, c1, c2, mm_fr hin0 hT (by omega) (fun k hk => g k (by omega) (by omega) (by omega)) e0 e1 (by omega) (by omega)⟩
theorem op_rows_35 {O : gOm} {d : Nat} {m : gMem} {n : Int32} (h0 : Inv m) (hT : m.2 0 = 35) : OpOk O (d + 40) kX6_rows kX7_rows [.int n] m := by
  have hthr := h0.thr
  have hin0 := h0
  obtain ⟨P, N, lw, hr, a, c, L, lim, h1, h2, h3, h4, h5, h6, h7, h8⟩ := h0
  obtain ⟨hP, hP6, hN, hN3, hlw, hl3, hw, hlim, hfs⟩ := id h2
  obtain ⟨t5, t6, t7, tp, tg, tn⟩ : IvT m 35 P N lw := hT ▸ h3
  obtain ⟨⟨s4, sk, st, sa, spl⟩, h11, ok1, ok2, ok3, ok4, ok5⟩ := id h4
  obtain ⟨hc8, c26, c25, hcs, c27⟩ := id h7
  cases hin : iR n N with
  | false =>
    refine ⟨(-1), m, gup m 46 0 (nI 0), ?_, ?_, hthr⟩
    · show Go O (d + 40) kX6_rows _ _ 0 [.ref 0, .int n, .null] [] m
      refine go_aload_n dX6_rows_0 rfl ?_
      refine go_iload_n dX6_rows_1 rfl ?_
      refine go_callV1 (K' := kX6_isNews) [_] dX6_rows_2 mX6_116 lX6_isNews rfl (by decide) rfl (by decide) rfl rfl (Nat.le_of_ble_eq_true rfl) (Nat.le_of_ble_eq_true rfl) (c_isNews_35 hT t6 (by omega)) ?_
      refine go_if_ne 10 dX6_rows_5 (by decide) (fun h => absurd h (fun q => q (bI_0.mpr hin))) (fun h5 => ?_)
      refine go_iconst (-1) dX6_rows_8 (by decide +kernel) ?_
      exact go_iret dX6_rows_9 rfl rfl rfl
    · show Go O (d + 40) kX7_rows _ _ 0 [.ref 46, .int n, .null, .null] [] m
      refine go_aload_n dX7_rows_0 rfl ?_
      refine go_iconst (nI 0) dX7_rows_1 (by decide +kernel) ?_
      refine go_puti dX7_rows_2 fX7_77 rfl (by decide) (by decide) (by decide) rfl (fun _ _ _ h => by cases h; rfl) (Or.inl rfl) ?_
      refine go_aload_n dX7_rows_5 rfl ?_
      refine go_iload_n dX7_rows_6 rfl ?_
      refine go_callV1 (K' := kX7_noNews) [_] dX7_rows_7 mX7_155 lX7_noNews rfl (by decide) rfl (by decide) rfl rfl (Nat.le_of_ble_eq_true rfl) (Nat.le_of_ble_eq_true rfl) (c_noNews hN (by omega)) ?_
      refine go_if_eq 15 dX7_rows_10 (by decide) (fun h => absurd h (bI_n0.mpr (by rw [hin]; rfl))) (fun h10 => ?_)
      refine go_iconst (-1) dX7_rows_13 (by decide +kernel) ?_
      exact go_iret dX7_rows_14 rfl rfl rfl
  | true =>
    obtain ⟨n, hnN, rfl⟩ := iR_of hin
    obtain ⟨l9, el⟩ := hlim n hnN
    obtain ⟨k, hk, ek⟩ := hfs n hnN
    obtain ⟨m1, c1, g, e0, e1⟩ := c_rowsX_35 (O := O) (d := d + 35) (m := m) (G := grp (m.1 48) P) (F := ftB m c) (k0 := k) (n := n) (lim := lim n) (cs := c) hT t6 hN3 hnN (fun h a => grp_64 _ h a hP6) hk tg ((tn n hnN).2.2.trans ek) ((tn n hnN).1.trans el) l9 (fun i hi => (hcs i hi).2.1) c27 (fun _ _ => rfl)
    have g46 := g 46 (by decide) (by decide) (by decide)
    have g48 := g 48 (by decide) (by decide) (by decide)
    have g49 := g 49 (by decide) (by decide) (by decide)
    have g51 := g 51 (by decide) (by decide) (by decide)
    have g61 := g 61 (by decide) (by decide) (by decide)
    have g62 := g 62 (by decide) (by decide) (by decide)
    have g63 := g 63 (by decide) (by decide) (by decide)
    obtain ⟨x, y, c2⟩ := c_rowsM (O := O) (d := d + 36) (m := m1) (G := grp (m.1 48) P) (F := ftB m c) (P := P) (k0 := k) (n := n) (lim := lim n) (cs := c) ((congrFun g46 4).trans hP) hP6 ((congrFun g46 5).trans hN) hN3 hnN (by rw [g48]) hk ((congrFun g51 _).trans ek) ((congrFun g49 _).trans el) l9 hc8 ((congrFun g46 25).trans c25) (by rw [g61, g62, g63]; exact hcs) (fun h k => (ftB_congr g61 g62 g63).symm)
    exact ⟨_, _, _, c1, c2, mm_fr hin0 hT (by omega) (fun k hk => g k (by omega) (by omega) (by omega)) e0 e1 (by omega) (by omega)⟩
theorem op_rows {O : gOm} {d : Nat} {m : gMem} {n : Int32} (h0 : Inv m) : OpOk O (d + 40) kX6_rows kX7_rows [.int n] m := by
  have hh := h0
  obtain ⟨P, N, lw, hr, a, c, L, lim, h1, h2, h3, h4, h5, h6, h7, h8⟩ := hh
  rcases h1 with ⟨e, -⟩ | ⟨e, -⟩
  · exact op_rows_29 h0 e
  · exact op_rows_35 h0 e
