/-! two arrays beside each other -/
def mm (m : gMem) (c1 c2 : Nat) (a b : Nat → Int32) : gMem := gupA (gupA m c1 a) c2 b
theorem mm_1 {m : gMem} {c1 c2 : Nat} (h : c1 ≠ c2) {a b : Nat → Int32} {i : Nat} {x : Int32} : gup (mm m c1 c2 a b) c1 i x = mm m c1 c2 (upd a i x) b := by
  refine Prod.ext (funext fun k => ?_) rfl
  by_cases h2 : k = c2
  · subst h2
    rw [gup_k _ _ (Ne.symm h)]
    unfold mm
    rw [gupA_s, gupA_s]
  · by_cases h1 : k = c1
    · subst h1
      rw [gupd]
      unfold mm
      rw [gupA_k _ _ h, gupA_k _ _ h, gupA_s, gupA_s]
    · rw [gup_k _ _ h1]
      unfold mm
      rw [gupA_k _ _ h2, gupA_k _ _ h2, gupA_k _ _ h1, gupA_k _ _ h1]
theorem mm_2 {m : gMem} {c1 c2 : Nat} {a b : Nat → Int32} {i : Nat} {x : Int32} : gup (mm m c1 c2 a b) c2 i x = mm m c1 c2 a (upd b i x) := by
  unfold mm
  rw [gup_gupA]
theorem mm_id (m : gMem) (c1 c2 : Nat) : mm m c1 c2 (m.1 c1) (m.1 c2) = m := by
  unfold mm
  rw [gupA_self, gupA_self]
theorem mm_k (m : gMem) {c1 c2 k : Nat} (a b : Nat → Int32) (h1 : k ≠ c1) (h2 : k ≠ c2) : (mm m c1 c2 a b).1 k = m.1 k := by
  unfold mm
  rw [gupA_k _ _ h2, gupA_k _ _ h1]
def flV (f : Nat → Int32) (v : Nat → Int32) : Nat → Nat → Int32
  | 0 => f
  | i + 1 => upd (flV f v i) i (v i)
theorem flV_at (f v : Nat → Int32) (j : Nat) : ∀ n, flV f v n j = if j < n then v j else f j
  | 0 => by rw [if_neg (by omega)]; rfl
  | n + 1 => by
    by_cases h : j = n
    · rw [if_pos (by omega), flV, h, upd_s]
    · rw [flV, upd_n _ _ h, flV_at f v j n]
      by_cases h2 : j < n
      · rw [if_pos h2, if_pos (by omega)]
      · rw [if_neg h2, if_neg (by omega)]
/-- least tellings by who knows it -/
def WOk (G : Nat → Nat → Nat) (h0 k0 c : Nat) (W : Nat → Nat) : Prop := ∀ k, k < 64 → (W k < 999 → Re G 0 h0 k0 c k (W k)) ∧ ∀ t, Re G 0 h0 k0 c k t → W k ≤ t
theorem most_eq {G : Nat → Nat → Nat} {h0 k0 c left : Nat} {F W : Nat → Nat} (hl : left ≤ 9) (hF : ∀ k, k < 64 → ∀ b, (F k).testBit b = true ↔ ∃ t, t + b = left ∧ Re G 0 h0 k0 c k t) (hW : WOk G h0 k0 c W) : mxA (fun k => F k ≠ 0) 64 = mxA (fun k => W k ≤ left) 64 := by
  refine mxA_congr 64 (fun k hk => ?_)
  constructor
  · intro h
    obtain ⟨b, hb⟩ := Nat.exists_testBit_of_ne_zero h
    obtain ⟨t, e, hr⟩ := (hF k hk b).mp hb
    have := (hW k hk).2 t hr
    omega
  · intro h e
    have hr := (hW k hk).1 (by omega)
    have := (hF k hk (left - W k)).mpr ⟨W k, by omega, hr⟩
    rw [e] at this
    simp at this
theorem c_mostX_29 {O : gOm} {d : Nat} {m : gMem} {G : Nat → Nat → Nat} {hr k0 n a b N lw : Nat} (hT : m.2 0 = 29) (t6 : m.1 29 6 = nI N) (hN3 : N ≤ 3) (hnN : n < N) (t7 : m.1 29 7 = nI 0) (hg : ∀ h a, G h a < 64) (hr6 : hr < 6) (hk : k0 < 64) (hG : ∀ h a, h < 6 → a < 3 → m.1 31 (h * 3 + a) = nI (G h a)) (s4 : m.1 3 4 = nI hr) (sk : m.1 4 n = nI k0) (ha : m.1 32 n = nI a) (hb : nI 0 + m.1 7 (n * 3 + 0) + m.1 7 (n * 3 + 1) + m.1 7 (n * 3 + 2) = nI b) (hab : b ≤ a) (ha9 : a ≤ 9) : ∃ (g : Nat → Int32) (F : Nat → Nat), (∀ k, k < 64 → ∀ c, (F k).testBit c = true ↔ ∃ t, t + c = a - b ∧ Re G 0 hr k0 (6 - hr) k t) ∧ Ca O (d + 5) kX6_most [.ref 0, .int (nI n)] (some (.int (nI (mxA (fun k => F k ≠ 0) 64)))) m (gupA (gupR m 2 29) 43 g) := by
  have lp : ∀ q c (g : Nat → Int32) (F : Nat → Nat), hr + c + q = 6 → (∀ k, k < 64 → g k = nI (F k) ∧ F k < 1024) → (∀ k, k < 64 → ∀ e, (F k).testBit e = true ↔ ∃ t, t + e = a - b ∧ Re G 0 hr k0 c k t) → ∃ (g' : Nat → Int32) (F' : Nat → Nat), (∀ k, k < 64 → ∀ e, (F' k).testBit e = true ↔ ∃ t, t + e = a - b ∧ Re G 0 hr k0 (c + q) k t) ∧ Go O (d + 5) kX6_most (some (.int (nI (mxA (fun k => F' k ≠ 0) 64)))) (gupA (gupR m 2 29) 43 g') 56 [.ref 0, .int (nI n), .int (nI (hr + c))] [] (gupA (gupR m 2 29) 43 g) := by
    intro q
    induction q with
    | zero =>
      intro c g F hc hv hF
      refine ⟨g, F, hF, ?_⟩
      refine go_iload_n dX6_most_56 rfl ?_
      refine go_bipush (nI 6) dX6_most_57 (by decide +kernel) ?_
      refine go_icmp_ge 77 dX6_most_59 (by decide) (fun h59 => ?_) (fun h => absurd (nI_le (by omega) (by omega)) h)
      refine go_aload_n dX6_most_77 rfl ?_
      refine go_getc dX6_most_78 fX6_59 rfl (by decide) (by decide) (by decide) rfl ?_
      refine go_callV1 (K' := kX2_mostKnowing) [] dX6_most_81 mX6_212 lX2_mostKnowing rfl (by decide) rfl (by decide) rfl rfl (Nat.le_of_ble_eq_true rfl) (Nat.le_of_ble_eq_true rfl) (c_mostKnowing hv) ?_
      exact go_iret dX6_most_84 rfl rfl rfl
    | succ q ih =>
      intro c g F hc hv hF
      obtain ⟨g1, F1, v1, e1, c1⟩ := c_goThrough_29 (O := O) (d := d + 1) (m := gupA (gupR m 2 29) 43 g) (h := hr + c) (bar := 0) (gr := G (hr + c)) (F := F) rfl (fun a ha => hG (hr + c) a (by omega) ha) (hg _) (by omega) (by omega) hv
      rw [gupA_gupA] at c1
      obtain ⟨g', F', p1, p2⟩ := ih (c + 1) g1 F1 (by omega) v1 (LfOk.go hF e1)
      rw [show c + 1 + q = c + (q + 1) by omega] at p1
      refine ⟨g', F', p1, ?_⟩
      refine go_iload_n dX6_most_56 rfl ?_
      refine go_bipush (nI 6) dX6_most_57 (by decide +kernel) ?_
      refine go_icmp_ge 77 dX6_most_59 (by decide) (fun h => absurd h (nI_ge (by omega) (by omega))) (fun h59 => ?_)
      refine go_aload_n dX6_most_62 rfl ?_
      refine go_getc dX6_most_63 fX6_59 rfl (by decide) (by decide) (by decide) rfl ?_
      refine go_iload_n dX6_most_66 rfl ?_
      refine go_iconst (nI 0) dX6_most_67 (by decide +kernel) ?_
      refine go_callV0 (K' := kX2_goThrough) [_, _] dX6_most_68 mX6_208 lX2_goThrough rfl (by decide) rfl (by decide) rfl rfl (Nat.le_of_ble_eq_true rfl) (Nat.le_of_ble_eq_true rfl) (c1) ?_
      refine go_iinc_n (L' := [_, _, _]) dX6_most_71 rfl (by decide) rfl ?_
      refine go_goto 56 dX6_most_74 (by decide) ?_
      exact p2
  obtain ⟨F0, v0, e0⟩ := LfOk.st (G := G) (bar := 0) (h0 := hr) (k0 := k0) (left := a - b) (f := m.1 43) (Nat.and_zero _) hk (by omega)
  obtain ⟨g', F', p1, p2⟩ := lp (6 - hr) 0 _ F0 (by omega) v0 e0
  rw [Nat.zero_add] at p1
  refine ⟨g', F', p1, ?_⟩
  show Go O (d + 5) kX6_most _ _ 0 [.ref 0, .int (nI n), .null] [] m
  refine go_aload_n dX6_most_0 rfl ?_
  refine go_iload_n dX6_most_1 rfl ?_
  refine go_callV1 (K' := kX6_isNews) [_] dX6_most_2 mX6_116 lX6_isNews rfl (by decide) rfl (by decide) rfl rfl (Nat.le_of_ble_eq_true rfl) (Nat.le_of_ble_eq_true rfl) (c_isNews_29 hT t6 (by omega)) ?_
  refine go_if_ne 10 dX6_most_5 (by decide) (fun h5 => ?_) (fun h => absurd h (bI_n0.mpr (iR_nI hnN (by omega))))
  refine go_aload_n dX6_most_10 rfl ?_
  refine go_getm dX6_most_11 fX6_47 rfl (by decide) (by decide) (by decide) rfl hT ?_
  refine go_geti dX6_most_14 fX6_91 rfl (by decide) (by decide) (by decide) rfl t7 ?_
  refine go_if_eq 23 dX6_most_17 (by decide) (fun h17 => ?_) (fun h => absurd (rfl) h)
  refine go_aload_n dX6_most_23 rfl ?_
  refine go_getc dX6_most_24 fX6_59 rfl (by decide) (by decide) (by decide) rfl ?_
  refine go_aload_n dX6_most_27 rfl ?_
  refine go_getm dX6_most_28 fX6_47 rfl (by decide) (by decide) (by decide) rfl hT ?_
  refine go_aload_n dX6_most_31 rfl ?_
  refine go_getc dX6_most_32 fX6_19 rfl (by decide) (by decide) (by decide) rfl ?_
  refine go_getc dX6_most_35 fX6_130 rfl (by decide) (by decide) (by decide) rfl ?_
  refine go_iload_n dX6_most_38 rfl ?_
  refine go_iald dX6_most_39 rfl (by decide) rfl (by omega) (by decide) sk ?_
  refine go_aload_n dX6_most_40 rfl ?_
  refine go_iload_n dX6_most_41 rfl ?_
  refine go_callV1 (K' := kX6_leftOf) [_] dX6_most_42 mX6_201 lX6_leftOf rfl (by decide) rfl (by decide) rfl rfl (Nat.le_of_ble_eq_true rfl) (Nat.le_of_ble_eq_true rfl) (c_leftOfX_29 hT (by omega) ha hb hab) ?_
  refine go_callV0 (K' := kX2_lookFrom) [_, _, _] dX6_most_45 mX6_204 lX2_lookFrom rfl (by decide) rfl (by decide) rfl rfl (Nat.le_of_ble_eq_true rfl) (Nat.le_of_ble_eq_true rfl) (c_lookFrom_29 hk (by omega)) ?_
  refine go_aload_n dX6_most_48 rfl ?_
  refine go_getc dX6_most_49 fX6_19 rfl (by decide) (by decide) (by decide) rfl ?_
  refine go_geti dX6_most_52 fX6_94 rfl (by decide) (by decide) (by decide) rfl s4 ?_
  refine go_istore_n (L' := [_, _, _]) dX6_most_55 (by decide) rfl ?_
  exact p2
theorem c_mostX_35 {O : gOm} {d : Nat} {m : gMem} {G : Nat → Nat → Nat} {hr k0 n a b N lw : Nat} (hT : m.2 0 = 35) (t6 : m.1 35 6 = nI N) (hN3 : N ≤ 3) (hnN : n < N) (t7 : m.1 35 7 = nI 0) (hg : ∀ h a, G h a < 64) (hr6 : hr < 6) (hk : k0 < 64) (hG : ∀ h a, h < 6 → a < 3 → m.1 37 (h * 3 + a) = nI (G h a)) (s4 : m.1 3 4 = nI hr) (sk : m.1 4 n = nI k0) (ha : m.1 38 n = nI a) (hb : nI 0 + m.1 7 (n * 3 + 0) + m.1 7 (n * 3 + 1) + m.1 7 (n * 3 + 2) = nI b) (hab : b ≤ a) (ha9 : a ≤ 9) : ∃ (g : Nat → Int32) (F : Nat → Nat), (∀ k, k < 64 → ∀ c, (F k).testBit c = true ↔ ∃ t, t + c = a - b ∧ Re G 0 hr k0 (6 - hr) k t) ∧ Ca O (d + 5) kX6_most [.ref 0, .int (nI n)] (some (.int (nI (mxA (fun k => F k ≠ 0) 64)))) m (gupA (gupR m 2 35) 43 g) := by
  have lp : ∀ q c (g : Nat → Int32) (F : Nat → Nat), hr + c + q = 6 → (∀ k, k < 64 → g k = nI (F k) ∧ F k < 1024) → (∀ k, k < 64 → ∀ e, (F k).testBit e = true ↔ ∃ t, t + e = a - b ∧ Re G 0 hr k0 c k t) → ∃ (g' : Nat → Int32) (F' : Nat → Nat), (∀ k, k < 64 → ∀ e, (F' k).testBit e = true ↔ ∃ t, t + e = a - b ∧ Re G 0 hr k0 (c + q) k t) ∧ Go O (d + 5) kX6_most (some (.int (nI (mxA (fun k => F' k ≠ 0) 64)))) (gupA (gupR m 2 35) 43 g') 56 [.ref 0, .int (nI n), .int (nI (hr + c))] [] (gupA (gupR m 2 35) 43 g) := by
    intro q
    induction q with
    | zero =>
      intro c g F hc hv hF
      refine ⟨g, F, hF, ?_⟩
      refine go_iload_n dX6_most_56 rfl ?_
      refine go_bipush (nI 6) dX6_most_57 (by decide +kernel) ?_
      refine go_icmp_ge 77 dX6_most_59 (by decide) (fun h59 => ?_) (fun h => absurd (nI_le (by omega) (by omega)) h)
      refine go_aload_n dX6_most_77 rfl ?_
      refine go_getc dX6_most_78 fX6_59 rfl (by decide) (by decide) (by decide) rfl ?_
      refine go_callV1 (K' := kX2_mostKnowing) [] dX6_most_81 mX6_212 lX2_mostKnowing rfl (by decide) rfl (by decide) rfl rfl (Nat.le_of_ble_eq_true rfl) (Nat.le_of_ble_eq_true rfl) (c_mostKnowing hv) ?_
      exact go_iret dX6_most_84 rfl rfl rfl
    | succ q ih =>
      intro c g F hc hv hF
      obtain ⟨g1, F1, v1, e1, c1⟩ := c_goThrough_35 (O := O) (d := d + 1) (m := gupA (gupR m 2 35) 43 g) (h := hr + c) (bar := 0) (gr := G (hr + c)) (F := F) rfl (fun a ha => hG (hr + c) a (by omega) ha) (hg _) (by omega) (by omega) hv
      rw [gupA_gupA] at c1
      obtain ⟨g', F', p1, p2⟩ := ih (c + 1) g1 F1 (by omega) v1 (LfOk.go hF e1)
      rw [show c + 1 + q = c + (q + 1) by omega] at p1
      refine ⟨g', F', p1, ?_⟩
      refine go_iload_n dX6_most_56 rfl ?_
      refine go_bipush (nI 6) dX6_most_57 (by decide +kernel) ?_
      refine go_icmp_ge 77 dX6_most_59 (by decide) (fun h => absurd h (nI_ge (by omega) (by omega))) (fun h59 => ?_)
      refine go_aload_n dX6_most_62 rfl ?_
      refine go_getc dX6_most_63 fX6_59 rfl (by decide) (by decide) (by decide) rfl ?_
      refine go_iload_n dX6_most_66 rfl ?_
      refine go_iconst (nI 0) dX6_most_67 (by decide +kernel) ?_
      refine go_callV0 (K' := kX2_goThrough) [_, _] dX6_most_68 mX6_208 lX2_goThrough rfl (by decide) rfl (by decide) rfl rfl (Nat.le_of_ble_eq_true rfl) (Nat.le_of_ble_eq_true rfl) (c1) ?_
      refine go_iinc_n (L' := [_, _, _]) dX6_most_71 rfl (by decide) rfl ?_
      refine go_goto 56 dX6_most_74 (by decide) ?_
      exact p2
  obtain ⟨F0, v0, e0⟩ := LfOk.st (G := G) (bar := 0) (h0 := hr) (k0 := k0) (left := a - b) (f := m.1 43) (Nat.and_zero _) hk (by omega)
  obtain ⟨g', F', p1, p2⟩ := lp (6 - hr) 0 _ F0 (by omega) v0 e0
  rw [Nat.zero_add] at p1
  refine ⟨g', F', p1, ?_⟩
  show Go O (d + 5) kX6_most _ _ 0 [.ref 0, .int (nI n), .null] [] m
  refine go_aload_n dX6_most_0 rfl ?_
  refine go_iload_n dX6_most_1 rfl ?_
  refine go_callV1 (K' := kX6_isNews) [_] dX6_most_2 mX6_116 lX6_isNews rfl (by decide) rfl (by decide) rfl rfl (Nat.le_of_ble_eq_true rfl) (Nat.le_of_ble_eq_true rfl) (c_isNews_35 hT t6 (by omega)) ?_
  refine go_if_ne 10 dX6_most_5 (by decide) (fun h5 => ?_) (fun h => absurd h (bI_n0.mpr (iR_nI hnN (by omega))))
  refine go_aload_n dX6_most_10 rfl ?_
  refine go_getm dX6_most_11 fX6_47 rfl (by decide) (by decide) (by decide) rfl hT ?_
  refine go_geti dX6_most_14 fX6_91 rfl (by decide) (by decide) (by decide) rfl t7 ?_
  refine go_if_eq 23 dX6_most_17 (by decide) (fun h17 => ?_) (fun h => absurd (rfl) h)
  refine go_aload_n dX6_most_23 rfl ?_
  refine go_getc dX6_most_24 fX6_59 rfl (by decide) (by decide) (by decide) rfl ?_
  refine go_aload_n dX6_most_27 rfl ?_
  refine go_getm dX6_most_28 fX6_47 rfl (by decide) (by decide) (by decide) rfl hT ?_
  refine go_aload_n dX6_most_31 rfl ?_
  refine go_getc dX6_most_32 fX6_19 rfl (by decide) (by decide) (by decide) rfl ?_
  refine go_getc dX6_most_35 fX6_130 rfl (by decide) (by decide) (by decide) rfl ?_
  refine go_iload_n dX6_most_38 rfl ?_
  refine go_iald dX6_most_39 rfl (by decide) rfl (by omega) (by decide) sk ?_
  refine go_aload_n dX6_most_40 rfl ?_
  refine go_iload_n dX6_most_41 rfl ?_
  refine go_callV1 (K' := kX6_leftOf) [_] dX6_most_42 mX6_201 lX6_leftOf rfl (by decide) rfl (by decide) rfl rfl (Nat.le_of_ble_eq_true rfl) (Nat.le_of_ble_eq_true rfl) (c_leftOfX_35 hT (by omega) ha hb hab) ?_
  refine go_callV0 (K' := kX2_lookFrom) [_, _, _] dX6_most_45 mX6_204 lX2_lookFrom rfl (by decide) rfl (by decide) rfl rfl (Nat.le_of_ble_eq_true rfl) (Nat.le_of_ble_eq_true rfl) (c_lookFrom_35 hk (by omega)) ?_
  refine go_aload_n dX6_most_48 rfl ?_
  refine go_getc dX6_most_49 fX6_19 rfl (by decide) (by decide) (by decide) rfl ?_
  refine go_geti dX6_most_52 fX6_94 rfl (by decide) (by decide) (by decide) rfl s4 ?_
  refine go_istore_n (L' := [_, _, _]) dX6_most_55 (by decide) rfl ?_
  exact p2
theorem c_mostM {O : gOm} {d : Nat} {m : gMem} {P hr k0 n a b N : Nat} (hP : m.1 46 4 = nI P) (hP6 : P ≤ 6) (hN : m.1 46 5 = nI N) (hN3 : N ≤ 3) (hnN : n < N) (hl : m.1 46 6 = nI 0) (hh : m.1 46 11 = nI hr) (hr6 : hr < 6) (hk0 : k0 < 64) (sk : m.1 52 (3 + n) = nI k0) (ha : m.1 49 n = nI a) (hb : m.1 52 n = nI b) (hab : b ≤ a) (ha9 : a ≤ 9) : ∃ (g65 g66 : Nat → Int32) (W : Nat → Nat), WOk (grp (m.1 48) P) hr k0 (6 - hr) W ∧ Ca O (d + 3) kX7_most [.ref 46, .int (nI n)] (some (.int (nI (mxA (fun k => W k ≤ a - b) 64)))) m (mm (gup m 46 0 (nI 0)) 65 66 g65 g66) := by
  generalize hm0 : gup m 46 0 (nI 0) = m0
  have q4 : m0.1 46 4 = nI P := by rw [← hm0]; exact hP
  have q5 : m0.1 46 5 = nI N := by rw [← hm0]; exact hN
  have q6 : m0.1 46 6 = nI 0 := by rw [← hm0]; exact hl
  have q11 : m0.1 46 11 = nI hr := by rw [← hm0]; exact hh
  have q48 : m0.1 48 = m.1 48 := by rw [← hm0]; rfl
  have q49 : m0.1 49 n = nI a := by rw [← hm0]; exact ha
  have q52 : m0.1 52 n = nI b := by rw [← hm0]; exact hb
  have q52k : m0.1 52 (3 + n) = nI k0 := by rw [← hm0]; exact sk
  generalize hG : grp (m.1 48) P = G
  have hg : ∀ h a, G h a < 64 := fun h a => by rw [← hG]; exact grp_64 _ h a hP6
  have hGm : ∀ x y, grp ((mm m0 65 66 x y).1 48) P = G := fun x y => by rw [mm_k _ _ _ (by decide) (by decide), q48, hG]
  -- the places
  have inn : ∀ (h k w : Nat) (x : Nat → Int32), h < 6 → k < 64 → w < 999 → x k = nI w → ∀ q S (y : Nat → Int32) (T : Nat → Nat), S + q = 8 → (∀ i, i < 64 → y i = nI (T i) ∧ T i ≤ 999) → ∃ (y' : Nat → Int32) (T' : Nat → Nat), (∀ i, i < 64 → y' i = nI (T' i) ∧ T' i ≤ 999) ∧ (∀ i, i < 64 → T' i ≤ T i ∧ (T' i = T i ∨ ∃ S', S ≤ S' ∧ S' < 8 ∧ bh (G h) S' k = some i ∧ T' i = w + pc6 S') ∧ ∀ S', S ≤ S' → S' < 8 → bh (G h) S' k = some i → T' i ≤ w + pc6 S') ∧ ∀ res M, (∀ u v z, Go O (d + 3) kX7_most res M 199 [.ref 46, .int (nI n), .int (nI h), .int (nI k), u, v, z] [] (mm m0 65 66 x y')) → ∀ v z, Go O (d + 3) kX7_most res M 109 [.ref 46, .int (nI n), .int (nI h), .int (nI k), .int (nI S), v, z] [] (mm m0 65 66 x y) := by
    intro h k w x hh6 hk hw hx q
    induction q with
    | zero =>
      intro S y T hS hv
      refine ⟨y, T, hv, fun i hi => ⟨Nat.le_refl _, Or.inl rfl, fun S' a1 a2 => absurd a1 (by omega)⟩, fun res M kk v z => ?_⟩
      refine go_iload dX7_most_109 rfl ?_
      refine go_bipush (nI 8) dX7_most_111 (by decide +kernel) ?_
      refine go_icmp_ge 199 dX7_most_113 (by decide) (fun h113 => ?_) (fun h => absurd (nI_le (by omega) (by omega)) h)
      exact kk _ _ _
    | succ q ih =>
      intro S y T hS hv
      have cb := c_behind (O := O) (d := d) (m := mm m0 65 66 x y) (P := P) (h := h) (S := S) (k := k) q4 hP6 hh6 (by omega) hk
      rw [hGm] at cb
      have hS6 := pc6_le S
      have step : ∀ (y1 : Nat → Int32) (T1 : Nat → Nat), (∀ i, i < 64 → y1 i = nI (T1 i) ∧ T1 i ≤ 999) → (∀ i, i < 64 → T1 i ≤ T i ∧ (T1 i = T i ∨ (bh (G h) S k = some i ∧ T1 i = w + pc6 S)) ∧ (bh (G h) S k = some i → T1 i ≤ w + pc6 S)) → (∀ res M, (∀ v z, Go O (d + 3) kX7_most res M 193 [.ref 46, .int (nI n), .int (nI h), .int (nI k), .int (nI S), v, z] [] (mm m0 65 66 x y1)) → ∀ v z, Go O (d + 3) kX7_most res M 109 [.ref 46, .int (nI n), .int (nI h), .int (nI k), .int (nI S), v, z] [] (mm m0 65 66 x y)) → ∃ (y' : Nat → Int32) (T' : Nat → Nat), (∀ i, i < 64 → y' i = nI (T' i) ∧ T' i ≤ 999) ∧ (∀ i, i < 64 → T' i ≤ T i ∧ (T' i = T i ∨ ∃ S', S ≤ S' ∧ S' < 8 ∧ bh (G h) S' k = some i ∧ T' i = w + pc6 S') ∧ ∀ S', S ≤ S' → S' < 8 → bh (G h) S' k = some i → T' i ≤ w + pc6 S') ∧ ∀ res M, (∀ u v z, Go O (d + 3) kX7_most res M 199 [.ref 46, .int (nI n), .int (nI h), .int (nI k), u, v, z] [] (mm m0 65 66 x y')) → ∀ v z, Go O (d + 3) kX7_most res M 109 [.ref 46, .int (nI n), .int (nI h), .int (nI k), .int (nI S), v, z] [] (mm m0 65 66 x y) := by
        intro y1 T1 v1 e1 hgo
        obtain ⟨y', T', r1, r2, r3⟩ := ih (S + 1) y1 T1 (by omega) v1
        refine ⟨y', T', r1, fun i hi => ?_, fun res M kk => hgo res M (fun v z => ?_)⟩
        · obtain ⟨a1, a2, a3⟩ := r2 i hi
          obtain ⟨b1, b2, b3⟩ := e1 i hi
          refine ⟨Nat.le_trans a1 b1, ?_, fun S' c1 c2 c3 => ?_⟩
          · rcases a2 with z | ⟨S', z1, z2⟩
            · rcases b2 with u | u
              · exact Or.inl (by omega)
              · exact Or.inr ⟨S, Nat.le_refl _, by omega, u.1, by omega⟩
            · exact Or.inr ⟨S', by omega, z2⟩
          · rcases Nat.lt_or_ge S S' with z | z
            · exact a3 S' z c2 c3
            · obtain rfl : S' = S := by omega
              exact Nat.le_trans a1 (b3 c3)
        · have r4 := r3 res M kk
          refine go_iinc_n (L' := [_, _, _, _, _, _, _]) dX7_most_193 rfl (by decide) rfl ?_
          refine go_goto 109 dX7_most_196 (by decide) ?_
          exact r4 _ _
      cases hbh : bh (G h) S k with
      | none =>
        rw [hbh] at cb
        rw [hbh] at step
        refine step y T hv (fun i hi => ⟨Nat.le_refl _, Or.inl rfl, fun z => by cases z⟩) (fun res M kk v z => ?_)
        refine go_iload dX7_most_109 rfl ?_
        refine go_bipush (nI 8) dX7_most_111 (by decide +kernel) ?_
        refine go_icmp_ge 199 dX7_most_113 (by decide) (fun h => absurd h (nI_ge (by omega) (by omega))) (fun h113 => ?_)
        refine go_aload_n dX7_most_116 rfl ?_
        refine go_getc dX7_most_117 fX7_65 rfl (by decide) (by decide) (by decide) rfl ?_
        refine go_iload_n dX7_most_120 rfl ?_
        refine go_iald dX7_most_121 rfl (by decide) rfl (by omega) (by decide) hx ?_
        refine go_sipush (nI 999) dX7_most_122 (by decide +kernel) ?_
        refine go_icmp_ge 199 dX7_most_125 (by decide) (fun h => absurd h (nI_ge (by omega) (by omega))) (fun h125 => ?_)
        refine go_aload_n dX7_most_128 rfl ?_
        refine go_iload dX7_most_129 rfl ?_
        refine go_iload_n dX7_most_131 rfl ?_
        refine go_iload_n dX7_most_132 rfl ?_
        refine go_callV1 (K' := kX7_behind) [_, _, _] dX7_most_133 mX7_183 lX7_behind rfl (by decide) rfl (by decide) rfl rfl (Nat.le_of_ble_eq_true rfl) (Nat.le_of_ble_eq_true rfl) (cb) ?_
        refine go_istore (L' := [_, _, _, _, _, _, _]) dX7_most_136 (by decide) rfl ?_
        refine go_iload dX7_most_138 rfl ?_
        refine go_bipush (-9) dX7_most_140 (by decide +kernel) ?_
        refine go_icmp_ne 151 dX7_most_142 (by decide) (fun h => absurd h (fun q => q rfl)) (fun h142 => ?_)
        refine go_sipush (nI 999) dX7_most_145 (by decide +kernel) ?_
        refine go_goto 163 dX7_most_148 (by decide) ?_
        refine go_istore (L' := [_, _, _, _, _, _, _]) dX7_most_163 (by decide) rfl ?_
        refine go_iload dX7_most_165 rfl ?_
        refine go_bipush (-9) dX7_most_167 (by decide +kernel) ?_
        refine go_icmp_eq 193 dX7_most_169 (by decide) (fun h169 => ?_) (fun h => absurd (rfl) h)
        exact kk _ _
      | some i0 =>
        rw [hbh] at cb
        rw [hbh] at step
        have hi0 := bh_lt hk (hg h) hbh
        obtain ⟨v1, v2⟩ := hv i0 hi0
        rcases Nat.lt_or_ge (w + pc6 S) (T i0) with z | z
        · refine step (upd y i0 (nI (w + pc6 S))) (fun i => if i = i0 then w + pc6 S else T i) (fun i hi => ?_) (fun i hi => ?_) (fun res M kk v z => ?_)
          · by_cases e : i = i0
            · rw [e, upd_s, if_pos rfl]
              exact ⟨rfl, by omega⟩
            · rw [upd_n _ _ e, if_neg e]
              exact hv i hi
          · by_cases e : i = i0
            · rw [if_pos e, e]
              exact ⟨by omega, Or.inr ⟨rfl, rfl⟩, fun _ => Nat.le_refl _⟩
            · rw [if_neg e]
              exact ⟨Nat.le_refl _, Or.inl rfl, fun q => absurd (Option.some.inj q).symm e⟩
          · skip
            refine go_iload dX7_most_109 rfl ?_
            refine go_bipush (nI 8) dX7_most_111 (by decide +kernel) ?_
            refine go_icmp_ge 199 dX7_most_113 (by decide) (fun h => absurd h (nI_ge (by omega) (by omega))) (fun h113 => ?_)
            refine go_aload_n dX7_most_116 rfl ?_
            refine go_getc dX7_most_117 fX7_65 rfl (by decide) (by decide) (by decide) rfl ?_
            refine go_iload_n dX7_most_120 rfl ?_
            refine go_iald dX7_most_121 rfl (by decide) rfl (by omega) (by decide) hx ?_
            refine go_sipush (nI 999) dX7_most_122 (by decide +kernel) ?_
            refine go_icmp_ge 199 dX7_most_125 (by decide) (fun h => absurd h (nI_ge (by omega) (by omega))) (fun h125 => ?_)
            refine go_aload_n dX7_most_128 rfl ?_
            refine go_iload dX7_most_129 rfl ?_
            refine go_iload_n dX7_most_131 rfl ?_
            refine go_iload_n dX7_most_132 rfl ?_
            refine go_callV1 (K' := kX7_behind) [_, _, _] dX7_most_133 mX7_183 lX7_behind rfl (by decide) rfl (by decide) rfl rfl (Nat.le_of_ble_eq_true rfl) (Nat.le_of_ble_eq_true rfl) (cb) ?_
            refine go_istore (L' := [_, _, _, _, _, _, _]) dX7_most_136 (by decide) rfl ?_
            refine go_iload dX7_most_138 rfl ?_
            refine go_bipush (-9) dX7_most_140 (by decide +kernel) ?_
            refine go_icmp_ne 151 dX7_most_142 (by decide) (fun h142 => ?_) (fun h => absurd h (nI_n9 (by omega)))
            refine go_aload_n dX7_most_151 rfl ?_
            refine go_getc dX7_most_152 fX7_65 rfl (by decide) (by decide) (by decide) rfl ?_
            refine go_iload_n dX7_most_155 rfl ?_
            refine go_iald dX7_most_156 rfl (by decide) rfl (by omega) (by decide) hx ?_
            refine go_iload dX7_most_157 rfl ?_
            refine go_callS1 (K' := kX7_many) [_] dX7_most_159 mX7_143 lX7_many rfl rfl (Nat.le_of_ble_eq_true rfl) (Nat.le_of_ble_eq_true rfl) (c_many (by omega)) ?_
            first | refine go_iadd_n dX7_most_162 ?_ | refine go_iadd dX7_most_162 rfl ?_
            refine go_istore (L' := [_, _, _, _, _, _, _]) dX7_most_163 (by decide) rfl ?_
            refine go_iload dX7_most_165 rfl ?_
            refine go_bipush (-9) dX7_most_167 (by decide +kernel) ?_
            refine go_icmp_eq 193 dX7_most_169 (by decide) (fun h => absurd h (nI_n9 (by omega))) (fun h169 => ?_)
            refine go_iload dX7_most_172 rfl ?_
            refine go_aload_n dX7_most_174 rfl ?_
            refine go_getc dX7_most_175 fX7_68 rfl (by decide) (by decide) (by decide) rfl ?_
            refine go_iload dX7_most_178 rfl ?_
            refine go_iald dX7_most_180 rfl (by decide) rfl (by omega) (by decide) v1 ?_
            refine go_icmp_ge 193 dX7_most_181 (by decide) (fun h => absurd h (nI_ge (by omega) (by omega))) (fun h181 => ?_)
            refine go_aload_n dX7_most_184 rfl ?_
            refine go_getc dX7_most_185 fX7_68 rfl (by decide) (by decide) (by decide) rfl ?_
            refine go_iload dX7_most_188 rfl ?_
            refine go_iload dX7_most_190 rfl ?_
            refine go_iast dX7_most_192 rfl (by decide) rfl (by omega) (by decide) ?_
            rw [mm_2]
            exact kk _ _
        · refine step y T hv (fun i hi => ⟨Nat.le_refl _, Or.inl rfl, fun q => by rw [← Option.some.inj q]; exact z⟩) (fun res M kk v z => ?_)
          refine go_iload dX7_most_109 rfl ?_
          refine go_bipush (nI 8) dX7_most_111 (by decide +kernel) ?_
          refine go_icmp_ge 199 dX7_most_113 (by decide) (fun h => absurd h (nI_ge (by omega) (by omega))) (fun h113 => ?_)
          refine go_aload_n dX7_most_116 rfl ?_
          refine go_getc dX7_most_117 fX7_65 rfl (by decide) (by decide) (by decide) rfl ?_
          refine go_iload_n dX7_most_120 rfl ?_
          refine go_iald dX7_most_121 rfl (by decide) rfl (by omega) (by decide) hx ?_
          refine go_sipush (nI 999) dX7_most_122 (by decide +kernel) ?_
          refine go_icmp_ge 199 dX7_most_125 (by decide) (fun h => absurd h (nI_ge (by omega) (by omega))) (fun h125 => ?_)
          refine go_aload_n dX7_most_128 rfl ?_
          refine go_iload dX7_most_129 rfl ?_
          refine go_iload_n dX7_most_131 rfl ?_
          refine go_iload_n dX7_most_132 rfl ?_
          refine go_callV1 (K' := kX7_behind) [_, _, _] dX7_most_133 mX7_183 lX7_behind rfl (by decide) rfl (by decide) rfl rfl (Nat.le_of_ble_eq_true rfl) (Nat.le_of_ble_eq_true rfl) (cb) ?_
          refine go_istore (L' := [_, _, _, _, _, _, _]) dX7_most_136 (by decide) rfl ?_
          refine go_iload dX7_most_138 rfl ?_
          refine go_bipush (-9) dX7_most_140 (by decide +kernel) ?_
          refine go_icmp_ne 151 dX7_most_142 (by decide) (fun h142 => ?_) (fun h => absurd h (nI_n9 (by omega)))
          refine go_aload_n dX7_most_151 rfl ?_
          refine go_getc dX7_most_152 fX7_65 rfl (by decide) (by decide) (by decide) rfl ?_
          refine go_iload_n dX7_most_155 rfl ?_
          refine go_iald dX7_most_156 rfl (by decide) rfl (by omega) (by decide) hx ?_
          refine go_iload dX7_most_157 rfl ?_
          refine go_callS1 (K' := kX7_many) [_] dX7_most_159 mX7_143 lX7_many rfl rfl (Nat.le_of_ble_eq_true rfl) (Nat.le_of_ble_eq_true rfl) (c_many (by omega)) ?_
          first | refine go_iadd_n dX7_most_162 ?_ | refine go_iadd dX7_most_162 rfl ?_
          refine go_istore (L' := [_, _, _, _, _, _, _]) dX7_most_163 (by decide) rfl ?_
          refine go_iload dX7_most_165 rfl ?_
          refine go_bipush (-9) dX7_most_167 (by decide +kernel) ?_
          refine go_icmp_eq 193 dX7_most_169 (by decide) (fun h => absurd h (nI_n9 (by omega))) (fun h169 => ?_)
          refine go_iload dX7_most_172 rfl ?_
          refine go_aload_n dX7_most_174 rfl ?_
          refine go_getc dX7_most_175 fX7_68 rfl (by decide) (by decide) (by decide) rfl ?_
          refine go_iload dX7_most_178 rfl ?_
          refine go_iald dX7_most_180 rfl (by decide) rfl (by omega) (by decide) v1 ?_
          refine go_icmp_ge 193 dX7_most_181 (by decide) (fun h181 => ?_) (fun h => absurd (nI_le (by omega) (by omega)) h)
          exact kk _ _
  -- the sets
  have mid : ∀ (h : Nat) (x : Nat → Int32) (W : Nat → Nat), h < 6 → (∀ i, i < 64 → x i = nI (W i) ∧ W i ≤ 999) → ∀ q k (y : Nat → Int32) (T : Nat → Nat), k + q = 64 → (∀ i, i < 64 → y i = nI (T i) ∧ T i ≤ 999) → ∃ (y' : Nat → Int32) (T' : Nat → Nat), (∀ i, i < 64 → y' i = nI (T' i) ∧ T' i ≤ 999) ∧ (∀ i, i < 64 → T' i ≤ T i ∧ (T' i = T i ∨ ∃ k' S', k ≤ k' ∧ k' < 64 ∧ S' < 8 ∧ W k' < 999 ∧ bh (G h) S' k' = some i ∧ T' i = W k' + pc6 S') ∧ ∀ k' S', k ≤ k' → k' < 64 → S' < 8 → W k' < 999 → bh (G h) S' k' = some i → T' i ≤ W k' + pc6 S') ∧ ∀ res M, (∀ u v z, Go O (d + 3) kX7_most res M 205 [.ref 46, .int (nI n), .int (nI h), .int (nI 64), u, v, z] [] (mm m0 65 66 x y')) → ∀ u v z, Go O (d + 3) kX7_most res M 100 [.ref 46, .int (nI n), .int (nI h), .int (nI k), u, v, z] [] (mm m0 65 66 x y) := by
    intro h x W hh6 hW q
    induction q with
    | zero =>
      intro k y T hk hv
      obtain rfl : k = 64 := by omega
      refine ⟨y, T, hv, fun i hi => ⟨Nat.le_refl _, Or.inl rfl, fun k' S' a1 a2 => absurd a1 (by omega)⟩, fun res M kk u v z => ?_⟩
      refine go_iload_n dX7_most_100 rfl ?_
      refine go_bipush (nI 64) dX7_most_101 (by decide +kernel) ?_
      refine go_icmp_ge 205 dX7_most_103 (by decide) (fun h103 => ?_) (fun h => absurd (nI_le (by omega) (by omega)) h)
      exact kk _ _ _
    | succ q ih =>
      intro k y T hk hv
      obtain ⟨w1, w2⟩ := hW k (by omega)
      rcases Nat.lt_or_ge (W k) 999 with hw | hw
      · obtain ⟨y1, T1, r1, r2, r3⟩ := inn h k (W k) x hh6 (by omega) hw w1 8 0 y T (by omega) hv
        obtain ⟨y', T', p1, p2, p3⟩ := ih (k + 1) y1 T1 (by omega) r1
        refine ⟨y', T', p1, fun i hi => ?_, fun res M kk u v z => ?_⟩
        · obtain ⟨a1, a2, a3⟩ := p2 i hi
          obtain ⟨b1, b2, b3⟩ := r2 i hi
          refine ⟨Nat.le_trans a1 b1, ?_, fun k' S' c1 c2 c3 c4 c5 => ?_⟩
          · rcases a2 with z | ⟨k', S', z1, z2⟩
            · rcases b2 with u | ⟨S', u1, u2, u3, u4⟩
              · exact Or.inl (by omega)
              · exact Or.inr ⟨k, S', Nat.le_refl _, by omega, u2, hw, u3, by omega⟩
            · exact Or.inr ⟨k', S', by omega, z2⟩
          · rcases Nat.lt_or_ge k k' with z | z
            · exact a3 k' S' z c2 c3 c4 c5
            · obtain rfl : k' = k := by omega
              exact Nat.le_trans a1 (b3 S' (by omega) c3 c5)
        · have p4 := p3 res M kk
          have r4 := r3 res M (fun u v z => by
            refine go_iinc_n (L' := [_, _, _, _, _, _, _]) dX7_most_199 rfl (by decide) rfl ?_
            refine go_goto 100 dX7_most_202 (by decide) ?_
            exact p4 _ _ _)
          refine go_iload_n dX7_most_100 rfl ?_
          refine go_bipush (nI 64) dX7_most_101 (by decide +kernel) ?_
          refine go_icmp_ge 205 dX7_most_103 (by decide) (fun h => absurd h (nI_ge (by omega) (by omega))) (fun h103 => ?_)
          refine go_iconst (nI 0) dX7_most_106 (by decide +kernel) ?_
          refine go_istore (L' := [_, _, _, _, _, _, _]) dX7_most_107 (by decide) rfl ?_
          exact r4 _ _
      · obtain ⟨y', T', p1, p2, p3⟩ := ih (k + 1) y T (by omega) hv
        refine ⟨y', T', p1, fun i hi => ?_, fun res M kk u v z => ?_⟩
        · obtain ⟨a1, a2, a3⟩ := p2 i hi
          refine ⟨a1, ?_, fun k' S' c1 c2 c3 c4 c5 => ?_⟩
          · rcases a2 with z | ⟨k', S', z1, z2⟩
            · exact Or.inl z
            · exact Or.inr ⟨k', S', by omega, z2⟩
          · rcases Nat.lt_or_ge k k' with z | z
            · exact a3 k' S' z c2 c3 c4 c5
            · obtain rfl : k' = k := by omega
              omega
        · have p4 := p3 res M kk
          refine go_iload_n dX7_most_100 rfl ?_
          refine go_bipush (nI 64) dX7_most_101 (by decide +kernel) ?_
          refine go_icmp_ge 205 dX7_most_103 (by decide) (fun h => absurd h (nI_ge (by omega) (by omega))) (fun h103 => ?_)
          refine go_iconst (nI 0) dX7_most_106 (by decide +kernel) ?_
          refine go_istore (L' := [_, _, _, _, _, _, _]) dX7_most_107 (by decide) rfl ?_
          refine go_iload dX7_most_109 rfl ?_
          refine go_bipush (nI 8) dX7_most_111 (by decide +kernel) ?_
          refine go_icmp_ge 199 dX7_most_113 (by decide) (fun h => absurd h (nI_ge (by omega) (by omega))) (fun h113 => ?_)
          refine go_aload_n dX7_most_116 rfl ?_
          refine go_getc dX7_most_117 fX7_65 rfl (by decide) (by decide) (by decide) rfl ?_
          refine go_iload_n dX7_most_120 rfl ?_
          refine go_iald dX7_most_121 rfl (by decide) rfl (by omega) (by decide) w1 ?_
          refine go_sipush (nI 999) dX7_most_122 (by decide +kernel) ?_
          refine go_icmp_ge 199 dX7_most_125 (by decide) (fun h125 => ?_) (fun h => absurd (nI_le (by omega) (by omega)) h)
          refine go_iinc_n (L' := [_, _, _, _, _, _, _]) dX7_most_199 rfl (by decide) rfl ?_
          refine go_goto 100 dX7_most_202 (by decide) ?_
          exact p4 _ _ _
  -- then cleared, ways copied
  have clr : ∀ (h : Nat) (x y : Nat → Int32) res M, (∀ u v z, Go O (d + 3) kX7_most res M 98 [.ref 46, .int (nI n), .int (nI h), .int (nI 64), u, v, z] [] (mm m0 65 66 x (flP y (nI 999) 64))) → ∀ q k, k + q = 64 → ∀ u v z, Go O (d + 3) kX7_most res M 77 [.ref 46, .int (nI n), .int (nI h), .int (nI k), u, v, z] [] (mm m0 65 66 x (flP y (nI 999) k)) := by
    intro h x y res M kk q
    induction q with
    | zero =>
      intro k hk u v z
      obtain rfl : k = 64 := by omega
      refine go_iload_n dX7_most_77 rfl ?_
      refine go_bipush (nI 64) dX7_most_78 (by decide +kernel) ?_
      refine go_icmp_ge 98 dX7_most_80 (by decide) (fun h80 => ?_) (fun h => absurd (nI_le (by omega) (by omega)) h)
      exact kk _ _ _
    | succ q ih =>
      intro k hk u v z
      refine go_iload_n dX7_most_77 rfl ?_
      refine go_bipush (nI 64) dX7_most_78 (by decide +kernel) ?_
      refine go_icmp_ge 98 dX7_most_80 (by decide) (fun h => absurd h (nI_ge (by omega) (by omega))) (fun h80 => ?_)
      refine go_aload_n dX7_most_83 rfl ?_
      refine go_getc dX7_most_84 fX7_68 rfl (by decide) (by decide) (by decide) rfl ?_
      refine go_iload_n dX7_most_87 rfl ?_
      refine go_sipush (nI 999) dX7_most_88 (by decide +kernel) ?_
      refine go_iast dX7_most_91 rfl (by decide) rfl (by omega) (by decide) ?_
      rw [mm_2]
      refine go_iinc_n (L' := [_, _, _, _, _, _, _]) dX7_most_92 rfl (by decide) rfl ?_
      refine go_goto 77 dX7_most_95 (by decide) ?_
      exact ih (k + 1) (by omega) _ _ _
  have cpy : ∀ (h : Nat) (x y : Nat → Int32) res M, (∀ u v z, Go O (d + 3) kX7_most res M 231 [.ref 46, .int (nI n), .int (nI h), .int (nI 64), u, v, z] [] (mm m0 65 66 (flV x y 64) y)) → ∀ q k, k + q = 64 → ∀ u v z, Go O (d + 3) kX7_most res M 207 [.ref 46, .int (nI n), .int (nI h), .int (nI k), u, v, z] [] (mm m0 65 66 (flV x y k) y) := by
    intro h x y res M kk q
    induction q with
    | zero =>
      intro k hk u v z
      obtain rfl : k = 64 := by omega
      refine go_iload_n dX7_most_207 rfl ?_
      refine go_bipush (nI 64) dX7_most_208 (by decide +kernel) ?_
      refine go_icmp_ge 231 dX7_most_210 (by decide) (fun h210 => ?_) (fun h => absurd (nI_le (by omega) (by omega)) h)
      exact kk _ _ _
    | succ q ih =>
      intro k hk u v z
      refine go_iload_n dX7_most_207 rfl ?_
      refine go_bipush (nI 64) dX7_most_208 (by decide +kernel) ?_
      refine go_icmp_ge 231 dX7_most_210 (by decide) (fun h => absurd h (nI_ge (by omega) (by omega))) (fun h210 => ?_)
      refine go_aload_n dX7_most_213 rfl ?_
      refine go_getc dX7_most_214 fX7_65 rfl (by decide) (by decide) (by decide) rfl ?_
      refine go_iload_n dX7_most_217 rfl ?_
      refine go_aload_n dX7_most_218 rfl ?_
      refine go_getc dX7_most_219 fX7_68 rfl (by decide) (by decide) (by decide) rfl ?_
      refine go_iload_n dX7_most_222 rfl ?_
      refine go_iald dX7_most_223 rfl (by decide) rfl (by omega) (by decide) rfl ?_
      refine go_iast dX7_most_224 rfl (by decide) rfl (by omega) (by decide) ?_
      rw [mm_1 (by decide)]
      refine go_iinc_n (L' := [_, _, _, _, _, _, _]) dX7_most_225 rfl (by decide) rfl ?_
      refine go_goto 207 dX7_most_228 (by decide) ?_
      exact ih (k + 1) (by omega) _ _ _
  -- the hours
  have hrs : ∀ q c (x y : Nat → Int32) (W : Nat → Nat), hr + c + q = 6 → (∀ i, i < 64 → x i = nI (W i) ∧ W i ≤ 999) → WOk G hr k0 c W → ∃ (x' y' : Nat → Int32) (W' : Nat → Nat), (∀ i, i < 64 → x' i = nI (W' i) ∧ W' i ≤ 999) ∧ WOk G hr k0 (c + q) W' ∧ ∀ res M, (∀ t u v z, Go O (d + 3) kX7_most res M 237 [.ref 46, .int (nI n), .int (nI 6), t, u, v, z] [] (mm m0 65 66 x' y')) → ∀ t u v z, Go O (d + 3) kX7_most res M 69 [.ref 46, .int (nI n), .int (nI (hr + c)), t, u, v, z] [] (mm m0 65 66 x y) := by
    intro q
    induction q with
    | zero =>
      intro c x y W hc hv hW
      refine ⟨x, y, W, hv, hW, fun res M kk t u v z => ?_⟩
      rw [show hr + c = 6 by omega]
      refine go_iload_n dX7_most_69 rfl ?_
      refine go_bipush (nI 6) dX7_most_70 (by decide +kernel) ?_
      refine go_icmp_ge 237 dX7_most_72 (by decide) (fun h72 => ?_) (fun h => absurd (nI_le (by omega) (by omega)) h)
      exact kk _ _ _ _
    | succ q ih =>
      intro c x y W hc hv hW
      obtain ⟨y1, T1, r1, r2, r3⟩ := mid (hr + c) x W (by omega) hv 64 0 (flP y (nI 999) 64) (fun _ => 999) (by omega) (fun i hi => by rw [flP_at, if_pos hi]; exact ⟨rfl, Nat.le_refl _⟩)
      have hv2 : ∀ i, i < 64 → flV x y1 64 i = nI (T1 i) ∧ T1 i ≤ 999 := fun i hi => by
        rw [flV_at, if_pos hi]
        exact r1 i hi
      have hW2 : WOk G hr k0 (c + 1) T1 := by
        intro i hi
        obtain ⟨a1, a2, a3⟩ := r2 i hi
        refine ⟨fun z => ?_, fun t ht => ?_⟩
        · rcases a2 with u | ⟨k', S', u1, u2, u3, u4, u5, u6⟩
          · omega
          · exact ⟨k', W k', S', u2, u3, (hW k' u2).1 u4, u5, Nat.and_zero _, u6⟩
        · obtain ⟨k', t', S', u1, u2, u3, u4, u5, u6⟩ := ht
          have w1 := (hW k' u1).2 t' u3
          have w2 := Re_le u3
          have w3 := a3 k' S' (by omega) u1 u2 (by omega) u4
          omega
      obtain ⟨x', y', W', p1, p2, p3⟩ := ih (c + 1) (flV x y1 64) y1 T1 (by omega) hv2 hW2
      rw [show c + 1 + q = c + (q + 1) by omega] at p2
      refine ⟨x', y', W', p1, p2, fun res M kk t u v z => ?_⟩
      have p4 := p3 res M kk
      have f1 := cpy (hr + c) x y1 res M (fun u v z => by
        refine go_iinc_n (L' := [_, _, _, _, _, _, _]) dX7_most_231 rfl (by decide) rfl ?_
        refine go_goto 69 dX7_most_234 (by decide) ?_
        exact p4 _ _ _ _) 64 0 (by omega)
      have f2 := r3 res M (fun u v z => by
        refine go_iconst (nI 0) dX7_most_205 (by decide +kernel) ?_
        refine go_istore_n (L' := [_, _, _, _, _, _, _]) dX7_most_206 (by decide) rfl ?_
        exact f1 _ _ _)
      have f3 := clr (hr + c) x y res M (fun u v z => by
        refine go_iconst (nI 0) dX7_most_98 (by decide +kernel) ?_
        refine go_istore_n (L' := [_, _, _, _, _, _, _]) dX7_most_99 (by decide) rfl ?_
        exact f2 _ _ _) 64 0 (by omega)
      refine go_iload_n dX7_most_69 rfl ?_
      refine go_bipush (nI 6) dX7_most_70 (by decide +kernel) ?_
      refine go_icmp_ge 237 dX7_most_72 (by decide) (fun h => absurd h (nI_ge (by omega) (by omega))) (fun h72 => ?_)
      refine go_iconst (nI 0) dX7_most_75 (by decide +kernel) ?_
      refine go_istore_n (L' := [_, _, _, _, _, _, _]) dX7_most_76 (by decide) rfl ?_
      exact f3 _ _ _
  -- the start
  let V0 : Nat → Int32 := fun k => nI (if k = k0 then 0 else 999)
  have ini : ∀ res M, (∀ t u v z, Go O (d + 3) kX7_most res M 64 [.ref 46, .int (nI n), .int (nI 64), t, u, v, z] [] (mm m0 65 66 (flV (m0.1 65) V0 64) (m0.1 66))) → ∀ q k, k + q = 64 → ∀ t u v z, Go O (d + 3) kX7_most res M 27 [.ref 46, .int (nI n), .int (nI k), t, u, v, z] [] (mm m0 65 66 (flV (m0.1 65) V0 k) (m0.1 66)) := by
    intro res M kk q
    induction q with
    | zero =>
      intro k hk t u v z
      obtain rfl : k = 64 := by omega
      refine go_iload_n dX7_most_27 rfl ?_
      refine go_bipush (nI 64) dX7_most_28 (by decide +kernel) ?_
      refine go_icmp_ge 64 dX7_most_30 (by decide) (fun h30 => ?_) (fun h => absurd (nI_le (by omega) (by omega)) h)
      exact kk _ _ _ _
    | succ q ih =>
      intro k hk t u v z
      have hi := ih (k + 1) (by omega) t u v z
      by_cases e : k = k0
      · rw [show flV (m0.1 65) V0 (k + 1) = upd (flV (m0.1 65) V0 k) k (nI 0) by rw [flV]; show upd _ k (nI (if k = k0 then 0 else 999)) = _; rw [if_pos e]] at hi
        refine go_iload_n dX7_most_27 rfl ?_
        refine go_bipush (nI 64) dX7_most_28 (by decide +kernel) ?_
        refine go_icmp_ge 64 dX7_most_30 (by decide) (fun h => absurd h (nI_ge (by omega) (by omega))) (fun h30 => ?_)
        refine go_aload_n dX7_most_33 rfl ?_
        refine go_getc dX7_most_34 fX7_65 rfl (by decide) (by decide) (by decide) rfl ?_
        refine go_iload_n dX7_most_37 rfl ?_
        refine go_iload_n dX7_most_38 rfl ?_
        refine go_aload_n dX7_most_39 rfl ?_
        refine go_getc dX7_most_40 fX7_25 rfl (by decide) (by decide) (by decide) rfl ?_
        refine go_iconst (nI 3) dX7_most_43 (by decide +kernel) ?_
        refine go_iload_n dX7_most_44 rfl ?_
        first | refine go_iadd_n dX7_most_45 ?_ | refine go_iadd dX7_most_45 rfl ?_
        refine go_iald dX7_most_46 rfl (by decide) rfl (by omega) (by decide) q52k ?_
        refine go_icmp_ne 54 dX7_most_47 (by decide) (fun h => absurd h (fun q => q (by rw [e]))) (fun h47 => ?_)
        refine go_iconst (nI 0) dX7_most_50 (by decide +kernel) ?_
        refine go_goto 57 dX7_most_51 (by decide) ?_
        refine go_iast dX7_most_57 rfl (by decide) rfl (by omega) (by decide) ?_
        rw [mm_1 (by decide)]
        refine go_iinc_n (L' := [_, _, _, _, _, _, _]) dX7_most_58 rfl (by decide) rfl ?_
        refine go_goto 27 dX7_most_61 (by decide) ?_
        exact hi
      · rw [show flV (m0.1 65) V0 (k + 1) = upd (flV (m0.1 65) V0 k) k (nI 999) by rw [flV]; show upd _ k (nI (if k = k0 then 0 else 999)) = _; rw [if_neg e]] at hi
        refine go_iload_n dX7_most_27 rfl ?_
        refine go_bipush (nI 64) dX7_most_28 (by decide +kernel) ?_
        refine go_icmp_ge 64 dX7_most_30 (by decide) (fun h => absurd h (nI_ge (by omega) (by omega))) (fun h30 => ?_)
        refine go_aload_n dX7_most_33 rfl ?_
        refine go_getc dX7_most_34 fX7_65 rfl (by decide) (by decide) (by decide) rfl ?_
        refine go_iload_n dX7_most_37 rfl ?_
        refine go_iload_n dX7_most_38 rfl ?_
        refine go_aload_n dX7_most_39 rfl ?_
        refine go_getc dX7_most_40 fX7_25 rfl (by decide) (by decide) (by decide) rfl ?_
        refine go_iconst (nI 3) dX7_most_43 (by decide +kernel) ?_
        refine go_iload_n dX7_most_44 rfl ?_
        first | refine go_iadd_n dX7_most_45 ?_ | refine go_iadd dX7_most_45 rfl ?_
        refine go_iald dX7_most_46 rfl (by decide) rfl (by omega) (by decide) q52k ?_
        refine go_icmp_ne 54 dX7_most_47 (by decide) (fun h47 => ?_) (fun h => absurd h (fun q => e ((nI_eq (by omega) (by omega)).mp q)))
        refine go_sipush (nI 999) dX7_most_54 (by decide +kernel) ?_
        refine go_iast dX7_most_57 rfl (by decide) rfl (by omega) (by decide) ?_
        rw [mm_1 (by decide)]
        refine go_iinc_n (L' := [_, _, _, _, _, _, _]) dX7_most_58 rfl (by decide) rfl ?_
        refine go_goto 27 dX7_most_61 (by decide) ?_
        exact hi
  obtain ⟨x', y', W', p1, p2, p3⟩ := hrs (6 - hr) 0 (flV (m0.1 65) V0 64) (m0.1 66) (fun k => if k = k0 then 0 else 999) (by omega) (fun i hi => by
    rw [flV_at, if_pos hi]
    exact ⟨rfl, by split <;> omega⟩) (fun k hk => by
    dsimp only
    by_cases e : k = k0
    · rw [if_pos e]
      exact ⟨fun _ => ⟨e, rfl, Nat.and_zero _⟩, fun t _ => Nat.zero_le _⟩
    · rw [if_neg e]
      exact ⟨fun q => absurd q (by omega), fun t ht => absurd ht.1 e⟩)
  rw [Nat.zero_add] at p2
  refine ⟨x', y', W', p2, ?_⟩
  -- the best
  have bst : ∀ q k, k + q = 64 → ∀ u v z, Go O (d + 3) kX7_most (some (.int (nI (mxA (fun k => W' k ≤ a - b) 64)))) (mm m0 65 66 x' y') 241 [.ref 46, .int (nI n), .int (nI (mxA (fun k => W' k ≤ a - b) k)), .int (nI k), u, v, z] [] (mm m0 65 66 x' y') := by
    intro q
    induction q with
    | zero =>
      intro k hk u v z
      obtain rfl : k = 64 := by omega
      refine go_iload_n dX7_most_241 rfl ?_
      refine go_bipush (nI 64) dX7_most_242 (by decide +kernel) ?_
      refine go_icmp_ge 284 dX7_most_244 (by decide) (fun h244 => ?_) (fun h => absurd (nI_le (by omega) (by omega)) h)
      refine go_iload_n dX7_most_284 rfl ?_
      exact go_iret dX7_most_285 rfl rfl rfl
    | succ q ih =>
      intro k hk u v z
      obtain ⟨w1, w2⟩ := p1 k (by omega)
      have hm := mxA_le (fun k => W' k ≤ a - b) k
      have hp := pc6_le k
      have hi := ih (k + 1) (by omega) u v z
      rw [show mxA (fun k => W' k ≤ a - b) (k + 1) = if W' k ≤ a - b then max (mxA (fun k => W' k ≤ a - b) k) (pc6 k) else mxA (fun k => W' k ≤ a - b) k from rfl] at hi
      refine go_iload_n dX7_most_241 rfl ?_
      refine go_bipush (nI 64) dX7_most_242 (by decide +kernel) ?_
      refine go_icmp_ge 284 dX7_most_244 (by decide) (fun h => absurd h (nI_ge (by omega) (by omega))) (fun h244 => ?_)
      refine go_aload_n dX7_most_247 rfl ?_
      refine go_getc dX7_most_248 fX7_65 rfl (by decide) (by decide) (by decide) rfl ?_
      refine go_iload_n dX7_most_251 rfl ?_
      refine go_iald dX7_most_252 rfl (by decide) rfl (by omega) (by decide) w1 ?_
      refine go_aload_n dX7_most_253 rfl ?_
      refine go_iload_n dX7_most_254 rfl ?_
      refine go_callV1 (K' := kX7_leftOf) [_] dX7_most_255 mX7_191 lX7_leftOf rfl (by decide) rfl (by decide) rfl rfl (Nat.le_of_ble_eq_true rfl) (Nat.le_of_ble_eq_true rfl) (c_leftOf (by omega) q49 q52 hab) ?_
      refine go_icmp_gt 276 dX7_most_258 (by decide) (fun h258 => ?_) (fun h258 => ?_)
      · have e := (nI_ltI (by omega) (by omega)).mp h258
        rw [if_neg (by omega)] at hi
        refine go_iload_n dX7_most_276 rfl ?_
        refine go_istore_n (L' := [_, _, _, _, _, _, _]) dX7_most_277 (by decide) rfl ?_
        refine go_iinc_n (L' := [_, _, _, _, _, _, _]) dX7_most_278 rfl (by decide) rfl ?_
        refine go_goto 241 dX7_most_281 (by decide) ?_
        exact hi
      · have e : ¬ a - b < W' k := fun q => h258 (nI_lt q (by omega))
        rw [if_pos (by omega)] at hi
        refine go_iload_n dX7_most_261 rfl ?_
        refine go_callS1 (K' := kX7_many) [_] dX7_most_262 mX7_143 lX7_many rfl rfl (Nat.le_of_ble_eq_true rfl) (Nat.le_of_ble_eq_true rfl) (c_many (by omega)) ?_
        refine go_iload_n dX7_most_265 rfl ?_
        refine go_icmp_le 276 dX7_most_266 (by decide) (fun h266 => ?_) (fun h266 => ?_)
        · have e2 := (nI_leI (by omega) (by omega)).mp h266
          rw [Nat.max_eq_left e2] at hi
          refine go_iload_n dX7_most_276 rfl ?_
          refine go_istore_n (L' := [_, _, _, _, _, _, _]) dX7_most_277 (by decide) rfl ?_
          refine go_iinc_n (L' := [_, _, _, _, _, _, _]) dX7_most_278 rfl (by decide) rfl ?_
          refine go_goto 241 dX7_most_281 (by decide) ?_
          exact hi
        · have e2 : ¬ pc6 k ≤ mxA (fun k => W' k ≤ a - b) k := fun q => h266 (nI_le q (by omega))
          rw [Nat.max_eq_right (by omega)] at hi
          refine go_iload_n dX7_most_269 rfl ?_
          refine go_callS1 (K' := kX7_many) [_] dX7_most_270 mX7_143 lX7_many rfl rfl (Nat.le_of_ble_eq_true rfl) (Nat.le_of_ble_eq_true rfl) (c_many (by omega)) ?_
          refine go_goto 277 dX7_most_273 (by decide) ?_
          refine go_istore_n (L' := [_, _, _, _, _, _, _]) dX7_most_277 (by decide) rfl ?_
          refine go_iinc_n (L' := [_, _, _, _, _, _, _]) dX7_most_278 rfl (by decide) rfl ?_
          refine go_goto 241 dX7_most_281 (by decide) ?_
          exact hi
  have f1 := p3 (some (.int (nI (mxA (fun k => W' k ≤ a - b) 64)))) (mm m0 65 66 x' y') (fun t u v z => by
    refine go_iconst (nI 0) dX7_most_237 (by decide +kernel) ?_
    refine go_istore_n (L' := [_, _, _, _, _, _, _]) dX7_most_238 (by decide) rfl ?_
    refine go_iconst (nI 0) dX7_most_239 (by decide +kernel) ?_
    refine go_istore_n (L' := [_, _, _, _, _, _, _]) dX7_most_240 (by decide) rfl ?_
    exact bst 64 0 (by omega) _ _ _)
  have f2 := ini (some (.int (nI (mxA (fun k => W' k ≤ a - b) 64)))) (mm m0 65 66 x' y') (fun t u v z => by
    refine go_aload_n dX7_most_64 rfl ?_
    refine go_geti dX7_most_65 fX7_137 rfl (by decide) (by decide) (by decide) rfl q11 ?_
    refine go_istore_n (L' := [_, _, _, _, _, _, _]) dX7_most_68 (by decide) rfl ?_
    exact f1 _ _ _ _) 64 0 (by omega)
  show Go O (d + 3) kX7_most _ _ 0 [.ref 46, .int (nI n), .null, .null, .null, .null, .null] [] m
  refine go_aload_n dX7_most_0 rfl ?_
  refine go_iconst (nI 0) dX7_most_1 (by decide +kernel) ?_
  refine go_puti dX7_most_2 fX7_77 rfl (by decide) (by decide) (by decide) rfl (fun _ _ _ h => by cases h; rfl) (Or.inl rfl) ?_
  rw [hm0]
  refine go_aload_n dX7_most_5 rfl ?_
  refine go_iload_n dX7_most_6 rfl ?_
  refine go_callV1 (K' := kX7_noNews) [_] dX7_most_7 mX7_155 lX7_noNews rfl (by decide) rfl (by decide) rfl rfl (Nat.le_of_ble_eq_true rfl) (Nat.le_of_ble_eq_true rfl) (c_noNews q5 (by omega)) ?_
  refine go_if_eq 15 dX7_most_10 (by decide) (fun h10 => ?_) (fun h => absurd (bI_0.mpr (by rw [iR_nI hnN (by omega)]; rfl)) h)
  refine go_aload_n dX7_most_15 rfl ?_
  refine go_geti dX7_most_16 fX7_130 rfl (by decide) (by decide) (by decide) rfl q6 ?_
  refine go_if_eq 25 dX7_most_19 (by decide) (fun h19 => ?_) (fun h => absurd (rfl) h)
  refine go_iconst (nI 0) dX7_most_25 (by decide +kernel) ?_
  refine go_istore_n (L' := [_, _, _, _, _, _, _]) dX7_most_26 (by decide) rfl ?_
  refine go_mem (mm_id m0 65 66).symm ?_
  exact f2 _ _ _ _
