/-! SPENT -/
def Qs (G : Nat → Nat → Nat) (bar h0 k0 left c : Nat) : Prop := ∃ k, k < 64 ∧ Re G bar h0 k0 c k left
/-- the first hour behind which all can be spent -/
def SpR (G : Nat → Nat → Nat) (bar h0 k0 left : Nat) (res : Int32) : Prop := (∃ c, h0 + c ≤ 6 ∧ Qs G bar h0 k0 left c ∧ (∀ c', c' < c → ¬ Qs G bar h0 k0 left c') ∧ res = nI c) ∨ ((∀ c, h0 + c ≤ 6 → ¬ Qs G bar h0 k0 left c) ∧ res = -9)
theorem SpR.ex (G : Nat → Nat → Nat) (bar h0 k0 left : Nat) : ∃ res, SpR G bar h0 k0 left res := by
  have key : ∀ n, (∃ c, c < n ∧ Qs G bar h0 k0 left c ∧ ∀ c', c' < c → ¬ Qs G bar h0 k0 left c') ∨ ∀ c, c < n → ¬ Qs G bar h0 k0 left c := by
    intro n
    induction n with
    | zero => exact Or.inr (fun c hc => absurd hc (by omega))
    | succ n ih =>
      rcases ih with ⟨c, h1, h2⟩ | h
      · exact Or.inl ⟨c, by omega, h2⟩
      · rcases Classical.em (Qs G bar h0 k0 left n) with z | z
        · exact Or.inl ⟨n, by omega, z, h⟩
        · refine Or.inr (fun c hc => ?_)
          by_cases e : c = n
          · rw [e]; exact z
          · exact h c (by omega)
  rcases key (7 - h0) with ⟨c, h1, h2, h3⟩ | h
  · exact ⟨nI c, Or.inl ⟨c, by omega, h2, h3, rfl⟩⟩
  · exact ⟨-9, Or.inr ⟨fun c hc => h c (by omega), rfl⟩⟩
theorem SpR.at {G : Nat → Nat → Nat} {bar h0 k0 left c : Nat} {res : Int32} (h : SpR G bar h0 k0 left res) (hc : h0 + c ≤ 6) (h1 : Qs G bar h0 k0 left c) (h2 : ∀ c', c' < c → ¬ Qs G bar h0 k0 left c') : res = nI c := by
  rcases h with ⟨c0, a1, a2, a3, a4⟩ | ⟨a1, a2⟩
  · have e : c0 = c := by
      rcases Nat.lt_trichotomy c0 c with z | z | z
      · exact absurd a2 (h2 c0 z)
      · exact z
      · exact absurd h1 (a3 c z)
    rw [a4, e]
  · exact absurd h1 (a1 c hc)
theorem SpR.no {G : Nat → Nat → Nat} {bar h0 k0 left : Nat} {res : Int32} (h : SpR G bar h0 k0 left res) (h2 : ∀ c, h0 + c ≤ 6 → ¬ Qs G bar h0 k0 left c) : res = -9 := by
  rcases h with ⟨c0, a1, a2, a3, a4⟩ | ⟨a1, a2⟩
  · exact absurd a2 (h2 c0 a1)
  · exact a2
theorem Qs_of {G : Nat → Nat → Nat} {bar h0 k0 left c : Nat} {F : Nat → Nat} (hF : ∀ k, k < 64 → ∀ e, (F k).testBit e = true ↔ ∃ t, t + e = left ∧ Re G bar h0 k0 c k t) : (∃ k, k < 64 ∧ (F k).testBit 0 = true) ↔ Qs G bar h0 k0 left c := by
  constructor
  · rintro ⟨k, h1, h2⟩
    obtain ⟨t, e, hr⟩ := (hF k h1 0).mp h2
    exact ⟨k, h1, by rw [show left = t by omega]; exact hr⟩
  · rintro ⟨k, h1, h2⟩
    exact ⟨k, h1, (hF k h1 0).mpr ⟨left, rfl, h2⟩⟩
theorem bar_bit : ∀ p, p < 6 → ∀ k, k < 64 → ((k &&& 2 ^ p = 0) ↔ k.testBit p = false) := by decide +kernel
theorem c_spentX_29 {O : gOm} {d : Nat} {m : gMem} {G : Nat → Nat → Nat} {hr k0 n p a b N P : Nat} {res : Int32} (hT : m.2 0 = 29) (t5 : m.1 29 5 = nI P) (hP6 : P ≤ 6) (hpP : p < P) (t6 : m.1 29 6 = nI N) (hN3 : N ≤ 3) (hnN : n < N) (t7 : m.1 29 7 = nI 0) (hg : ∀ h a, G h a < 64) (hr6 : hr < 6) (hk : k0 < 64) (hG : ∀ h a, h < 6 → a < 3 → m.1 31 (h * 3 + a) = nI (G h a)) (s4 : m.1 3 4 = nI hr) (sk : m.1 4 n = nI k0) (ha : m.1 32 n = nI a) (hb : nI 0 + m.1 7 (n * 3 + 0) + m.1 7 (n * 3 + 1) + m.1 7 (n * 3 + 2) = nI b) (hab : b ≤ a) (ha9 : a ≤ 9) (hres : SpR G (2 ^ p) hr k0 (a - b) res) : ∃ m1, Ca O (d + 5) kX6_spent [.ref 0, .int (nI n), .int (nI p)] (some (.int res)) m m1 ∧ (∀ k, k ≠ 43 → m1.1 k = m.1 k) ∧ m1.2 0 = m.2 0 ∧ m1.2 1 = m.2 1 := by
  have e2 : 2 ^ p ≤ 32 := Nat.pow_le_pow_right (n := 2) (by omega) (show p ≤ 5 by omega)
  cases hkn : k0.testBit p with
  | true =>
    have hno : ∀ c k t, ¬ Re G (2 ^ p) hr k0 c k t := by
      intro c
      induction c with
      | zero =>
        rintro k t ⟨-, -, h3⟩
        rw [(bar_bit p (by omega) k0 hk).mp h3] at hkn
        cases hkn
      | succ c ih =>
        rintro k t ⟨k1, t1, S, _, _, h3, _⟩
        exact ih k1 t1 h3
    have er := hres.no (fun c _ ⟨k, _, h⟩ => hno c k _ h)
    refine ⟨m, ?_, fun _ _ => rfl, rfl, rfl⟩
    rw [er]
    show Go O (d + 5) kX6_spent _ _ 0 [.ref 0, .int (nI n), .int (nI p), .null] [] m
    refine go_aload_n dX6_spent_0 rfl ?_
    refine go_iload_n dX6_spent_1 rfl ?_
    refine go_callV1 (K' := kX6_isPerson) [_] dX6_spent_2 mX6_105 lX6_isPerson rfl (by decide) rfl (by decide) rfl rfl (Nat.le_of_ble_eq_true rfl) (Nat.le_of_ble_eq_true rfl) (c_isPerson_29 hT t5 hP6) ?_
    refine go_if_eq 16 dX6_spent_5 (by decide) (fun h => absurd h (bI_n0.mpr (iR_nI hpP (by omega)))) (fun h5 => ?_)
    refine go_aload_n dX6_spent_8 rfl ?_
    refine go_iload_n dX6_spent_9 rfl ?_
    refine go_callV1 (K' := kX6_isNews) [_] dX6_spent_10 mX6_116 lX6_isNews rfl (by decide) rfl (by decide) rfl rfl (Nat.le_of_ble_eq_true rfl) (Nat.le_of_ble_eq_true rfl) (c_isNews_29 hT t6 (by omega)) ?_
    refine go_if_ne 18 dX6_spent_13 (by decide) (fun h13 => ?_) (fun h => absurd h (bI_n0.mpr (iR_nI hnN (by omega))))
    refine go_aload_n dX6_spent_18 rfl ?_
    refine go_getm dX6_spent_19 fX6_47 rfl (by decide) (by decide) (by decide) rfl hT ?_
    refine go_geti dX6_spent_22 fX6_91 rfl (by decide) (by decide) (by decide) rfl t7 ?_
    refine go_if_eq 31 dX6_spent_25 (by decide) (fun h25 => ?_) (fun h => absurd (rfl) h)
    refine go_aload_n dX6_spent_31 rfl ?_
    refine go_getc dX6_spent_32 fX6_19 rfl (by decide) (by decide) (by decide) rfl ?_
    refine go_iload_n dX6_spent_35 rfl ?_
    refine go_iload_n dX6_spent_36 rfl ?_
    refine go_callV1 (K' := kX5_knows) [_, _] dX6_spent_37 mX6_139 lX5_knows rfl (by decide) rfl (by decide) rfl rfl (Nat.le_of_ble_eq_true rfl) (Nat.le_of_ble_eq_true rfl) (c_knows_3 (by omega) (by omega) hk sk) ?_
    refine go_if_eq 46 dX6_spent_40 (by decide) (fun h => absurd h (bI_n0.mpr hkn)) (fun h40 => ?_)
    refine go_bipush (-9) dX6_spent_43 (by decide +kernel) ?_
    exact go_iret dX6_spent_45 rfl rfl rfl
  | false =>
    have hbar := (bar_bit p (by omega) k0 hk).mpr hkn
    have lp : ∀ q c (g : Nat → Int32) (F : Nat → Nat), hr + c + q = 6 → (∀ k, k < 64 → g k = nI (F k) ∧ F k < 1024) → (∀ k, k < 64 → ∀ e, (F k).testBit e = true ↔ ∃ t, t + e = a - b ∧ Re G (2 ^ p) hr k0 c k t) → (∀ c', c' ≤ c → ¬ Qs G (2 ^ p) hr k0 (a - b) c') → ∃ (g' : Nat → Int32), Go O (d + 5) kX6_spent (some (.int res)) (gupA (gupR m 2 29) 43 g') 91 [.ref 0, .int (nI n), .int (nI p), .int (nI (hr + c))] [] (gupA (gupR m 2 29) 43 g) := by
      intro q
      induction q with
      | zero =>
        intro c g F hc hv hF hno
        have er := hres.no (fun c' hc' => hno c' (by omega))
        refine ⟨g, ?_⟩
        rw [er]
        refine go_iload_n dX6_spent_91 rfl ?_
        refine go_bipush (nI 6) dX6_spent_92 (by decide +kernel) ?_
        refine go_icmp_ge 136 dX6_spent_94 (by decide) (fun h94 => ?_) (fun h => absurd (nI_le (by omega) (by omega)) h)
        refine go_bipush (-9) dX6_spent_136 (by decide +kernel) ?_
        exact go_iret dX6_spent_138 rfl rfl rfl
      | succ q ih =>
        intro c g F hc hv hF hno
        obtain ⟨g1, F1, v1, e1, c1⟩ := c_goThrough_29 (O := O) (d := d + 1) (m := gupA (gupR m 2 29) 43 g) (h := hr + c) (bar := 2 ^ p) (gr := G (hr + c)) (F := F) rfl (fun a ha => hG (hr + c) a (by omega) ha) (hg _) (by omega) (by omega) hv
        rw [gupA_gupA] at c1
        have hF1 := LfOk.go hF e1
        have cs : ∀ (e : Bool), (e = true ↔ Qs G (2 ^ p) hr k0 (a - b) (c + 1)) → Ca O (d + 4) kX2_canBeSpent [.ref 41] (some (.int (bI e))) (gupA (gupR m 2 29) 43 g1) (gupA (gupR m 2 29) 43 g1) := fun e he => c_canBeSpent (m := gupA (gupR m 2 29) 43 g1) v1 (he.trans (Qs_of hF1).symm)
        rcases Classical.em (Qs G (2 ^ p) hr k0 (a - b) (c + 1)) with hq | hq
        · have er := hres.at (c := c + 1) (by omega) hq (fun c' hc' => hno c' (by omega))
          have cs1 := cs true ⟨fun _ => hq, fun _ => rfl⟩
          refine ⟨g1, ?_⟩
          rw [er]
          refine go_iload_n dX6_spent_91 rfl ?_
          refine go_bipush (nI 6) dX6_spent_92 (by decide +kernel) ?_
          refine go_icmp_ge 136 dX6_spent_94 (by decide) (fun h => absurd h (nI_ge (by omega) (by omega))) (fun h94 => ?_)
          refine go_aload_n dX6_spent_97 rfl ?_
          refine go_getc dX6_spent_98 fX6_59 rfl (by decide) (by decide) (by decide) rfl ?_
          refine go_iload_n dX6_spent_101 rfl ?_
          refine go_iconst (nI 1) dX6_spent_102 (by decide +kernel) ?_
          refine go_iload_n dX6_spent_103 rfl ?_
          refine go_ishl dX6_spent_104 (nb_one (by omega)) ?_
          refine go_callV0 (K' := kX2_goThrough) [_, _] dX6_spent_105 mX6_208 lX2_goThrough rfl (by decide) rfl (by decide) rfl rfl (Nat.le_of_ble_eq_true rfl) (Nat.le_of_ble_eq_true rfl) (c1) ?_
          refine go_aload_n dX6_spent_108 rfl ?_
          refine go_getc dX6_spent_109 fX6_59 rfl (by decide) (by decide) (by decide) rfl ?_
          refine go_callV1 (K' := kX2_canBeSpent) [] dX6_spent_112 mX6_215 lX2_canBeSpent rfl (by decide) rfl (by decide) rfl rfl (Nat.le_of_ble_eq_true rfl) (Nat.le_of_ble_eq_true rfl) (cs1) ?_
          refine go_if_eq 130 dX6_spent_115 (by decide) (fun h => absurd h (by decide +kernel)) (fun h115 => ?_)
          refine go_iload_n dX6_spent_118 rfl ?_
          refine go_iconst (nI 1) dX6_spent_119 (by decide +kernel) ?_
          first | refine go_iadd_n dX6_spent_120 ?_ | refine go_iadd dX6_spent_120 rfl ?_
          refine go_aload_n dX6_spent_121 rfl ?_
          refine go_getc dX6_spent_122 fX6_19 rfl (by decide) (by decide) (by decide) rfl ?_
          refine go_geti dX6_spent_125 fX6_94 rfl (by decide) (by decide) (by decide) rfl s4 ?_
          refine go_isub dX6_spent_128 ((pk_sub (by omega)).trans (congrArg nI (show hr + c + 1 - hr = c + 1 by omega))) ?_
          exact go_iret dX6_spent_129 rfl rfl rfl
        · have cs1 := cs false ⟨fun z => (by cases z), fun z => absurd z hq⟩
          obtain ⟨g', p2⟩ := ih (c + 1) g1 F1 (by omega) v1 hF1 (fun c' hc' => by
            by_cases e : c' = c + 1
            · rw [e]; exact hq
            · exact hno c' (by omega))
          refine ⟨g', ?_⟩
          refine go_iload_n dX6_spent_91 rfl ?_
          refine go_bipush (nI 6) dX6_spent_92 (by decide +kernel) ?_
          refine go_icmp_ge 136 dX6_spent_94 (by decide) (fun h => absurd h (nI_ge (by omega) (by omega))) (fun h94 => ?_)
          refine go_aload_n dX6_spent_97 rfl ?_
          refine go_getc dX6_spent_98 fX6_59 rfl (by decide) (by decide) (by decide) rfl ?_
          refine go_iload_n dX6_spent_101 rfl ?_
          refine go_iconst (nI 1) dX6_spent_102 (by decide +kernel) ?_
          refine go_iload_n dX6_spent_103 rfl ?_
          refine go_ishl dX6_spent_104 (nb_one (by omega)) ?_
          refine go_callV0 (K' := kX2_goThrough) [_, _] dX6_spent_105 mX6_208 lX2_goThrough rfl (by decide) rfl (by decide) rfl rfl (Nat.le_of_ble_eq_true rfl) (Nat.le_of_ble_eq_true rfl) (c1) ?_
          refine go_aload_n dX6_spent_108 rfl ?_
          refine go_getc dX6_spent_109 fX6_59 rfl (by decide) (by decide) (by decide) rfl ?_
          refine go_callV1 (K' := kX2_canBeSpent) [] dX6_spent_112 mX6_215 lX2_canBeSpent rfl (by decide) rfl (by decide) rfl rfl (Nat.le_of_ble_eq_true rfl) (Nat.le_of_ble_eq_true rfl) (cs1) ?_
          refine go_if_eq 130 dX6_spent_115 (by decide) (fun h115 => ?_) (fun h => absurd (by decide +kernel) h)
          refine go_iinc_n (L' := [_, _, _, _]) dX6_spent_130 rfl (by decide) rfl ?_
          refine go_goto 91 dX6_spent_133 (by decide) ?_
          exact p2
    obtain ⟨F0, v0, e0⟩ := LfOk.st (G := G) (bar := 2 ^ p) (h0 := hr) (k0 := k0) (left := a - b) (f := m.1 43) hbar hk (by omega)
    have cs : ∀ (e : Bool), (e = true ↔ Qs G (2 ^ p) hr k0 (a - b) 0) → Ca O (d + 4) kX2_canBeSpent [.ref 41] (some (.int (bI e))) (lkM_29 m k0 (a - b)) (lkM_29 m k0 (a - b)) := fun e he => c_canBeSpent (m := lkM_29 m k0 (a - b)) v0 (he.trans (Qs_of e0).symm)
    have frm : ∀ g, (∀ k, k ≠ 43 → (gupA (gupR m 2 29) 43 g).1 k = m.1 k) ∧ (gupA (gupR m 2 29) 43 g).2 0 = m.2 0 ∧ (gupA (gupR m 2 29) 43 g).2 1 = m.2 1 := fun g => ⟨fun k hk => by rw [gupA_k _ _ hk]; rfl, rfl, rfl⟩
    rcases Classical.em (Qs G (2 ^ p) hr k0 (a - b) 0) with hq | hq
    · have er := hres.at (c := 0) (by omega) hq (fun c' hc' => absurd hc' (by omega))
      have cs1 := cs true ⟨fun _ => hq, fun _ => rfl⟩
      refine ⟨lkM_29 m k0 (a - b), ?_, frm _⟩
      rw [er]
      show Go O (d + 5) kX6_spent _ (lkM_29 m k0 (a - b)) 0 [.ref 0, .int (nI n), .int (nI p), .null] [] m
      refine go_aload_n dX6_spent_0 rfl ?_
      refine go_iload_n dX6_spent_1 rfl ?_
      refine go_callV1 (K' := kX6_isPerson) [_] dX6_spent_2 mX6_105 lX6_isPerson rfl (by decide) rfl (by decide) rfl rfl (Nat.le_of_ble_eq_true rfl) (Nat.le_of_ble_eq_true rfl) (c_isPerson_29 hT t5 hP6) ?_
      refine go_if_eq 16 dX6_spent_5 (by decide) (fun h => absurd h (bI_n0.mpr (iR_nI hpP (by omega)))) (fun h5 => ?_)
      refine go_aload_n dX6_spent_8 rfl ?_
      refine go_iload_n dX6_spent_9 rfl ?_
      refine go_callV1 (K' := kX6_isNews) [_] dX6_spent_10 mX6_116 lX6_isNews rfl (by decide) rfl (by decide) rfl rfl (Nat.le_of_ble_eq_true rfl) (Nat.le_of_ble_eq_true rfl) (c_isNews_29 hT t6 (by omega)) ?_
      refine go_if_ne 18 dX6_spent_13 (by decide) (fun h13 => ?_) (fun h => absurd h (bI_n0.mpr (iR_nI hnN (by omega))))
      refine go_aload_n dX6_spent_18 rfl ?_
      refine go_getm dX6_spent_19 fX6_47 rfl (by decide) (by decide) (by decide) rfl hT ?_
      refine go_geti dX6_spent_22 fX6_91 rfl (by decide) (by decide) (by decide) rfl t7 ?_
      refine go_if_eq 31 dX6_spent_25 (by decide) (fun h25 => ?_) (fun h => absurd (rfl) h)
      refine go_aload_n dX6_spent_31 rfl ?_
      refine go_getc dX6_spent_32 fX6_19 rfl (by decide) (by decide) (by decide) rfl ?_
      refine go_iload_n dX6_spent_35 rfl ?_
      refine go_iload_n dX6_spent_36 rfl ?_
      refine go_callV1 (K' := kX5_knows) [_, _] dX6_spent_37 mX6_139 lX5_knows rfl (by decide) rfl (by decide) rfl rfl (Nat.le_of_ble_eq_true rfl) (Nat.le_of_ble_eq_true rfl) (c_knows_3 (by omega) (by omega) hk sk) ?_
      refine go_if_eq 46 dX6_spent_40 (by decide) (fun h40 => ?_) (fun h => absurd (bI_0.mpr hkn) h)
      refine go_aload_n dX6_spent_46 rfl ?_
      refine go_getc dX6_spent_47 fX6_59 rfl (by decide) (by decide) (by decide) rfl ?_
      refine go_aload_n dX6_spent_50 rfl ?_
      refine go_getm dX6_spent_51 fX6_47 rfl (by decide) (by decide) (by decide) rfl hT ?_
      refine go_aload_n dX6_spent_54 rfl ?_
      refine go_getc dX6_spent_55 fX6_19 rfl (by decide) (by decide) (by decide) rfl ?_
      refine go_getc dX6_spent_58 fX6_130 rfl (by decide) (by decide) (by decide) rfl ?_
      refine go_iload_n dX6_spent_61 rfl ?_
      refine go_iald dX6_spent_62 rfl (by decide) rfl (by omega) (by decide) sk ?_
      refine go_aload_n dX6_spent_63 rfl ?_
      refine go_iload_n dX6_spent_64 rfl ?_
      refine go_callV1 (K' := kX6_leftOf) [_] dX6_spent_65 mX6_201 lX6_leftOf rfl (by decide) rfl (by decide) rfl rfl (Nat.le_of_ble_eq_true rfl) (Nat.le_of_ble_eq_true rfl) (c_leftOfX_29 hT (by omega) ha hb hab) ?_
      refine go_callV0 (K' := kX2_lookFrom) [_, _, _] dX6_spent_68 mX6_204 lX2_lookFrom rfl (by decide) rfl (by decide) rfl rfl (Nat.le_of_ble_eq_true rfl) (Nat.le_of_ble_eq_true rfl) (c_lookFrom_29 hk (by omega)) ?_
      refine go_aload_n dX6_spent_71 rfl ?_
      refine go_getc dX6_spent_72 fX6_59 rfl (by decide) (by decide) (by decide) rfl ?_
      refine go_callV1 (K' := kX2_canBeSpent) [] dX6_spent_75 mX6_215 lX2_canBeSpent rfl (by decide) rfl (by decide) rfl rfl (Nat.le_of_ble_eq_true rfl) (Nat.le_of_ble_eq_true rfl) (cs1) ?_
      refine go_if_eq 83 dX6_spent_78 (by decide) (fun h => absurd h (by decide +kernel)) (fun h78 => ?_)
      refine go_iconst (nI 0) dX6_spent_81 (by decide +kernel) ?_
      exact go_iret dX6_spent_82 rfl rfl rfl
    · have cs1 := cs false ⟨fun z => (by cases z), fun z => absurd z hq⟩
      obtain ⟨g', p2⟩ := lp (6 - hr) 0 _ F0 (by omega) v0 e0 (fun c' hc' => by
        rw [show c' = 0 by omega]
        exact hq)
      refine ⟨gupA (gupR m 2 29) 43 g', ?_, frm _⟩
      show Go O (d + 5) kX6_spent _ _ 0 [.ref 0, .int (nI n), .int (nI p), .null] [] m
      refine go_aload_n dX6_spent_0 rfl ?_
      refine go_iload_n dX6_spent_1 rfl ?_
      refine go_callV1 (K' := kX6_isPerson) [_] dX6_spent_2 mX6_105 lX6_isPerson rfl (by decide) rfl (by decide) rfl rfl (Nat.le_of_ble_eq_true rfl) (Nat.le_of_ble_eq_true rfl) (c_isPerson_29 hT t5 hP6) ?_
      refine go_if_eq 16 dX6_spent_5 (by decide) (fun h => absurd h (bI_n0.mpr (iR_nI hpP (by omega)))) (fun h5 => ?_)
      refine go_aload_n dX6_spent_8 rfl ?_
      refine go_iload_n dX6_spent_9 rfl ?_
      refine go_callV1 (K' := kX6_isNews) [_] dX6_spent_10 mX6_116 lX6_isNews rfl (by decide) rfl (by decide) rfl rfl (Nat.le_of_ble_eq_true rfl) (Nat.le_of_ble_eq_true rfl) (c_isNews_29 hT t6 (by omega)) ?_
      refine go_if_ne 18 dX6_spent_13 (by decide) (fun h13 => ?_) (fun h => absurd h (bI_n0.mpr (iR_nI hnN (by omega))))
      refine go_aload_n dX6_spent_18 rfl ?_
      refine go_getm dX6_spent_19 fX6_47 rfl (by decide) (by decide) (by decide) rfl hT ?_
      refine go_geti dX6_spent_22 fX6_91 rfl (by decide) (by decide) (by decide) rfl t7 ?_
      refine go_if_eq 31 dX6_spent_25 (by decide) (fun h25 => ?_) (fun h => absurd (rfl) h)
      refine go_aload_n dX6_spent_31 rfl ?_
      refine go_getc dX6_spent_32 fX6_19 rfl (by decide) (by decide) (by decide) rfl ?_
      refine go_iload_n dX6_spent_35 rfl ?_
      refine go_iload_n dX6_spent_36 rfl ?_
      refine go_callV1 (K' := kX5_knows) [_, _] dX6_spent_37 mX6_139 lX5_knows rfl (by decide) rfl (by decide) rfl rfl (Nat.le_of_ble_eq_true rfl) (Nat.le_of_ble_eq_true rfl) (c_knows_3 (by omega) (by omega) hk sk) ?_
      refine go_if_eq 46 dX6_spent_40 (by decide) (fun h40 => ?_) (fun h => absurd (bI_0.mpr hkn) h)
      refine go_aload_n dX6_spent_46 rfl ?_
      refine go_getc dX6_spent_47 fX6_59 rfl (by decide) (by decide) (by decide) rfl ?_
      refine go_aload_n dX6_spent_50 rfl ?_
      refine go_getm dX6_spent_51 fX6_47 rfl (by decide) (by decide) (by decide) rfl hT ?_
      refine go_aload_n dX6_spent_54 rfl ?_
      refine go_getc dX6_spent_55 fX6_19 rfl (by decide) (by decide) (by decide) rfl ?_
      refine go_getc dX6_spent_58 fX6_130 rfl (by decide) (by decide) (by decide) rfl ?_
      refine go_iload_n dX6_spent_61 rfl ?_
      refine go_iald dX6_spent_62 rfl (by decide) rfl (by omega) (by decide) sk ?_
      refine go_aload_n dX6_spent_63 rfl ?_
      refine go_iload_n dX6_spent_64 rfl ?_
      refine go_callV1 (K' := kX6_leftOf) [_] dX6_spent_65 mX6_201 lX6_leftOf rfl (by decide) rfl (by decide) rfl rfl (Nat.le_of_ble_eq_true rfl) (Nat.le_of_ble_eq_true rfl) (c_leftOfX_29 hT (by omega) ha hb hab) ?_
      refine go_callV0 (K' := kX2_lookFrom) [_, _, _] dX6_spent_68 mX6_204 lX2_lookFrom rfl (by decide) rfl (by decide) rfl rfl (Nat.le_of_ble_eq_true rfl) (Nat.le_of_ble_eq_true rfl) (c_lookFrom_29 hk (by omega)) ?_
      refine go_aload_n dX6_spent_71 rfl ?_
      refine go_getc dX6_spent_72 fX6_59 rfl (by decide) (by decide) (by decide) rfl ?_
      refine go_callV1 (K' := kX2_canBeSpent) [] dX6_spent_75 mX6_215 lX2_canBeSpent rfl (by decide) rfl (by decide) rfl rfl (Nat.le_of_ble_eq_true rfl) (Nat.le_of_ble_eq_true rfl) (cs1) ?_
      refine go_if_eq 83 dX6_spent_78 (by decide) (fun h78 => ?_) (fun h => absurd (by decide +kernel) h)
      refine go_aload_n dX6_spent_83 rfl ?_
      refine go_getc dX6_spent_84 fX6_19 rfl (by decide) (by decide) (by decide) rfl ?_
      refine go_geti dX6_spent_87 fX6_94 rfl (by decide) (by decide) (by decide) rfl s4 ?_
      refine go_istore_n (L' := [_, _, _, _]) dX6_spent_90 (by decide) rfl ?_
      exact p2
theorem c_spentX_35 {O : gOm} {d : Nat} {m : gMem} {G : Nat → Nat → Nat} {hr k0 n p a b N P : Nat} {res : Int32} (hT : m.2 0 = 35) (t5 : m.1 35 5 = nI P) (hP6 : P ≤ 6) (hpP : p < P) (t6 : m.1 35 6 = nI N) (hN3 : N ≤ 3) (hnN : n < N) (t7 : m.1 35 7 = nI 0) (hg : ∀ h a, G h a < 64) (hr6 : hr < 6) (hk : k0 < 64) (hG : ∀ h a, h < 6 → a < 3 → m.1 37 (h * 3 + a) = nI (G h a)) (s4 : m.1 3 4 = nI hr) (sk : m.1 4 n = nI k0) (ha : m.1 38 n = nI a) (hb : nI 0 + m.1 7 (n * 3 + 0) + m.1 7 (n * 3 + 1) + m.1 7 (n * 3 + 2) = nI b) (hab : b ≤ a) (ha9 : a ≤ 9) (hres : SpR G (2 ^ p) hr k0 (a - b) res) : ∃ m1, Ca O (d + 5) kX6_spent [.ref 0, .int (nI n), .int (nI p)] (some (.int res)) m m1 ∧ (∀ k, k ≠ 43 → m1.1 k = m.1 k) ∧ m1.2 0 = m.2 0 ∧ m1.2 1 = m.2 1 := by
  have e2 : 2 ^ p ≤ 32 := Nat.pow_le_pow_right (n := 2) (by omega) (show p ≤ 5 by omega)
  cases hkn : k0.testBit p with
  | true =>
    have hno : ∀ c k t, ¬ Re G (2 ^ p) hr k0 c k t := by
      intro c
      induction c with
      | zero =>
        rintro k t ⟨-, -, h3⟩
        rw [(bar_bit p (by omega) k0 hk).mp h3] at hkn
        cases hkn
      | succ c ih =>
        rintro k t ⟨k1, t1, S, _, _, h3, _⟩
        exact ih k1 t1 h3
    have er := hres.no (fun c _ ⟨k, _, h⟩ => hno c k _ h)
    refine ⟨m, ?_, fun _ _ => rfl, rfl, rfl⟩
    rw [er]
    show Go O (d + 5) kX6_spent _ _ 0 [.ref 0, .int (nI n), .int (nI p), .null] [] m
    refine go_aload_n dX6_spent_0 rfl ?_
    refine go_iload_n dX6_spent_1 rfl ?_
    refine go_callV1 (K' := kX6_isPerson) [_] dX6_spent_2 mX6_105 lX6_isPerson rfl (by decide) rfl (by decide) rfl rfl (Nat.le_of_ble_eq_true rfl) (Nat.le_of_ble_eq_true rfl) (c_isPerson_35 hT t5 hP6) ?_
    refine go_if_eq 16 dX6_spent_5 (by decide) (fun h => absurd h (bI_n0.mpr (iR_nI hpP (by omega)))) (fun h5 => ?_)
    refine go_aload_n dX6_spent_8 rfl ?_
    refine go_iload_n dX6_spent_9 rfl ?_
    refine go_callV1 (K' := kX6_isNews) [_] dX6_spent_10 mX6_116 lX6_isNews rfl (by decide) rfl (by decide) rfl rfl (Nat.le_of_ble_eq_true rfl) (Nat.le_of_ble_eq_true rfl) (c_isNews_35 hT t6 (by omega)) ?_
    refine go_if_ne 18 dX6_spent_13 (by decide) (fun h13 => ?_) (fun h => absurd h (bI_n0.mpr (iR_nI hnN (by omega))))
    refine go_aload_n dX6_spent_18 rfl ?_
    refine go_getm dX6_spent_19 fX6_47 rfl (by decide) (by decide) (by decide) rfl hT ?_
    refine go_geti dX6_spent_22 fX6_91 rfl (by decide) (by decide) (by decide) rfl t7 ?_
    refine go_if_eq 31 dX6_spent_25 (by decide) (fun h25 => ?_) (fun h => absurd (rfl) h)
    refine go_aload_n dX6_spent_31 rfl ?_
    refine go_getc dX6_spent_32 fX6_19 rfl (by decide) (by decide) (by decide) rfl ?_
    refine go_iload_n dX6_spent_35 rfl ?_
    refine go_iload_n dX6_spent_36 rfl ?_
    refine go_callV1 (K' := kX5_knows) [_, _] dX6_spent_37 mX6_139 lX5_knows rfl (by decide) rfl (by decide) rfl rfl (Nat.le_of_ble_eq_true rfl) (Nat.le_of_ble_eq_true rfl) (c_knows_3 (by omega) (by omega) hk sk) ?_
    refine go_if_eq 46 dX6_spent_40 (by decide) (fun h => absurd h (bI_n0.mpr hkn)) (fun h40 => ?_)
    refine go_bipush (-9) dX6_spent_43 (by decide +kernel) ?_
    exact go_iret dX6_spent_45 rfl rfl rfl
  | false =>
    have hbar := (bar_bit p (by omega) k0 hk).mpr hkn
    have lp : ∀ q c (g : Nat → Int32) (F : Nat → Nat), hr + c + q = 6 → (∀ k, k < 64 → g k = nI (F k) ∧ F k < 1024) → (∀ k, k < 64 → ∀ e, (F k).testBit e = true ↔ ∃ t, t + e = a - b ∧ Re G (2 ^ p) hr k0 c k t) → (∀ c', c' ≤ c → ¬ Qs G (2 ^ p) hr k0 (a - b) c') → ∃ (g' : Nat → Int32), Go O (d + 5) kX6_spent (some (.int res)) (gupA (gupR m 2 35) 43 g') 91 [.ref 0, .int (nI n), .int (nI p), .int (nI (hr + c))] [] (gupA (gupR m 2 35) 43 g) := by
      intro q
      induction q with
      | zero =>
        intro c g F hc hv hF hno
        have er := hres.no (fun c' hc' => hno c' (by omega))
        refine ⟨g, ?_⟩
        rw [er]
        refine go_iload_n dX6_spent_91 rfl ?_
        refine go_bipush (nI 6) dX6_spent_92 (by decide +kernel) ?_
        refine go_icmp_ge 136 dX6_spent_94 (by decide) (fun h94 => ?_) (fun h => absurd (nI_le (by omega) (by omega)) h)
        refine go_bipush (-9) dX6_spent_136 (by decide +kernel) ?_
        exact go_iret dX6_spent_138 rfl rfl rfl
      | succ q ih =>
        intro c g F hc hv hF hno
        obtain ⟨g1, F1, v1, e1, c1⟩ := c_goThrough_35 (O := O) (d := d + 1) (m := gupA (gupR m 2 35) 43 g) (h := hr + c) (bar := 2 ^ p) (gr := G (hr + c)) (F := F) rfl (fun a ha => hG (hr + c) a (by omega) ha) (hg _) (by omega) (by omega) hv
        rw [gupA_gupA] at c1
        have hF1 := LfOk.go hF e1
        have cs : ∀ (e : Bool), (e = true ↔ Qs G (2 ^ p) hr k0 (a - b) (c + 1)) → Ca O (d + 4) kX2_canBeSpent [.ref 41] (some (.int (bI e))) (gupA (gupR m 2 35) 43 g1) (gupA (gupR m 2 35) 43 g1) := fun e he => c_canBeSpent (m := gupA (gupR m 2 35) 43 g1) v1 (he.trans (Qs_of hF1).symm)
        rcases Classical.em (Qs G (2 ^ p) hr k0 (a - b) (c + 1)) with hq | hq
        · have er := hres.at (c := c + 1) (by omega) hq (fun c' hc' => hno c' (by omega))
          have cs1 := cs true ⟨fun _ => hq, fun _ => rfl⟩
          refine ⟨g1, ?_⟩
          rw [er]
          refine go_iload_n dX6_spent_91 rfl ?_
          refine go_bipush (nI 6) dX6_spent_92 (by decide +kernel) ?_
          refine go_icmp_ge 136 dX6_spent_94 (by decide) (fun h => absurd h (nI_ge (by omega) (by omega))) (fun h94 => ?_)
          refine go_aload_n dX6_spent_97 rfl ?_
          refine go_getc dX6_spent_98 fX6_59 rfl (by decide) (by decide) (by decide) rfl ?_
          refine go_iload_n dX6_spent_101 rfl ?_
          refine go_iconst (nI 1) dX6_spent_102 (by decide +kernel) ?_
          refine go_iload_n dX6_spent_103 rfl ?_
          refine go_ishl dX6_spent_104 (nb_one (by omega)) ?_
          refine go_callV0 (K' := kX2_goThrough) [_, _] dX6_spent_105 mX6_208 lX2_goThrough rfl (by decide) rfl (by decide) rfl rfl (Nat.le_of_ble_eq_true rfl) (Nat.le_of_ble_eq_true rfl) (c1) ?_
          refine go_aload_n dX6_spent_108 rfl ?_
          refine go_getc dX6_spent_109 fX6_59 rfl (by decide) (by decide) (by decide) rfl ?_
          refine go_callV1 (K' := kX2_canBeSpent) [] dX6_spent_112 mX6_215 lX2_canBeSpent rfl (by decide) rfl (by decide) rfl rfl (Nat.le_of_ble_eq_true rfl) (Nat.le_of_ble_eq_true rfl) (cs1) ?_
          refine go_if_eq 130 dX6_spent_115 (by decide) (fun h => absurd h (by decide +kernel)) (fun h115 => ?_)
          refine go_iload_n dX6_spent_118 rfl ?_
          refine go_iconst (nI 1) dX6_spent_119 (by decide +kernel) ?_
          first | refine go_iadd_n dX6_spent_120 ?_ | refine go_iadd dX6_spent_120 rfl ?_
          refine go_aload_n dX6_spent_121 rfl ?_
          refine go_getc dX6_spent_122 fX6_19 rfl (by decide) (by decide) (by decide) rfl ?_
          refine go_geti dX6_spent_125 fX6_94 rfl (by decide) (by decide) (by decide) rfl s4 ?_
          refine go_isub dX6_spent_128 ((pk_sub (by omega)).trans (congrArg nI (show hr + c + 1 - hr = c + 1 by omega))) ?_
          exact go_iret dX6_spent_129 rfl rfl rfl
        · have cs1 := cs false ⟨fun z => (by cases z), fun z => absurd z hq⟩
          obtain ⟨g', p2⟩ := ih (c + 1) g1 F1 (by omega) v1 hF1 (fun c' hc' => by
            by_cases e : c' = c + 1
            · rw [e]; exact hq
            · exact hno c' (by omega))
          refine ⟨g', ?_⟩
          refine go_iload_n dX6_spent_91 rfl ?_
          refine go_bipush (nI 6) dX6_spent_92 (by decide +kernel) ?_
          refine go_icmp_ge 136 dX6_spent_94 (by decide) (fun h => absurd h (nI_ge (by omega) (by omega))) (fun h94 => ?_)
          refine go_aload_n dX6_spent_97 rfl ?_
          refine go_getc dX6_spent_98 fX6_59 rfl (by decide) (by decide) (by decide) rfl ?_
          refine go_iload_n dX6_spent_101 rfl ?_
          refine go_iconst (nI 1) dX6_spent_102 (by decide +kernel) ?_
          refine go_iload_n dX6_spent_103 rfl ?_
          refine go_ishl dX6_spent_104 (nb_one (by omega)) ?_
          refine go_callV0 (K' := kX2_goThrough) [_, _] dX6_spent_105 mX6_208 lX2_goThrough rfl (by decide) rfl (by decide) rfl rfl (Nat.le_of_ble_eq_true rfl) (Nat.le_of_ble_eq_true rfl) (c1) ?_
          refine go_aload_n dX6_spent_108 rfl ?_
          refine go_getc dX6_spent_109 fX6_59 rfl (by decide) (by decide) (by decide) rfl ?_
          refine go_callV1 (K' := kX2_canBeSpent) [] dX6_spent_112 mX6_215 lX2_canBeSpent rfl (by decide) rfl (by decide) rfl rfl (Nat.le_of_ble_eq_true rfl) (Nat.le_of_ble_eq_true rfl) (cs1) ?_
          refine go_if_eq 130 dX6_spent_115 (by decide) (fun h115 => ?_) (fun h => absurd (by decide +kernel) h)
          refine go_iinc_n (L' := [_, _, _, _]) dX6_spent_130 rfl (by decide) rfl ?_
          refine go_goto 91 dX6_spent_133 (by decide) ?_
          exact p2
    obtain ⟨F0, v0, e0⟩ := LfOk.st (G := G) (bar := 2 ^ p) (h0 := hr) (k0 := k0) (left := a - b) (f := m.1 43) hbar hk (by omega)
    have cs : ∀ (e : Bool), (e = true ↔ Qs G (2 ^ p) hr k0 (a - b) 0) → Ca O (d + 4) kX2_canBeSpent [.ref 41] (some (.int (bI e))) (lkM_35 m k0 (a - b)) (lkM_35 m k0 (a - b)) := fun e he => c_canBeSpent (m := lkM_35 m k0 (a - b)) v0 (he.trans (Qs_of e0).symm)
    have frm : ∀ g, (∀ k, k ≠ 43 → (gupA (gupR m 2 35) 43 g).1 k = m.1 k) ∧ (gupA (gupR m 2 35) 43 g).2 0 = m.2 0 ∧ (gupA (gupR m 2 35) 43 g).2 1 = m.2 1 := fun g => ⟨fun k hk => by rw [gupA_k _ _ hk]; rfl, rfl, rfl⟩
    rcases Classical.em (Qs G (2 ^ p) hr k0 (a - b) 0) with hq | hq
    · have er := hres.at (c := 0) (by omega) hq (fun c' hc' => absurd hc' (by omega))
      have cs1 := cs true ⟨fun _ => hq, fun _ => rfl⟩
      refine ⟨lkM_35 m k0 (a - b), ?_, frm _⟩
      rw [er]
      show Go O (d + 5) kX6_spent _ (lkM_35 m k0 (a - b)) 0 [.ref 0, .int (nI n), .int (nI p), .null] [] m
      refine go_aload_n dX6_spent_0 rfl ?_
      refine go_iload_n dX6_spent_1 rfl ?_
      refine go_callV1 (K' := kX6_isPerson) [_] dX6_spent_2 mX6_105 lX6_isPerson rfl (by decide) rfl (by decide) rfl rfl (Nat.le_of_ble_eq_true rfl) (Nat.le_of_ble_eq_true rfl) (c_isPerson_35 hT t5 hP6) ?_
      refine go_if_eq 16 dX6_spent_5 (by decide) (fun h => absurd h (bI_n0.mpr (iR_nI hpP (by omega)))) (fun h5 => ?_)
      refine go_aload_n dX6_spent_8 rfl ?_
      refine go_iload_n dX6_spent_9 rfl ?_
      refine go_callV1 (K' := kX6_isNews) [_] dX6_spent_10 mX6_116 lX6_isNews rfl (by decide) rfl (by decide) rfl rfl (Nat.le_of_ble_eq_true rfl) (Nat.le_of_ble_eq_true rfl) (c_isNews_35 hT t6 (by omega)) ?_
      refine go_if_ne 18 dX6_spent_13 (by decide) (fun h13 => ?_) (fun h => absurd h (bI_n0.mpr (iR_nI hnN (by omega))))
      refine go_aload_n dX6_spent_18 rfl ?_
      refine go_getm dX6_spent_19 fX6_47 rfl (by decide) (by decide) (by decide) rfl hT ?_
      refine go_geti dX6_spent_22 fX6_91 rfl (by decide) (by decide) (by decide) rfl t7 ?_
      refine go_if_eq 31 dX6_spent_25 (by decide) (fun h25 => ?_) (fun h => absurd (rfl) h)
      refine go_aload_n dX6_spent_31 rfl ?_
      refine go_getc dX6_spent_32 fX6_19 rfl (by decide) (by decide) (by decide) rfl ?_
      refine go_iload_n dX6_spent_35 rfl ?_
      refine go_iload_n dX6_spent_36 rfl ?_
      refine go_callV1 (K' := kX5_knows) [_, _] dX6_spent_37 mX6_139 lX5_knows rfl (by decide) rfl (by decide) rfl rfl (Nat.le_of_ble_eq_true rfl) (Nat.le_of_ble_eq_true rfl) (c_knows_3 (by omega) (by omega) hk sk) ?_
      refine go_if_eq 46 dX6_spent_40 (by decide) (fun h40 => ?_) (fun h => absurd (bI_0.mpr hkn) h)
      refine go_aload_n dX6_spent_46 rfl ?_
      refine go_getc dX6_spent_47 fX6_59 rfl (by decide) (by decide) (by decide) rfl ?_
      refine go_aload_n dX6_spent_50 rfl ?_
      refine go_getm dX6_spent_51 fX6_47 rfl (by decide) (by decide) (by decide) rfl hT ?_
      refine go_aload_n dX6_spent_54 rfl ?_
      refine go_getc dX6_spent_55 fX6_19 rfl (by decide) (by decide) (by decide) rfl ?_
      refine go_getc dX6_spent_58 fX6_130 rfl (by decide) (by decide) (by decide) rfl ?_
      refine go_iload_n dX6_spent_61 rfl ?_
      refine go_iald dX6_spent_62 rfl (by decide) rfl (by omega) (by decide) sk ?_
      refine go_aload_n dX6_spent_63 rfl ?_
      refine go_iload_n dX6_spent_64 rfl ?_
      refine go_callV1 (K' := kX6_leftOf) [_] dX6_spent_65 mX6_201 lX6_leftOf rfl (by decide) rfl (by decide) rfl rfl (Nat.le_of_ble_eq_true rfl) (Nat.le_of_ble_eq_true rfl) (c_leftOfX_35 hT (by omega) ha hb hab) ?_
      refine go_callV0 (K' := kX2_lookFrom) [_, _, _] dX6_spent_68 mX6_204 lX2_lookFrom rfl (by decide) rfl (by decide) rfl rfl (Nat.le_of_ble_eq_true rfl) (Nat.le_of_ble_eq_true rfl) (c_lookFrom_35 hk (by omega)) ?_
      refine go_aload_n dX6_spent_71 rfl ?_
      refine go_getc dX6_spent_72 fX6_59 rfl (by decide) (by decide) (by decide) rfl ?_
      refine go_callV1 (K' := kX2_canBeSpent) [] dX6_spent_75 mX6_215 lX2_canBeSpent rfl (by decide) rfl (by decide) rfl rfl (Nat.le_of_ble_eq_true rfl) (Nat.le_of_ble_eq_true rfl) (cs1) ?_
      refine go_if_eq 83 dX6_spent_78 (by decide) (fun h => absurd h (by decide +kernel)) (fun h78 => ?_)
      refine go_iconst (nI 0) dX6_spent_81 (by decide +kernel) ?_
      exact go_iret dX6_spent_82 rfl rfl rfl
    · have cs1 := cs false ⟨fun z => (by cases z), fun z => absurd z hq⟩
      obtain ⟨g', p2⟩ := lp (6 - hr) 0 _ F0 (by omega) v0 e0 (fun c' hc' => by
        rw [show c' = 0 by omega]
        exact hq)
      refine ⟨gupA (gupR m 2 35) 43 g', ?_, frm _⟩
      show Go O (d + 5) kX6_spent _ _ 0 [.ref 0, .int (nI n), .int (nI p), .null] [] m
      refine go_aload_n dX6_spent_0 rfl ?_
      refine go_iload_n dX6_spent_1 rfl ?_
      refine go_callV1 (K' := kX6_isPerson) [_] dX6_spent_2 mX6_105 lX6_isPerson rfl (by decide) rfl (by decide) rfl rfl (Nat.le_of_ble_eq_true rfl) (Nat.le_of_ble_eq_true rfl) (c_isPerson_35 hT t5 hP6) ?_
      refine go_if_eq 16 dX6_spent_5 (by decide) (fun h => absurd h (bI_n0.mpr (iR_nI hpP (by omega)))) (fun h5 => ?_)
      refine go_aload_n dX6_spent_8 rfl ?_
      refine go_iload_n dX6_spent_9 rfl ?_
      refine go_callV1 (K' := kX6_isNews) [_] dX6_spent_10 mX6_116 lX6_isNews rfl (by decide) rfl (by decide) rfl rfl (Nat.le_of_ble_eq_true rfl) (Nat.le_of_ble_eq_true rfl) (c_isNews_35 hT t6 (by omega)) ?_
      refine go_if_ne 18 dX6_spent_13 (by decide) (fun h13 => ?_) (fun h => absurd h (bI_n0.mpr (iR_nI hnN (by omega))))
      refine go_aload_n dX6_spent_18 rfl ?_
      refine go_getm dX6_spent_19 fX6_47 rfl (by decide) (by decide) (by decide) rfl hT ?_
      refine go_geti dX6_spent_22 fX6_91 rfl (by decide) (by decide) (by decide) rfl t7 ?_
      refine go_if_eq 31 dX6_spent_25 (by decide) (fun h25 => ?_) (fun h => absurd (rfl) h)
      refine go_aload_n dX6_spent_31 rfl ?_
      refine go_getc dX6_spent_32 fX6_19 rfl (by decide) (by decide) (by decide) rfl ?_
      refine go_iload_n dX6_spent_35 rfl ?_
      refine go_iload_n dX6_spent_36 rfl ?_
      refine go_callV1 (K' := kX5_knows) [_, _] dX6_spent_37 mX6_139 lX5_knows rfl (by decide) rfl (by decide) rfl rfl (Nat.le_of_ble_eq_true rfl) (Nat.le_of_ble_eq_true rfl) (c_knows_3 (by omega) (by omega) hk sk) ?_
      refine go_if_eq 46 dX6_spent_40 (by decide) (fun h40 => ?_) (fun h => absurd (bI_0.mpr hkn) h)
      refine go_aload_n dX6_spent_46 rfl ?_
      refine go_getc dX6_spent_47 fX6_59 rfl (by decide) (by decide) (by decide) rfl ?_
      refine go_aload_n dX6_spent_50 rfl ?_
      refine go_getm dX6_spent_51 fX6_47 rfl (by decide) (by decide) (by decide) rfl hT ?_
      refine go_aload_n dX6_spent_54 rfl ?_
      refine go_getc dX6_spent_55 fX6_19 rfl (by decide) (by decide) (by decide) rfl ?_
      refine go_getc dX6_spent_58 fX6_130 rfl (by decide) (by decide) (by decide) rfl ?_
      refine go_iload_n dX6_spent_61 rfl ?_
      refine go_iald dX6_spent_62 rfl (by decide) rfl (by omega) (by decide) sk ?_
      refine go_aload_n dX6_spent_63 rfl ?_
      refine go_iload_n dX6_spent_64 rfl ?_
      refine go_callV1 (K' := kX6_leftOf) [_] dX6_spent_65 mX6_201 lX6_leftOf rfl (by decide) rfl (by decide) rfl rfl (Nat.le_of_ble_eq_true rfl) (Nat.le_of_ble_eq_true rfl) (c_leftOfX_35 hT (by omega) ha hb hab) ?_
      refine go_callV0 (K' := kX2_lookFrom) [_, _, _] dX6_spent_68 mX6_204 lX2_lookFrom rfl (by decide) rfl (by decide) rfl rfl (Nat.le_of_ble_eq_true rfl) (Nat.le_of_ble_eq_true rfl) (c_lookFrom_35 hk (by omega)) ?_
      refine go_aload_n dX6_spent_71 rfl ?_
      refine go_getc dX6_spent_72 fX6_59 rfl (by decide) (by decide) (by decide) rfl ?_
      refine go_callV1 (K' := kX2_canBeSpent) [] dX6_spent_75 mX6_215 lX2_canBeSpent rfl (by decide) rfl (by decide) rfl rfl (Nat.le_of_ble_eq_true rfl) (Nat.le_of_ble_eq_true rfl) (cs1) ?_
      refine go_if_eq 83 dX6_spent_78 (by decide) (fun h78 => ?_) (fun h => absurd (by decide +kernel) h)
      refine go_aload_n dX6_spent_83 rfl ?_
      refine go_getc dX6_spent_84 fX6_19 rfl (by decide) (by decide) (by decide) rfl ?_
      refine go_geti dX6_spent_87 fX6_94 rfl (by decide) (by decide) (by decide) rfl s4 ?_
      refine go_istore_n (L' := [_, _, _, _]) dX6_spent_90 (by decide) rfl ?_
      exact p2
def SpW (G : Nat → Nat → Nat) (p h0 k0 left c : Nat) (W : Nat → Nat) : Prop := ∀ k t, k < 64 → t < 10 → ((0 < W (10 * k + t) ∧ k.testBit p = false) ↔ (Re G (2 ^ p) h0 k0 c k t ∧ t ≤ left))
abbrev spU (p : Nat) (W : Nat → Nat) (j : Nat) : Prop := 0 < W j ∧ (j / 10).testBit p = false
def spV (p : Nat) (W : Nat → Nat) (j : Nat) : Nat := if spU p W j then 1 else 0
theorem SpW.go {G : Nat → Nat → Nat} {p h0 k0 left c : Nat} {W : Nat → Nat} (hp : p < 6) (hg : ∀ h a, G h a < 64) (hl : left ≤ 9) (h : SpW G p h0 k0 left c W) : SpW G p h0 k0 left (c + 1) (gW (G (h0 + c)) left (spV p W)) := by
  intro k' t' hk' ht'
  unfold gW
  rw [sm_pos]
  constructor
  · rintro ⟨⟨j, hj, hs⟩, hb⟩
    obtain ⟨S, hS, hv⟩ := sm_pos.mp hs
    have hc : cbI (G (h0 + c)) left S j = some (10 * k' + t') := by
      by_cases e : cbI (G (h0 + c)) left S j = some (10 * k' + t')
      · exact e
      · rw [if_neg e] at hv
        exact absurd hv (by omega)
    rw [if_pos hc] at hv
    have hu : spU p W j := by
      by_cases e : spU p W j
      · exact e
      · rw [spV, if_neg e] at hv
        exact absurd hv (by omega)
    obtain ⟨r1, r2⟩ := (h (j / 10) (j % 10) (by omega) (by omega)).mp ⟨by rw [show 10 * (j / 10) + j % 10 = j by omega]; exact hu.1, hu.2⟩
    unfold cbI at hc
    cases hbh : bh (G (h0 + c)) S (j / 10) with
    | none => rw [hbh] at hc; cases hc
    | some k =>
      rw [hbh] at hc
      dsimp only at hc
      have hk := bh_lt (by omega) (hg _) hbh
      split at hc
      · rename_i hle
        have e := Option.some.inj hc
        have e1 : k = k' := by omega
        have e2 : j % 10 + pc6 S = t' := by omega
        rw [e1] at hbh
        exact ⟨⟨j / 10, j % 10, S, by omega, hS, r1, hbh, (bar_bit p hp k' hk').mpr hb, e2.symm⟩, by omega⟩
      · cases hc
  · rintro ⟨⟨k, t, S, h1, h2, h3, h4, h5, h6⟩, hle⟩
    obtain ⟨r1, r2⟩ := (h k t h1 (by omega)).mpr ⟨h3, by omega⟩
    refine ⟨⟨10 * k + t, by omega, sm_pos.mpr ⟨S, h2, ?_⟩⟩, (bar_bit p hp k' hk').mp h5⟩
    have e1 : (10 * k + t) / 10 = k := by omega
    have e2 : (10 * k + t) % 10 = t := by omega
    have hc : cbI (G (h0 + c)) left S (10 * k + t) = some (10 * k' + t') := by
      unfold cbI
      rw [e1, h4]
      dsimp only
      rw [e2, if_pos (by omega), h6]
    rw [if_pos hc, spV, if_pos ⟨r1, by rw [e1]; exact r2⟩]
    omega
theorem spV_le (p : Nat) (W : Nat → Nat) (j : Nat) : spV p W j ≤ 1 := by
  unfold spV
  split <;> omega
theorem SpW.q {G : Nat → Nat → Nat} {p h0 k0 left c : Nat} {W : Nat → Nat} (hl : left ≤ 9) (h : SpW G p h0 k0 left c W) : Qs G (2 ^ p) h0 k0 left c ↔ ∃ j, j < 640 ∧ spU p W j ∧ j % 10 = left := by
  constructor
  · rintro ⟨k, hk, hr⟩
    obtain ⟨r1, r2⟩ := (h k left hk (by omega)).mpr ⟨hr, Nat.le_refl _⟩
    exact ⟨10 * k + left, by omega, ⟨r1, by rw [show (10 * k + left) / 10 = k by omega]; exact r2⟩, by omega⟩
  · rintro ⟨j, hj, hu, hm⟩
    obtain ⟨r1, -⟩ := (h (j / 10) (j % 10) (by omega) (by omega)).mp ⟨by rw [show 10 * (j / 10) + j % 10 = j by omega]; exact hu.1, hu.2⟩
    exact ⟨j / 10, by omega, by rw [← hm]; exact r1⟩
theorem c_spentM {O : gOm} {d : Nat} {m : gMem} {P hr k0 n p a b N : Nat} {res : Int32} (hP : m.1 46 4 = nI P) (hP6 : P ≤ 6) (hpP : p < P) (hN : m.1 46 5 = nI N) (hN3 : N ≤ 3) (hnN : n < N) (hl : m.1 46 6 = nI 0) (hh : m.1 46 11 = nI hr) (hr6 : hr < 6) (hk0 : k0 < 64) (sk : m.1 52 (3 + n) = nI k0) (ha : m.1 49 n = nI a) (hb : m.1 52 n = nI b) (hab : b ≤ a) (ha9 : a ≤ 9) (hres : SpR (grp (m.1 48) P) (2 ^ p) hr k0 (a - b) res) : ∃ (g65 g66 : Nat → Int32), Ca O (d + 4) kX7_spent [.ref 46, .int (nI n), .int (nI p)] (some (.int res)) m (mm (gup m 46 0 (nI 0)) 65 66 g65 g66) := by
  generalize hm0 : gup m 46 0 (nI 0) = m0
  have q4 : m0.1 46 4 = nI P := by rw [← hm0]; exact hP
  have q5 : m0.1 46 5 = nI N := by rw [← hm0]; exact hN
  have q6 : m0.1 46 6 = nI 0 := by rw [← hm0]; exact hl
  have q11 : m0.1 46 11 = nI hr := by rw [← hm0]; exact hh
  have q48 : m0.1 48 = m.1 48 := by rw [← hm0]; rfl
  have q49 : m0.1 49 n = nI a := by rw [← hm0]; exact ha
  have q52 : m0.1 52 n = nI b := by rw [← hm0]; exact hb
  have q52k : m0.1 52 (3 + n) = nI k0 := by rw [← hm0]; exact sk
  generalize hG : grp (m.1 48) P = G at hres
  have hg : ∀ h a, G h a < 64 := fun h a => by rw [← hG]; exact grp_64 _ h a hP6
  obtain ⟨lf, hlf⟩ : ∃ lf, a - b = lf := ⟨_, rfl⟩
  rw [hlf] at hres
  have hlf9 : lf ≤ 9 := by omega
  -- one cell
  have one : ∀ (c i : Nat) (x y : Nat → Int32) (W : Nat → Nat) (res : Option Value) (M : gMem), i < 640 → x i = nI (W i) → W i < 2 ^ 31 → hr + c ≤ 6 → (spU p W i → i % 10 = lf → Go O (d + 4) kX7_spent res M 161 [.ref 46, .int (nI n), .int (nI p), .int (nI lf), .int (nI (hr + c)), .int (nI i)] [] (mm m0 65 66 (upd x i (nI (spV p W i))) y)) → (¬ (spU p W i ∧ i % 10 = lf) → Go O (d + 4) kX7_spent res M 169 [.ref 46, .int (nI n), .int (nI p), .int (nI lf), .int (nI (hr + c)), .int (nI i)] [] (mm m0 65 66 (upd x i (nI (spV p W i))) y)) → Go O (d + 4) kX7_spent res M 108 [.ref 46, .int (nI n), .int (nI p), .int (nI lf), .int (nI (hr + c)), .int (nI i)] [] (mm m0 65 66 x y) := by
    intro c i x y W res M hi hx hw hc kt kf
    have hsv := spV_le p W i
    have fin : ∀ v, v = spV p W i → Go O (d + 4) kX7_spent res M 142 [.ref 46, .int (nI n), .int (nI p), .int (nI lf), .int (nI (hr + c)), .int (nI i)] [] (mm m0 65 66 (upd x i (nI v)) y) := by
      intro v hv
      subst hv
      by_cases hu : spU p W i
      · have e1 : spV p W i = 1 := by rw [spV, if_pos hu]
        by_cases hm : i % 10 = lf
        · have kt' := kt hu hm
          refine go_aload_n dX7_spent_142 rfl ?_
          refine go_getc dX7_spent_143 fX7_65 rfl (by decide) (by decide) (by decide) rfl ?_
          refine go_iload dX7_spent_146 rfl ?_
          refine go_iald dX7_spent_148 rfl (by decide) rfl (by omega) (by decide) (upd_s _ _ _) ?_
          refine go_if_le 169 dX7_spent_149 (by decide) (fun h => absurd h (by rw [e1]; decide +kernel)) (fun h149 => ?_)
          refine go_iload dX7_spent_152 rfl ?_
          refine go_bipush (nI 10) dX7_spent_154 (by decide +kernel) ?_
          refine go_irem dX7_spent_156 (by decide +kernel) (pk_rem (by omega) (by omega) (by omega)) ?_
          refine go_iload_n dX7_spent_157 rfl ?_
          refine go_icmp_ne 169 dX7_spent_158 (by decide) (fun h => absurd h (fun q => q (by rw [hm]))) (fun h158 => ?_)
          exact kt'
        · have kf' := kf (fun q => hm q.2)
          refine go_aload_n dX7_spent_142 rfl ?_
          refine go_getc dX7_spent_143 fX7_65 rfl (by decide) (by decide) (by decide) rfl ?_
          refine go_iload dX7_spent_146 rfl ?_
          refine go_iald dX7_spent_148 rfl (by decide) rfl (by omega) (by decide) (upd_s _ _ _) ?_
          refine go_if_le 169 dX7_spent_149 (by decide) (fun h => absurd h (by rw [e1]; decide +kernel)) (fun h149 => ?_)
          refine go_iload dX7_spent_152 rfl ?_
          refine go_bipush (nI 10) dX7_spent_154 (by decide +kernel) ?_
          refine go_irem dX7_spent_156 (by decide +kernel) (pk_rem (by omega) (by omega) (by omega)) ?_
          refine go_iload_n dX7_spent_157 rfl ?_
          refine go_icmp_ne 169 dX7_spent_158 (by decide) (fun h158 => ?_) (fun h => absurd h (fun q => hm ((nI_eq (by omega) (by omega)).mp q)))
          exact kf'
      · have e1 : spV p W i = 0 := by rw [spV, if_neg hu]
        have kf' := kf (fun q => hu q.1)
        refine go_aload_n dX7_spent_142 rfl ?_
        refine go_getc dX7_spent_143 fX7_65 rfl (by decide) (by decide) (by decide) rfl ?_
        refine go_iload dX7_spent_146 rfl ?_
        refine go_iald dX7_spent_148 rfl (by decide) rfl (by omega) (by decide) (upd_s _ _ _) ?_
        refine go_if_le 169 dX7_spent_149 (by decide) (fun h149 => ?_) (fun h => absurd (by rw [e1]; decide +kernel) h)
        exact kf'
    by_cases hw0 : 0 < W i
    · cases hbt : (i / 10).testBit p with
      | true =>
        have hu : ¬ spU p W i := fun q => by
          have := q.2
          rw [hbt] at this
          cases this
        have f1 := fin 0 (by rw [spV, if_neg hu])
        refine go_aload_n dX7_spent_108 rfl ?_
        refine go_getc dX7_spent_109 fX7_65 rfl (by decide) (by decide) (by decide) rfl ?_
        refine go_iload dX7_spent_112 rfl ?_
        refine go_aload_n dX7_spent_114 rfl ?_
        refine go_getc dX7_spent_115 fX7_65 rfl (by decide) (by decide) (by decide) rfl ?_
        refine go_iload dX7_spent_118 rfl ?_
        refine go_iald dX7_spent_120 rfl (by decide) rfl (by omega) (by decide) hx ?_
        refine go_if_le 140 dX7_spent_121 (by decide) (fun h => absurd h (nI_nle (by omega) (by omega))) (fun h121 => ?_)
        refine go_iload dX7_spent_124 rfl ?_
        refine go_bipush (nI 10) dX7_spent_126 (by decide +kernel) ?_
        refine go_idiv dX7_spent_128 (by decide +kernel) (pk_div (by omega) (by omega) (by omega)) ?_
        refine go_iload_n dX7_spent_129 rfl ?_
        refine go_callS1 (K' := kX7_has) [_, _] dX7_spent_130 mX7_109 lX7_has rfl rfl (Nat.le_of_ble_eq_true rfl) (Nat.le_of_ble_eq_true rfl) (c_has (by omega) (by omega)) ?_
        refine go_if_ne 140 dX7_spent_133 (by decide) (fun h133 => ?_) (fun h => absurd h (bI_n0.mpr hbt))
        refine go_iconst (nI 0) dX7_spent_140 (by decide +kernel) ?_
        refine go_iast dX7_spent_141 rfl (by decide) rfl (by omega) (by decide) ?_
        rw [mm_1 (by decide)]
        exact f1
      | false =>
        have hu : spU p W i := ⟨hw0, hbt⟩
        have f1 := fin 1 (by rw [spV, if_pos hu])
        refine go_aload_n dX7_spent_108 rfl ?_
        refine go_getc dX7_spent_109 fX7_65 rfl (by decide) (by decide) (by decide) rfl ?_
        refine go_iload dX7_spent_112 rfl ?_
        refine go_aload_n dX7_spent_114 rfl ?_
        refine go_getc dX7_spent_115 fX7_65 rfl (by decide) (by decide) (by decide) rfl ?_
        refine go_iload dX7_spent_118 rfl ?_
        refine go_iald dX7_spent_120 rfl (by decide) rfl (by omega) (by decide) hx ?_
        refine go_if_le 140 dX7_spent_121 (by decide) (fun h => absurd h (nI_nle (by omega) (by omega))) (fun h121 => ?_)
        refine go_iload dX7_spent_124 rfl ?_
        refine go_bipush (nI 10) dX7_spent_126 (by decide +kernel) ?_
        refine go_idiv dX7_spent_128 (by decide +kernel) (pk_div (by omega) (by omega) (by omega)) ?_
        refine go_iload_n dX7_spent_129 rfl ?_
        refine go_callS1 (K' := kX7_has) [_, _] dX7_spent_130 mX7_109 lX7_has rfl rfl (Nat.le_of_ble_eq_true rfl) (Nat.le_of_ble_eq_true rfl) (c_has (by omega) (by omega)) ?_
        refine go_if_ne 140 dX7_spent_133 (by decide) (fun h => absurd h (fun q => q (bI_0.mpr hbt))) (fun h133 => ?_)
        refine go_iconst (nI 1) dX7_spent_136 (by decide +kernel) ?_
        refine go_goto 141 dX7_spent_137 (by decide) ?_
        refine go_iast dX7_spent_141 rfl (by decide) rfl (by omega) (by decide) ?_
        rw [mm_1 (by decide)]
        exact f1
    · have hu : ¬ spU p W i := fun q => hw0 q.1
      have f1 := fin 0 (by rw [spV, if_neg hu])
      refine go_aload_n dX7_spent_108 rfl ?_
      refine go_getc dX7_spent_109 fX7_65 rfl (by decide) (by decide) (by decide) rfl ?_
      refine go_iload dX7_spent_112 rfl ?_
      refine go_aload_n dX7_spent_114 rfl ?_
      refine go_getc dX7_spent_115 fX7_65 rfl (by decide) (by decide) (by decide) rfl ?_
      refine go_iload dX7_spent_118 rfl ?_
      refine go_iald dX7_spent_120 rfl (by decide) rfl (by omega) (by decide) hx ?_
      refine go_if_le 140 dX7_spent_121 (by decide) (fun h121 => ?_) (fun h => absurd (by rw [show W i = 0 by omega]; decide +kernel) h)
      refine go_iconst (nI 0) dX7_spent_140 (by decide +kernel) ?_
      refine go_iast dX7_spent_141 rfl (by decide) rfl (by omega) (by decide) ?_
      rw [mm_1 (by decide)]
      exact f1
  -- the hours
  have hrs : ∀ q c (x y : Nat → Int32) (W : Nat → Nat), hr + c + q = 6 → (∀ i, i < 640 → x i = nI (W i) ∧ W i < 2 ^ 31) → SpW G p hr k0 lf c W → (∀ c', c' < c → ¬ Qs G (2 ^ p) hr k0 lf c') → ∃ (x' y' : Nat → Int32), ∀ u, Go O (d + 4) kX7_spent (some (.int res)) (mm m0 65 66 x' y') 90 [.ref 46, .int (nI n), .int (nI p), .int (nI lf), .int (nI (hr + c)), u] [] (mm m0 65 66 x y) := by
    intro q c x y W hcq hv hW hno
    induction q generalizing c x y W with
    | zero =>
      rcases Classical.em (Qs G (2 ^ p) hr k0 lf c) with hq | hq
      · have er := hres.at (by omega) hq hno
        obtain ⟨j, hj, hu, hm⟩ := (hW.q hlf9).mp hq
        obtain ⟨j0, f1, f2, f3⟩ : ∃ j0, j0 < 640 ∧ (spU p W j0 ∧ j0 % 10 = lf) ∧ ∀ i, i < j0 → ¬ (spU p W i ∧ i % 10 = lf) := by
          obtain ⟨a1, a2, a3, a4⟩ := ff_ok (p := fun i => decide (spU p W i ∧ i % 10 = lf)) (s := j) (decide_eq_true ⟨hu, hm⟩) 640 0 (by omega) (by omega)
          exact ⟨_, by omega, of_decide_eq_true a1, fun i hi => of_decide_eq_false (a4 i (by omega) hi)⟩
        refine ⟨flV x (fun i => nI (spV p W i)) (j0 + 1), y, fun u => ?_⟩
        rw [er]
        have lp : ∀ q i, i + q = j0 → Go O (d + 4) kX7_spent (some (.int (nI c))) (mm m0 65 66 (flV x (fun i => nI (spV p W i)) (j0 + 1)) y) 100 [.ref 46, .int (nI n), .int (nI p), .int (nI lf), .int (nI (hr + c)), .int (nI i)] [] (mm m0 65 66 (flV x (fun i => nI (spV p W i)) i) y) := by
          intro q
          induction q with
          | zero =>
            intro i hi
            obtain rfl : i = j0 := by omega
            have o1 := one c i (flV x (fun i => nI (spV p W i)) i) y W (some (.int (nI c))) (mm m0 65 66 (flV x (fun i => nI (spV p W i)) (i + 1)) y) f1 (by rw [flV_at, if_neg (by omega)]; exact (hv i f1).1) (hv i f1).2 (by omega) (fun _ _ => by
              refine go_iload dX7_spent_161 rfl ?_
              refine go_aload_n dX7_spent_163 rfl ?_
              refine go_geti dX7_spent_164 fX7_137 rfl (by decide) (by decide) (by decide) rfl q11 ?_
              refine go_isub dX7_spent_167 ((pk_sub (by omega)).trans (congrArg nI (show hr + c - hr = c by omega))) ?_
              exact go_iret dX7_spent_168 rfl rfl rfl) (fun q => absurd f2 q)
            refine go_iload dX7_spent_100 rfl ?_
            refine go_sipush (nI 640) dX7_spent_102 (by decide +kernel) ?_
            refine go_icmp_ge 175 dX7_spent_105 (by decide) (fun h => absurd h (nI_ge (by omega) (by omega))) (fun h105 => ?_)
            exact o1
          | succ q ih =>
            intro i hi
            have hi2 := ih (i + 1) (by omega)
            have o1 := one c i (flV x (fun i => nI (spV p W i)) i) y W (some (.int (nI c))) (mm m0 65 66 (flV x (fun i => nI (spV p W i)) (j0 + 1)) y) (by omega) (by rw [flV_at, if_neg (by omega)]; exact (hv i (by omega)).1) (hv i (by omega)).2 (by omega) (fun z1 z2 => absurd ⟨z1, z2⟩ (f3 i (by omega))) (fun _ => by
              refine go_iinc_n (L' := [_, _, _, _, _, _]) dX7_spent_169 rfl (by decide) rfl ?_
              refine go_goto 100 dX7_spent_172 (by decide) ?_
              exact hi2)
            refine go_iload dX7_spent_100 rfl ?_
            refine go_sipush (nI 640) dX7_spent_102 (by decide +kernel) ?_
            refine go_icmp_ge 175 dX7_spent_105 (by decide) (fun h => absurd h (nI_ge (by omega) (by omega))) (fun h105 => ?_)
            exact o1
        have lp0 := lp j0 0 (by omega)
        refine go_iload dX7_spent_90 rfl ?_
        refine go_bipush (nI 6) dX7_spent_92 (by decide +kernel) ?_
        refine go_icmp_gt 195 dX7_spent_94 (by decide) (fun h => absurd h (nI_nlt (by omega) (by omega))) (fun h94 => ?_)
        refine go_iconst (nI 0) dX7_spent_97 (by decide +kernel) ?_
        refine go_istore (L' := [_, _, _, _, _, _]) dX7_spent_98 (by decide) rfl ?_
        exact lp0
      · have er := hres.no (fun c' hc' => by
          by_cases e : c' = c
          · rw [e]; exact hq
          · exact hno c' (by omega))
        refine ⟨flV x (fun i => nI (spV p W i)) 640, y, fun u => ?_⟩
        rw [er]
        have lp : ∀ q i, i + q = 640 → Go O (d + 4) kX7_spent (some (.int (-9))) (mm m0 65 66 (flV x (fun i => nI (spV p W i)) 640) y) 100 [.ref 46, .int (nI n), .int (nI p), .int (nI lf), .int (nI (hr + c)), .int (nI i)] [] (mm m0 65 66 (flV x (fun i => nI (spV p W i)) i) y) := by
          intro q
          induction q with
          | zero =>
            intro i hi
            obtain rfl : i = 640 := by omega
            refine go_iload dX7_spent_100 rfl ?_
            refine go_sipush (nI 640) dX7_spent_102 (by decide +kernel) ?_
            refine go_icmp_ge 175 dX7_spent_105 (by decide) (fun h105 => ?_) (fun h => absurd (nI_le (by omega) (by omega)) h)
            refine go_iload dX7_spent_175 rfl ?_
            refine go_bipush (nI 6) dX7_spent_177 (by decide +kernel) ?_
            refine go_icmp_ge 189 dX7_spent_179 (by decide) (fun h179 => ?_) (fun h => absurd (nI_le (by omega) (by omega)) h)
            refine go_iinc_n (L' := [_, _, _, _, _, _]) dX7_spent_189 rfl (by decide) rfl ?_
            refine go_goto 90 dX7_spent_192 (by decide) ?_
            refine go_iload dX7_spent_90 rfl ?_
            refine go_bipush (nI 6) dX7_spent_92 (by decide +kernel) ?_
            refine go_icmp_gt 195 dX7_spent_94 (by decide) (fun h94 => ?_) (fun h => absurd (nI_lt (by omega) (by omega)) h)
            refine go_bipush (-9) dX7_spent_195 (by decide +kernel) ?_
            exact go_iret dX7_spent_197 rfl rfl rfl
          | succ q ih =>
            intro i hi
            have hi2 := ih (i + 1) (by omega)
            have o1 := one c i (flV x (fun i => nI (spV p W i)) i) y W (some (.int (-9))) (mm m0 65 66 (flV x (fun i => nI (spV p W i)) 640) y) (by omega) (by rw [flV_at, if_neg (by omega)]; exact (hv i (by omega)).1) (hv i (by omega)).2 (by omega) (fun z1 z2 => absurd ((hW.q hlf9).mpr ⟨i, by omega, z1, z2⟩) hq) (fun _ => by
              refine go_iinc_n (L' := [_, _, _, _, _, _]) dX7_spent_169 rfl (by decide) rfl ?_
              refine go_goto 100 dX7_spent_172 (by decide) ?_
              exact hi2)
            refine go_iload dX7_spent_100 rfl ?_
            refine go_sipush (nI 640) dX7_spent_102 (by decide +kernel) ?_
            refine go_icmp_ge 175 dX7_spent_105 (by decide) (fun h => absurd h (nI_ge (by omega) (by omega))) (fun h105 => ?_)
            exact o1
        have lp0 := lp 640 0 (by omega)
        refine go_iload dX7_spent_90 rfl ?_
        refine go_bipush (nI 6) dX7_spent_92 (by decide +kernel) ?_
        refine go_icmp_gt 195 dX7_spent_94 (by decide) (fun h => absurd h (nI_nlt (by omega) (by omega))) (fun h94 => ?_)
        refine go_iconst (nI 0) dX7_spent_97 (by decide +kernel) ?_
        refine go_istore (L' := [_, _, _, _, _, _]) dX7_spent_98 (by decide) rfl ?_
        exact lp0
    | succ q ihq =>
      rcases Classical.em (Qs G (2 ^ p) hr k0 lf c) with hq | hq
      · have er := hres.at (by omega) hq hno
        obtain ⟨j, hj, hu, hm⟩ := (hW.q hlf9).mp hq
        obtain ⟨j0, f1, f2, f3⟩ : ∃ j0, j0 < 640 ∧ (spU p W j0 ∧ j0 % 10 = lf) ∧ ∀ i, i < j0 → ¬ (spU p W i ∧ i % 10 = lf) := by
          obtain ⟨a1, a2, a3, a4⟩ := ff_ok (p := fun i => decide (spU p W i ∧ i % 10 = lf)) (s := j) (decide_eq_true ⟨hu, hm⟩) 640 0 (by omega) (by omega)
          exact ⟨_, by omega, of_decide_eq_true a1, fun i hi => of_decide_eq_false (a4 i (by omega) hi)⟩
        refine ⟨flV x (fun i => nI (spV p W i)) (j0 + 1), y, fun u => ?_⟩
        rw [er]
        have lp : ∀ q i, i + q = j0 → Go O (d + 4) kX7_spent (some (.int (nI c))) (mm m0 65 66 (flV x (fun i => nI (spV p W i)) (j0 + 1)) y) 100 [.ref 46, .int (nI n), .int (nI p), .int (nI lf), .int (nI (hr + c)), .int (nI i)] [] (mm m0 65 66 (flV x (fun i => nI (spV p W i)) i) y) := by
          intro q
          induction q with
          | zero =>
            intro i hi
            obtain rfl : i = j0 := by omega
            have o1 := one c i (flV x (fun i => nI (spV p W i)) i) y W (some (.int (nI c))) (mm m0 65 66 (flV x (fun i => nI (spV p W i)) (i + 1)) y) f1 (by rw [flV_at, if_neg (by omega)]; exact (hv i f1).1) (hv i f1).2 (by omega) (fun _ _ => by
              refine go_iload dX7_spent_161 rfl ?_
              refine go_aload_n dX7_spent_163 rfl ?_
              refine go_geti dX7_spent_164 fX7_137 rfl (by decide) (by decide) (by decide) rfl q11 ?_
              refine go_isub dX7_spent_167 ((pk_sub (by omega)).trans (congrArg nI (show hr + c - hr = c by omega))) ?_
              exact go_iret dX7_spent_168 rfl rfl rfl) (fun q => absurd f2 q)
            refine go_iload dX7_spent_100 rfl ?_
            refine go_sipush (nI 640) dX7_spent_102 (by decide +kernel) ?_
            refine go_icmp_ge 175 dX7_spent_105 (by decide) (fun h => absurd h (nI_ge (by omega) (by omega))) (fun h105 => ?_)
            exact o1
          | succ q ih =>
            intro i hi
            have hi2 := ih (i + 1) (by omega)
            have o1 := one c i (flV x (fun i => nI (spV p W i)) i) y W (some (.int (nI c))) (mm m0 65 66 (flV x (fun i => nI (spV p W i)) (j0 + 1)) y) (by omega) (by rw [flV_at, if_neg (by omega)]; exact (hv i (by omega)).1) (hv i (by omega)).2 (by omega) (fun z1 z2 => absurd ⟨z1, z2⟩ (f3 i (by omega))) (fun _ => by
              refine go_iinc_n (L' := [_, _, _, _, _, _]) dX7_spent_169 rfl (by decide) rfl ?_
              refine go_goto 100 dX7_spent_172 (by decide) ?_
              exact hi2)
            refine go_iload dX7_spent_100 rfl ?_
            refine go_sipush (nI 640) dX7_spent_102 (by decide +kernel) ?_
            refine go_icmp_ge 175 dX7_spent_105 (by decide) (fun h => absurd h (nI_ge (by omega) (by omega))) (fun h105 => ?_)
            exact o1
        have lp0 := lp j0 0 (by omega)
        refine go_iload dX7_spent_90 rfl ?_
        refine go_bipush (nI 6) dX7_spent_92 (by decide +kernel) ?_
        refine go_icmp_gt 195 dX7_spent_94 (by decide) (fun h => absurd h (nI_nlt (by omega) (by omega))) (fun h94 => ?_)
        refine go_iconst (nI 0) dX7_spent_97 (by decide +kernel) ?_
        refine go_istore (L' := [_, _, _, _, _, _]) dX7_spent_98 (by decide) rfl ?_
        exact lp0
      · obtain ⟨x1, y1, w1, c1⟩ := c_goWays (O := O) (d := d) (m := mm m0 65 66 (flV x (fun i => nI (spV p W i)) 640) y) (P := P) (h := hr + c) (most := lf) (gr := G (hr + c)) (W := spV p W) q4 hP6 (by rw [mm_k _ _ _ (by decide) (by decide), q48, hG]) (by omega) hlf9 (fun i hi => ⟨by show flV x (fun i => nI (spV p W i)) 640 i = _; rw [flV_at, if_pos hi], by have := spV_le p W i; omega⟩)
        have e1 : mm (mm m0 65 66 (flV x (fun i => nI (spV p W i)) 640) y) 65 66 x1 y1 = mm m0 65 66 x1 y1 := by
          unfold mm
          refine Prod.ext (funext fun k => ?_) rfl
          by_cases h2 : k = 66
          · rw [h2, gupA_s, gupA_s]
          · by_cases h1 : k = 65
            · rw [h1]; rfl
            · rw [gupA_k _ _ h2, gupA_k _ _ h1, gupA_k _ _ h2, gupA_k _ _ h1, gupA_k _ _ h2, gupA_k _ _ h1]
        rw [e1] at c1
        obtain ⟨x', y', p1⟩ := ihq (c + 1) x1 y1 (gW (G (hr + c)) lf (spV p W)) (by omega) (fun i hi => ⟨w1 i hi, by
          have b1 := gW_tot (G (hr + c)) lf (spV p W)
          have b2 := sm_le (f := spV p W) (g := fun _ => 1) 640 (fun j _ => spV_le p W j)
          rw [sm_const] at b2
          have b3 := sm_ge (f := gW (G (hr + c)) lf (spV p W)) hi
          omega⟩) (hW.go (by omega) hg hlf9) (fun c' hc' => by
          by_cases e : c' = c
          · rw [e]; exact hq
          · exact hno c' (by omega))
        refine ⟨x', y', fun u => ?_⟩
        have lp : ∀ q i, i + q = 640 → Go O (d + 4) kX7_spent (some (.int res)) (mm m0 65 66 x' y') 100 [.ref 46, .int (nI n), .int (nI p), .int (nI lf), .int (nI (hr + c)), .int (nI i)] [] (mm m0 65 66 (flV x (fun i => nI (spV p W i)) i) y) := by
          intro q
          induction q with
          | zero =>
            intro i hi
            obtain rfl : i = 640 := by omega
            refine go_iload dX7_spent_100 rfl ?_
            refine go_sipush (nI 640) dX7_spent_102 (by decide +kernel) ?_
            refine go_icmp_ge 175 dX7_spent_105 (by decide) (fun h105 => ?_) (fun h => absurd (nI_le (by omega) (by omega)) h)
            refine go_iload dX7_spent_175 rfl ?_
            refine go_bipush (nI 6) dX7_spent_177 (by decide +kernel) ?_
            refine go_icmp_ge 189 dX7_spent_179 (by decide) (fun h => absurd h (nI_ge (by omega) (by omega))) (fun h179 => ?_)
            refine go_aload_n dX7_spent_182 rfl ?_
            refine go_iload dX7_spent_183 rfl ?_
            refine go_iload_n dX7_spent_185 rfl ?_
            refine go_callV0 (K' := kX7_goWays) [_, _] dX7_spent_186 mX7_200 lX7_goWays rfl (by decide) rfl (by decide) rfl rfl (Nat.le_of_ble_eq_true rfl) (Nat.le_of_ble_eq_true rfl) (c1) ?_
            refine go_iinc_n (L' := [_, _, _, _, _, _]) dX7_spent_189 rfl (by decide) rfl ?_
            refine go_goto 90 dX7_spent_192 (by decide) ?_
            exact p1 _
          | succ q ih =>
            intro i hi
            have hi2 := ih (i + 1) (by omega)
            have o1 := one c i (flV x (fun i => nI (spV p W i)) i) y W (some (.int res)) (mm m0 65 66 x' y') (by omega) (by rw [flV_at, if_neg (by omega)]; exact (hv i (by omega)).1) (hv i (by omega)).2 (by omega) (fun z1 z2 => absurd ((hW.q hlf9).mpr ⟨i, by omega, z1, z2⟩) hq) (fun _ => by
              refine go_iinc_n (L' := [_, _, _, _, _, _]) dX7_spent_169 rfl (by decide) rfl ?_
              refine go_goto 100 dX7_spent_172 (by decide) ?_
              exact hi2)
            refine go_iload dX7_spent_100 rfl ?_
            refine go_sipush (nI 640) dX7_spent_102 (by decide +kernel) ?_
            refine go_icmp_ge 175 dX7_spent_105 (by decide) (fun h => absurd h (nI_ge (by omega) (by omega))) (fun h105 => ?_)
            exact o1
        have lp0 := lp 640 0 (by omega)
        refine go_iload dX7_spent_90 rfl ?_
        refine go_bipush (nI 6) dX7_spent_92 (by decide +kernel) ?_
        refine go_icmp_gt 195 dX7_spent_94 (by decide) (fun h => absurd h (nI_nlt (by omega) (by omega))) (fun h94 => ?_)
        refine go_iconst (nI 0) dX7_spent_97 (by decide +kernel) ?_
        refine go_istore (L' := [_, _, _, _, _, _]) dX7_spent_98 (by decide) rfl ?_
        exact lp0
  -- the start
  have ini : ∀ res M, (∀ u, Go O (d + 4) kX7_spent res M 84 [.ref 46, .int (nI n), .int (nI p), .int (nI lf), .int (nI 640), u] [] (mm m0 65 66 (flV (m0.1 65) (fun k => nI (if k = 10 * k0 then 1 else 0)) 640) (m0.1 66))) → ∀ q k, k + q = 640 → ∀ u, Go O (d + 4) kX7_spent res M 42 [.ref 46, .int (nI n), .int (nI p), .int (nI lf), .int (nI k), u] [] (mm m0 65 66 (flV (m0.1 65) (fun k => nI (if k = 10 * k0 then 1 else 0)) k) (m0.1 66)) := by
    intro res M kk q
    induction q with
    | zero =>
      intro k hk u
      obtain rfl : k = 640 := by omega
      refine go_iload dX7_spent_42 rfl ?_
      refine go_sipush (nI 640) dX7_spent_44 (by decide +kernel) ?_
      refine go_icmp_ge 84 dX7_spent_47 (by decide) (fun h47 => ?_) (fun h => absurd (nI_le (by omega) (by omega)) h)
      exact kk _
    | succ q ih =>
      intro k hk u
      have hi := ih (k + 1) (by omega) u
      rw [flV] at hi
      by_cases e : k = 10 * k0
      · rw [if_pos e] at hi
        refine go_iload dX7_spent_42 rfl ?_
        refine go_sipush (nI 640) dX7_spent_44 (by decide +kernel) ?_
        refine go_icmp_ge 84 dX7_spent_47 (by decide) (fun h => absurd h (nI_ge (by omega) (by omega))) (fun h47 => ?_)
        refine go_aload_n dX7_spent_50 rfl ?_
        refine go_getc dX7_spent_51 fX7_65 rfl (by decide) (by decide) (by decide) rfl ?_
        refine go_iload dX7_spent_54 rfl ?_
        refine go_iload dX7_spent_56 rfl ?_
        refine go_bipush (nI 10) dX7_spent_58 (by decide +kernel) ?_
        refine go_aload_n dX7_spent_60 rfl ?_
        refine go_getc dX7_spent_61 fX7_25 rfl (by decide) (by decide) (by decide) rfl ?_
        refine go_iconst (nI 3) dX7_spent_64 (by decide +kernel) ?_
        refine go_iload_n dX7_spent_65 rfl ?_
        first | refine go_iadd_n dX7_spent_66 ?_ | refine go_iadd dX7_spent_66 rfl ?_
        refine go_iald dX7_spent_67 rfl (by decide) rfl (by omega) (by decide) q52k ?_
        first | refine go_imul_n dX7_spent_68 ?_ | refine go_imul dX7_spent_68 rfl ?_
        refine go_icmp_ne 76 dX7_spent_69 (by decide) (fun h => absurd h (fun q => q (by rw [e]))) (fun h69 => ?_)
        refine go_iconst (nI 1) dX7_spent_72 (by decide +kernel) ?_
        refine go_goto 77 dX7_spent_73 (by decide) ?_
        refine go_iast dX7_spent_77 rfl (by decide) rfl (by omega) (by decide) ?_
        rw [mm_1 (by decide)]
        refine go_iinc_n (L' := [_, _, _, _, _, _]) dX7_spent_78 rfl (by decide) rfl ?_
        refine go_goto 42 dX7_spent_81 (by decide) ?_
        exact hi
      · rw [if_neg e] at hi
        refine go_iload dX7_spent_42 rfl ?_
        refine go_sipush (nI 640) dX7_spent_44 (by decide +kernel) ?_
        refine go_icmp_ge 84 dX7_spent_47 (by decide) (fun h => absurd h (nI_ge (by omega) (by omega))) (fun h47 => ?_)
        refine go_aload_n dX7_spent_50 rfl ?_
        refine go_getc dX7_spent_51 fX7_65 rfl (by decide) (by decide) (by decide) rfl ?_
        refine go_iload dX7_spent_54 rfl ?_
        refine go_iload dX7_spent_56 rfl ?_
        refine go_bipush (nI 10) dX7_spent_58 (by decide +kernel) ?_
        refine go_aload_n dX7_spent_60 rfl ?_
        refine go_getc dX7_spent_61 fX7_25 rfl (by decide) (by decide) (by decide) rfl ?_
        refine go_iconst (nI 3) dX7_spent_64 (by decide +kernel) ?_
        refine go_iload_n dX7_spent_65 rfl ?_
        first | refine go_iadd_n dX7_spent_66 ?_ | refine go_iadd dX7_spent_66 rfl ?_
        refine go_iald dX7_spent_67 rfl (by decide) rfl (by omega) (by decide) q52k ?_
        first | refine go_imul_n dX7_spent_68 ?_ | refine go_imul dX7_spent_68 rfl ?_
        refine go_icmp_ne 76 dX7_spent_69 (by decide) (fun h69 => ?_) (fun h => absurd h (fun q => e ((nI_eq (by omega) (by omega)).mp q)))
        refine go_iconst (nI 0) dX7_spent_76 (by decide +kernel) ?_
        refine go_iast dX7_spent_77 rfl (by decide) rfl (by omega) (by decide) ?_
        rw [mm_1 (by decide)]
        refine go_iinc_n (L' := [_, _, _, _, _, _]) dX7_spent_78 rfl (by decide) rfl ?_
        refine go_goto 42 dX7_spent_81 (by decide) ?_
        exact hi
  obtain ⟨x', y', p1⟩ := hrs (6 - hr) 0 (flV (m0.1 65) (fun k => nI (if k = 10 * k0 then 1 else 0)) 640) (m0.1 66) (fun k => if k = 10 * k0 then 1 else 0) (by omega) (fun i hi => by
    rw [flV_at, if_pos hi]
    exact ⟨rfl, by split <;> omega⟩) (fun k t hk ht => by
    dsimp only
    constructor
    · rintro ⟨h1, h2⟩
      have e : 10 * k + t = 10 * k0 := by
        by_cases z : 10 * k + t = 10 * k0
        · exact z
        · rw [if_neg z] at h1
          exact absurd h1 (by omega)
      have e1 : k = k0 := by omega
      have e2 : t = 0 := by omega
      rw [e1] at h2
      exact ⟨⟨e1, e2, (bar_bit p (by omega) k0 hk0).mpr h2⟩, by omega⟩
    · rintro ⟨⟨h1, h2, h3⟩, -⟩
      rw [if_pos (by rw [h1, h2]; rfl), h1]
      exact ⟨by omega, (bar_bit p (by omega) k0 hk0).mp h3⟩) (fun c' hc' => absurd hc' (by omega))
  refine ⟨x', y', ?_⟩
  have f2 := ini (some (.int res)) (mm m0 65 66 x' y') (fun u => by
    refine go_aload_n dX7_spent_84 rfl ?_
    refine go_geti dX7_spent_85 fX7_137 rfl (by decide) (by decide) (by decide) rfl q11 ?_
    refine go_istore (L' := [_, _, _, _, _, _]) dX7_spent_88 (by decide) rfl ?_
    exact p1 _) 640 0 (by omega)
  show Go O (d + 4) kX7_spent _ _ 0 [.ref 46, .int (nI n), .int (nI p), .null, .null, .null] [] m
  refine go_aload_n dX7_spent_0 rfl ?_
  refine go_iconst (nI 0) dX7_spent_1 (by decide +kernel) ?_
  refine go_puti dX7_spent_2 fX7_77 rfl (by decide) (by decide) (by decide) rfl (fun _ _ _ h => by cases h; rfl) (Or.inl rfl) ?_
  rw [hm0]
  refine go_aload_n dX7_spent_5 rfl ?_
  refine go_iload_n dX7_spent_6 rfl ?_
  refine go_callV1 (K' := kX7_noOne) [_] dX7_spent_7 mX7_150 lX7_noOne rfl (by decide) rfl (by decide) rfl rfl (Nat.le_of_ble_eq_true rfl) (Nat.le_of_ble_eq_true rfl) (c_noOne q4 hP6) ?_
  refine go_if_ne 21 dX7_spent_10 (by decide) (fun h => absurd h (fun q => q (bI_0.mpr (by rw [iR_nI hpP (by omega)]; rfl)))) (fun h10 => ?_)
  refine go_aload_n dX7_spent_13 rfl ?_
  refine go_iload_n dX7_spent_14 rfl ?_
  refine go_callV1 (K' := kX7_noNews) [_] dX7_spent_15 mX7_155 lX7_noNews rfl (by decide) rfl (by decide) rfl rfl (Nat.le_of_ble_eq_true rfl) (Nat.le_of_ble_eq_true rfl) (c_noNews q5 (by omega)) ?_
  refine go_if_eq 23 dX7_spent_18 (by decide) (fun h18 => ?_) (fun h => absurd (bI_0.mpr (by rw [iR_nI hnN (by omega)]; rfl)) h)
  refine go_aload_n dX7_spent_23 rfl ?_
  refine go_geti dX7_spent_24 fX7_130 rfl (by decide) (by decide) (by decide) rfl q6 ?_
  refine go_if_eq 33 dX7_spent_27 (by decide) (fun h27 => ?_) (fun h => absurd (rfl) h)
  refine go_aload_n dX7_spent_33 rfl ?_
  refine go_iload_n dX7_spent_34 rfl ?_
  refine go_callV1 (K' := kX7_leftOf) [_] dX7_spent_35 mX7_191 lX7_leftOf rfl (by decide) rfl (by decide) rfl rfl (Nat.le_of_ble_eq_true rfl) (Nat.le_of_ble_eq_true rfl) (c_leftOf (by omega) q49 q52 hab) ?_
  rw [hlf]
  refine go_istore_n (L' := [_, _, _, _, _, _]) dX7_spent_38 (by decide) rfl ?_
  refine go_iconst (nI 0) dX7_spent_39 (by decide +kernel) ?_
  refine go_istore (L' := [_, _, _, _, _, _]) dX7_spent_40 (by decide) rfl ?_
  refine go_mem (mm_id m0 65 66).symm ?_
  exact f2 _
