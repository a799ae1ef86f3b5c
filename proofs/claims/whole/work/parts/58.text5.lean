/-! READING A TEXT: the reference -/
/-- which of the reference's fields and rows may have changed -/
def FrM (A J : List Nat) (m m' : gMem) : Prop := m'.2 = m.2 ∧ (∀ k, k ≠ 46 → k ∉ A → m'.1 k = m.1 k) ∧ ∀ j, j ∉ J → m'.1 46 j = m.1 46 j
theorem FrM.rf (A J : List Nat) (m : gMem) : FrM A J m m := ⟨rfl, fun _ _ _ => rfl, fun _ _ => rfl⟩
theorem FrM.tr {A J : List Nat} {m m1 m2 : gMem} (h : FrM A J m m1) (h' : FrM A J m1 m2) : FrM A J m m2 := ⟨h'.1.trans h.1, fun k a b => (h'.2.1 k a b).trans (h.2.1 k a b), fun j a => (h'.2.2 j a).trans (h.2.2 j a)⟩
theorem FrM.mono {A J A' J' : List Nat} {m m1 : gMem} (h : FrM A J m m1) (ha : ∀ k ∈ A, k ∈ A') (hj : ∀ k ∈ J, k ∈ J') : FrM A' J' m m1 := ⟨h.1, fun k a b => h.2.1 k a (fun z => b (ha k z)), fun j a => h.2.2 j (fun z => a (hj j z))⟩
theorem FrM.f {A J : List Nat} {m m1 : gMem} (h : FrM A J m m1) {j : Nat} (hj : j ∈ J) (v : Int32) : FrM A J m (gup m1 46 j v) := by
  refine ⟨h.1, fun k a b => ?_, fun i a => ?_⟩
  · rw [gup_k _ _ a]; exact h.2.1 k a b
  · rw [gup_i _ _ (show i ≠ j from fun e => a (e ▸ hj))]; exact h.2.2 i a
theorem FrM.a {A J : List Nat} {m m1 : gMem} (h : FrM A J m m1) {k : Nat} (hk : k ∈ A) (h46 : 46 ≠ k) (i : Nat) (v : Int32) : FrM A J m (gup m1 k i v) := by
  refine ⟨h.1, fun k' a b => ?_, fun j a => ?_⟩
  · rw [gup_k _ _ (show k' ≠ k from fun e => b (e ▸ hk))]; exact h.2.1 k' a b
  · rw [gup_k _ _ h46]; exact h.2.2 j a
theorem TxM.fr {A J : List Nat} {m m' : gMem} {L : Nat} {x : Nat → Nat} (h : TxM m L x) (f : FrM A J m m') (hA : 47 ∉ A) (hJ : 2 ∉ J) : TxM m' L x := h.of (f.2.2 2 hJ) (f.2.1 47 (by decide) hA)
/-- what the reference has read -/
def tx_RC (m : gMem) (at_ P N : Nat) (w : Nat → Nat → Option Nat) (li wo fi : Nat → Nat) : Prop := m.1 46 3 = nI at_ ∧ m.1 46 13 = nI P ∧ m.1 46 14 = nI N ∧ (∀ p j, p < P → j < 6 → m.1 53 (6 * p + j) = oI (-9) (w p j)) ∧ ∀ n, n < N → m.1 54 n = nI (li n) ∧ m.1 55 n = nI (wo n) ∧ m.1 56 n = nI (fi n)
theorem c_rdPersonM {O : gOm} {d : Nat} {m : gMem} {L P N at_ : Nat} {x : Nat → Nat} {w : Nat → Nat → Option Nat} {li wo fi : Nat → Nat} (hX : TxM m L x) (hR : tx_RC m at_ P N w li wo fi) (ha : at_ ≤ L) (hP : P < 6) : ∃ m', Ca O (d + 2) kX7_readPerson [.ref 46] (some (.int (match tx_rp x L 6 at_ with | some _ => nI 0 | none => nI 1))) m m' ∧ FrM [53] [3, 13] m m' ∧ (∀ q, tx_rp x L 6 at_ = some q → m'.1 46 3 = nI q) ∧ (tx_rp x L 6 at_ = none → tx_RC m' (at_ + 6) (P + 1) N (tx_wH w P (tx_w x L at_) 6) li wo fi) := by
  have key : ∀ n h (m : gMem), h + n = 6 → TxM m L x → at_ + h ≤ L → m.1 46 3 = nI (at_ + h) → m.1 46 13 = nI P → (∀ p j, p < P → j < 6 → m.1 53 (6 * p + j) = oI (-9) (w p j)) → (∀ j, j < h → m.1 53 (6 * P + j) = oI (-9) (tx_w x L at_ j)) → ∃ m', (∀ z2 z3, Go O (d + 2) kX7_readPerson (some (.int (match tx_rp x L n (at_ + h) with | some _ => nI 0 | none => nI 1))) m' 2 [.ref 46, .int (nI h), z2, z3] [] m) ∧ FrM [53] [3, 13] m m' ∧ (∀ q, tx_rp x L n (at_ + h) = some q → m'.1 46 3 = nI q) ∧ (tx_rp x L n (at_ + h) = none → m'.1 46 3 = nI (at_ + 6) ∧ m'.1 46 13 = nI (P + 1) ∧ (∀ p j, p < P → j < 6 → m'.1 53 (6 * p + j) = oI (-9) (w p j)) ∧ ∀ j, j < 6 → m'.1 53 (6 * P + j) = oI (-9) (tx_w x L at_ j)) := by
    intro n
    induction n with
    | zero =>
      intro h m hn hX hl h3 h13 hw hw2
      obtain rfl : h = 6 := by omega
      refine ⟨gup m 46 13 (nI (P + 1)), fun z2 z3 => ?_, (FrM.rf _ _ _).f (by decide) _, fun q z => (by cases z), fun _ => ⟨h3, gup_s _ _ _ _, hw, hw2⟩⟩
      refine go_iload_n dX7_readPerson_2 rfl ?_
      refine go_bipush (nI 6) dX7_readPerson_3 (by decide +kernel) ?_
      refine go_icmp_ge 106 dX7_readPerson_5 (by decide) (fun h5 => ?_) (fun h => absurd (nI_le (by omega) (by omega)) h)
      refine go_aload_n dX7_readPerson_106 rfl ?_
      refine go_dup dX7_readPerson_107 rfl ?_
      refine go_geti dX7_readPerson_108 fX7_103 rfl (by decide) (by decide) (by decide) rfl h13 ?_
      refine go_iconst (nI 1) dX7_readPerson_111 (by decide +kernel) ?_
      first | refine go_iadd_n dX7_readPerson_112 ?_ | refine go_iadd dX7_readPerson_112 rfl ?_
      refine go_puti dX7_readPerson_113 fX7_103 rfl (by decide) (by decide) (by decide) rfl (fun _ _ _ h => by cases h; rfl) (Or.inl rfl) ?_
      refine go_iconst (nI 1) dX7_readPerson_116 (by decide +kernel) ?_
      exact go_zret dX7_readPerson_117 rfl (by first | exact Or.inl rfl | exact Or.inr rfl) rfl rfl
    | succ n ih =>
      intro h m hn hX hl h3 h13 hw hw2
      obtain ⟨x1, x2, x3⟩ := hX
      have cf := c_figureM (O := O) (d := d) (m := gup m 46 3 (nI (at_ + h + 0))) (at_ := at_ + h) (k := 2) (TxM.of ⟨x1, x2, x3⟩ rfl rfl) hl (gup_s _ _ _ _) (by omega)
      cases hp : tx_pl x L (at_ + h) with
      | none =>
        obtain ⟨q1, q2⟩ := tx_pl_n hp
        have e : tx_rp x L (n + 1) (at_ + h) = some (at_ + h) := by rw [tx_rp, hp]
        rw [q1] at cf
        dsimp only at cf
        rw [e]
        refine ⟨gup m 46 3 (nI (at_ + h + 0)), fun z2 z3 => ?_, (FrM.rf _ _ _).f (by decide) _, fun q z => by rw [gup_s]; cases z; rfl, fun z => by cases z⟩
        by_cases hll : at_ + h < L
        · obtain ⟨b1, b2⟩ := x3 _ hll
          refine go_iload_n dX7_readPerson_2 rfl ?_
          refine go_bipush (nI 6) dX7_readPerson_3 (by decide +kernel) ?_
          refine go_icmp_ge 106 dX7_readPerson_5 (by decide) (fun h => absurd h (nI_ge (by omega) (by omega))) (fun h5 => ?_)
          refine go_aload_n dX7_readPerson_8 rfl ?_
          refine go_geti dX7_readPerson_9 fX7_96 rfl (by decide) (by decide) (by decide) rfl h3 ?_
          refine go_aload_n dX7_readPerson_12 rfl ?_
          refine go_geti dX7_readPerson_13 fX7_93 rfl (by decide) (by decide) (by decide) rfl x2 ?_
          refine go_icmp_ge 37 dX7_readPerson_16 (by decide) (fun h => absurd h (nI_ge (by omega) (by omega))) (fun h16 => ?_)
          refine go_aload_n dX7_readPerson_19 rfl ?_
          refine go_getc dX7_readPerson_20 fX7_7 rfl (by decide) (by decide) (by decide) rfl ?_
          refine go_aload_n dX7_readPerson_23 rfl ?_
          refine go_geti dX7_readPerson_24 fX7_96 rfl (by decide) (by decide) (by decide) rfl h3 ?_
          refine go_iald dX7_readPerson_27 rfl (by decide) rfl (by omega) (by decide) b2 ?_
          refine go_bipush (nI 45) dX7_readPerson_28 (by decide +kernel) ?_
          refine go_icmp_ne 37 dX7_readPerson_30 (by decide) (fun h30 => ?_) (fun h => absurd h (fun q => q2 ⟨hll, (nI_eq (by omega) (by omega)).mp q⟩))
          refine go_iconst (nI 0) dX7_readPerson_37 (by decide +kernel) ?_
          refine go_istore_n (L' := [_, _, _, _]) dX7_readPerson_38 (by decide) rfl ?_
          refine go_aload_n dX7_readPerson_39 rfl ?_
          refine go_dup dX7_readPerson_40 rfl ?_
          refine go_geti dX7_readPerson_41 fX7_96 rfl (by decide) (by decide) (by decide) rfl h3 ?_
          refine go_iload_n dX7_readPerson_44 rfl ?_
          refine go_if_eq 52 dX7_readPerson_45 (by decide) (fun h45 => ?_) (fun h => absurd (rfl) h)
          refine go_iconst (nI 0) dX7_readPerson_52 (by decide +kernel) ?_
          first | refine go_iadd_n dX7_readPerson_53 ?_ | refine go_iadd dX7_readPerson_53 rfl ?_
          refine go_puti dX7_readPerson_54 fX7_96 rfl (by decide) (by decide) (by decide) rfl (fun _ _ _ h => by cases h; rfl) (Or.inl rfl) ?_
          refine go_iload_n dX7_readPerson_57 rfl ?_
          refine go_if_eq 66 dX7_readPerson_58 (by decide) (fun h58 => ?_) (fun h => absurd (rfl) h)
          refine go_aload_n dX7_readPerson_66 rfl ?_
          refine go_iconst (nI 0) dX7_readPerson_67 (by decide +kernel) ?_
          refine go_iconst (nI 2) dX7_readPerson_68 (by decide +kernel) ?_
          refine go_callV1 (K' := kX7_figure) [_, _] dX7_readPerson_69 mX7_99 lX7_figure rfl (by decide) rfl (by decide) rfl rfl (Nat.le_of_ble_eq_true rfl) (Nat.le_of_ble_eq_true rfl) (cf) ?_
          refine go_istore_n (L' := [_, _, _, _]) dX7_readPerson_72 (by decide) rfl ?_
          refine go_iload_n dX7_readPerson_73 rfl ?_
          refine go_if_ne 85 dX7_readPerson_74 (by decide) (fun h => absurd h (fun q => q rfl)) (fun h74 => ?_)
          refine go_iload_n dX7_readPerson_77 rfl ?_
          refine go_bipush (-9) dX7_readPerson_78 (by decide +kernel) ?_
          refine go_icmp_ne 85 dX7_readPerson_80 (by decide) (fun h => absurd h (fun q => q rfl)) (fun h80 => ?_)
          refine go_iconst (nI 0) dX7_readPerson_83 (by decide +kernel) ?_
          exact go_zret dX7_readPerson_84 rfl (by first | exact Or.inl rfl | exact Or.inr rfl) rfl rfl
        · skip
          refine go_iload_n dX7_readPerson_2 rfl ?_
          refine go_bipush (nI 6) dX7_readPerson_3 (by decide +kernel) ?_
          refine go_icmp_ge 106 dX7_readPerson_5 (by decide) (fun h => absurd h (nI_ge (by omega) (by omega))) (fun h5 => ?_)
          refine go_aload_n dX7_readPerson_8 rfl ?_
          refine go_geti dX7_readPerson_9 fX7_96 rfl (by decide) (by decide) (by decide) rfl h3 ?_
          refine go_aload_n dX7_readPerson_12 rfl ?_
          refine go_geti dX7_readPerson_13 fX7_93 rfl (by decide) (by decide) (by decide) rfl x2 ?_
          refine go_icmp_ge 37 dX7_readPerson_16 (by decide) (fun h16 => ?_) (fun h => absurd (nI_le (by omega) (by omega)) h)
          refine go_iconst (nI 0) dX7_readPerson_37 (by decide +kernel) ?_
          refine go_istore_n (L' := [_, _, _, _]) dX7_readPerson_38 (by decide) rfl ?_
          refine go_aload_n dX7_readPerson_39 rfl ?_
          refine go_dup dX7_readPerson_40 rfl ?_
          refine go_geti dX7_readPerson_41 fX7_96 rfl (by decide) (by decide) (by decide) rfl h3 ?_
          refine go_iload_n dX7_readPerson_44 rfl ?_
          refine go_if_eq 52 dX7_readPerson_45 (by decide) (fun h45 => ?_) (fun h => absurd (rfl) h)
          refine go_iconst (nI 0) dX7_readPerson_52 (by decide +kernel) ?_
          first | refine go_iadd_n dX7_readPerson_53 ?_ | refine go_iadd dX7_readPerson_53 rfl ?_
          refine go_puti dX7_readPerson_54 fX7_96 rfl (by decide) (by decide) (by decide) rfl (fun _ _ _ h => by cases h; rfl) (Or.inl rfl) ?_
          refine go_iload_n dX7_readPerson_57 rfl ?_
          refine go_if_eq 66 dX7_readPerson_58 (by decide) (fun h58 => ?_) (fun h => absurd (rfl) h)
          refine go_aload_n dX7_readPerson_66 rfl ?_
          refine go_iconst (nI 0) dX7_readPerson_67 (by decide +kernel) ?_
          refine go_iconst (nI 2) dX7_readPerson_68 (by decide +kernel) ?_
          refine go_callV1 (K' := kX7_figure) [_, _] dX7_readPerson_69 mX7_99 lX7_figure rfl (by decide) rfl (by decide) rfl rfl (Nat.le_of_ble_eq_true rfl) (Nat.le_of_ble_eq_true rfl) (cf) ?_
          refine go_istore_n (L' := [_, _, _, _]) dX7_readPerson_72 (by decide) rfl ?_
          refine go_iload_n dX7_readPerson_73 rfl ?_
          refine go_if_ne 85 dX7_readPerson_74 (by decide) (fun h => absurd h (fun q => q rfl)) (fun h74 => ?_)
          refine go_iload_n dX7_readPerson_77 rfl ?_
          refine go_bipush (-9) dX7_readPerson_78 (by decide +kernel) ?_
          refine go_icmp_ne 85 dX7_readPerson_80 (by decide) (fun h => absurd h (fun q => q rfl)) (fun h80 => ?_)
          refine go_iconst (nI 0) dX7_readPerson_83 (by decide +kernel) ?_
          exact go_zret dX7_readPerson_84 rfl (by first | exact Or.inl rfl | exact Or.inr rfl) rfl rfl
      | some o =>
        have e : tx_rp x L (n + 1) (at_ + h) = tx_rp x L n (at_ + (h + 1)) := by rw [tx_rp, hp]; rfl
        have hll := tx_pl_lt hp
        obtain ⟨b1, b2⟩ := x3 _ hll
        rw [e]
        cases o with
        | none =>
          obtain ⟨q1, q2, q3⟩ := tx_pl_0 hp
          have st : ∀ (M : gMem), M.1 53 = m.1 53 → (∀ p j, p < P → j < 6 → (gup M 53 (6 * P + h) (-9)).1 53 (6 * p + j) = oI (-9) (w p j)) ∧ ∀ j, j < h + 1 → (gup M 53 (6 * P + h) (-9)).1 53 (6 * P + j) = oI (-9) (tx_w x L at_ j) := by
            intro M eM
            refine ⟨fun p j hp hj => ?_, fun j hj => ?_⟩
            · rw [gup_i _ _ (by omega), eM]
              exact hw p j hp hj
            · by_cases z : j = h
              · rw [z, gup_s, tx_w_of hp]
                rfl
              · rw [gup_i _ _ (by omega), eM]
                exact hw2 j (by omega)
          obtain ⟨s1, s2⟩ := st (gup m 46 3 (nI (at_ + h + 1))) rfl
          obtain ⟨m', g1, g2, g3, g4⟩ := ih (h + 1) (gup (gup m 46 3 (nI (at_ + h + 1))) 53 (6 * P + h) (-9)) (by omega) (TxM.of ⟨x1, x2, x3⟩ rfl rfl) hll rfl h13 s1 s2
          refine ⟨m', fun z2 z3 => ?_, FrM.tr (((FrM.rf _ _ _).f (by decide) _).a (by decide) (by decide) _ _) g2, g3, g4⟩
          refine go_iload_n dX7_readPerson_2 rfl ?_
          refine go_bipush (nI 6) dX7_readPerson_3 (by decide +kernel) ?_
          refine go_icmp_ge 106 dX7_readPerson_5 (by decide) (fun h => absurd h (nI_ge (by omega) (by omega))) (fun h5 => ?_)
          refine go_aload_n dX7_readPerson_8 rfl ?_
          refine go_geti dX7_readPerson_9 fX7_96 rfl (by decide) (by decide) (by decide) rfl h3 ?_
          refine go_aload_n dX7_readPerson_12 rfl ?_
          refine go_geti dX7_readPerson_13 fX7_93 rfl (by decide) (by decide) (by decide) rfl x2 ?_
          refine go_icmp_ge 37 dX7_readPerson_16 (by decide) (fun h => absurd h (nI_ge (by omega) (by omega))) (fun h16 => ?_)
          refine go_aload_n dX7_readPerson_19 rfl ?_
          refine go_getc dX7_readPerson_20 fX7_7 rfl (by decide) (by decide) (by decide) rfl ?_
          refine go_aload_n dX7_readPerson_23 rfl ?_
          refine go_geti dX7_readPerson_24 fX7_96 rfl (by decide) (by decide) (by decide) rfl h3 ?_
          refine go_iald dX7_readPerson_27 rfl (by decide) rfl (by omega) (by decide) b2 ?_
          refine go_bipush (nI 45) dX7_readPerson_28 (by decide +kernel) ?_
          refine go_icmp_ne 37 dX7_readPerson_30 (by decide) (fun h => absurd h (fun q => q (congrArg nI q3))) (fun h30 => ?_)
          refine go_iconst (nI 1) dX7_readPerson_33 (by decide +kernel) ?_
          refine go_goto 38 dX7_readPerson_34 (by decide) ?_
          refine go_istore_n (L' := [_, _, _, _]) dX7_readPerson_38 (by decide) rfl ?_
          refine go_aload_n dX7_readPerson_39 rfl ?_
          refine go_dup dX7_readPerson_40 rfl ?_
          refine go_geti dX7_readPerson_41 fX7_96 rfl (by decide) (by decide) (by decide) rfl h3 ?_
          refine go_iload_n dX7_readPerson_44 rfl ?_
          refine go_if_eq 52 dX7_readPerson_45 (by decide) (fun h => absurd h (by decide +kernel)) (fun h45 => ?_)
          refine go_iconst (nI 1) dX7_readPerson_48 (by decide +kernel) ?_
          refine go_goto 53 dX7_readPerson_49 (by decide) ?_
          first | refine go_iadd_n dX7_readPerson_53 ?_ | refine go_iadd dX7_readPerson_53 rfl ?_
          refine go_puti dX7_readPerson_54 fX7_96 rfl (by decide) (by decide) (by decide) rfl (fun _ _ _ h => by cases h; rfl) (Or.inl rfl) ?_
          refine go_iload_n dX7_readPerson_57 rfl ?_
          refine go_if_eq 66 dX7_readPerson_58 (by decide) (fun h => absurd h (by decide +kernel)) (fun h58 => ?_)
          refine go_bipush (-9) dX7_readPerson_61 (by decide +kernel) ?_
          refine go_goto 72 dX7_readPerson_63 (by decide) ?_
          refine go_istore_n (L' := [_, _, _, _]) dX7_readPerson_72 (by decide) rfl ?_
          refine go_iload_n dX7_readPerson_73 rfl ?_
          refine go_if_ne 85 dX7_readPerson_74 (by decide) (fun h74 => ?_) (fun h => absurd h (by decide +kernel))
          refine go_aload_n dX7_readPerson_85 rfl ?_
          refine go_getc dX7_readPerson_86 fX7_28 rfl (by decide) (by decide) (by decide) rfl ?_
          refine go_bipush (nI 6) dX7_readPerson_89 (by decide +kernel) ?_
          refine go_aload_n dX7_readPerson_91 rfl ?_
          refine go_geti dX7_readPerson_92 fX7_103 rfl (by decide) (by decide) (by decide) rfl h13 ?_
          first | refine go_imul_n dX7_readPerson_95 ?_ | refine go_imul dX7_readPerson_95 rfl ?_
          refine go_iload_n dX7_readPerson_96 rfl ?_
          first | refine go_iadd_n dX7_readPerson_97 ?_ | refine go_iadd dX7_readPerson_97 rfl ?_
          refine go_iload_n dX7_readPerson_98 rfl ?_
          refine go_iast dX7_readPerson_99 rfl (by decide) rfl (by omega) (by decide) ?_
          refine go_iinc_n (L' := [_, _, _, _]) dX7_readPerson_100 rfl (by decide) rfl ?_
          refine go_goto 2 dX7_readPerson_103 (by decide) ?_
          exact g1 _ _
        | some a =>
          have q1 := tx_pl_1 hp
          have d1 := dg_s q1
          rw [q1] at cf
          dsimp only at cf
          have st : ∀ (M : gMem), M.1 53 = m.1 53 → (∀ p j, p < P → j < 6 → (gup M 53 (6 * P + h) (nI a)).1 53 (6 * p + j) = oI (-9) (w p j)) ∧ ∀ j, j < h + 1 → (gup M 53 (6 * P + h) (nI a)).1 53 (6 * P + j) = oI (-9) (tx_w x L at_ j) := by
            intro M eM
            refine ⟨fun p j hp hj => ?_, fun j hj => ?_⟩
            · rw [gup_i _ _ (by omega), eM]
              exact hw p j hp hj
            · by_cases z : j = h
              · rw [z, gup_s, tx_w_of hp]
                rfl
              · rw [gup_i _ _ (by omega), eM]
                exact hw2 j (by omega)
          obtain ⟨s1, s2⟩ := st (gup (gup m 46 3 (nI (at_ + h + 0))) 46 3 (nI (at_ + h + 1))) rfl
          obtain ⟨m', g1, g2, g3, g4⟩ := ih (h + 1) (gup (gup (gup m 46 3 (nI (at_ + h + 0))) 46 3 (nI (at_ + h + 1))) 53 (6 * P + h) (nI a)) (by omega) (TxM.of ⟨x1, x2, x3⟩ rfl rfl) hll rfl h13 s1 s2
          refine ⟨m', fun z2 z3 => ?_, FrM.tr ((((FrM.rf _ _ _).f (by decide) _).f (by decide) _).a (by decide) (by decide) _ _) g2, g3, g4⟩
          refine go_iload_n dX7_readPerson_2 rfl ?_
          refine go_bipush (nI 6) dX7_readPerson_3 (by decide +kernel) ?_
          refine go_icmp_ge 106 dX7_readPerson_5 (by decide) (fun h => absurd h (nI_ge (by omega) (by omega))) (fun h5 => ?_)
          refine go_aload_n dX7_readPerson_8 rfl ?_
          refine go_geti dX7_readPerson_9 fX7_96 rfl (by decide) (by decide) (by decide) rfl h3 ?_
          refine go_aload_n dX7_readPerson_12 rfl ?_
          refine go_geti dX7_readPerson_13 fX7_93 rfl (by decide) (by decide) (by decide) rfl x2 ?_
          refine go_icmp_ge 37 dX7_readPerson_16 (by decide) (fun h => absurd h (nI_ge (by omega) (by omega))) (fun h16 => ?_)
          refine go_aload_n dX7_readPerson_19 rfl ?_
          refine go_getc dX7_readPerson_20 fX7_7 rfl (by decide) (by decide) (by decide) rfl ?_
          refine go_aload_n dX7_readPerson_23 rfl ?_
          refine go_geti dX7_readPerson_24 fX7_96 rfl (by decide) (by decide) (by decide) rfl h3 ?_
          refine go_iald dX7_readPerson_27 rfl (by decide) rfl (by omega) (by decide) b2 ?_
          refine go_bipush (nI 45) dX7_readPerson_28 (by decide +kernel) ?_
          refine go_icmp_ne 37 dX7_readPerson_30 (by decide) (fun h30 => ?_) (fun h => absurd h (fun q => absurd ((nI_eq (by omega) (by omega)).mp q) (by omega)))
          refine go_iconst (nI 0) dX7_readPerson_37 (by decide +kernel) ?_
          refine go_istore_n (L' := [_, _, _, _]) dX7_readPerson_38 (by decide) rfl ?_
          refine go_aload_n dX7_readPerson_39 rfl ?_
          refine go_dup dX7_readPerson_40 rfl ?_
          refine go_geti dX7_readPerson_41 fX7_96 rfl (by decide) (by decide) (by decide) rfl h3 ?_
          refine go_iload_n dX7_readPerson_44 rfl ?_
          refine go_if_eq 52 dX7_readPerson_45 (by decide) (fun h45 => ?_) (fun h => absurd (rfl) h)
          refine go_iconst (nI 0) dX7_readPerson_52 (by decide +kernel) ?_
          first | refine go_iadd_n dX7_readPerson_53 ?_ | refine go_iadd dX7_readPerson_53 rfl ?_
          refine go_puti dX7_readPerson_54 fX7_96 rfl (by decide) (by decide) (by decide) rfl (fun _ _ _ h => by cases h; rfl) (Or.inl rfl) ?_
          refine go_iload_n dX7_readPerson_57 rfl ?_
          refine go_if_eq 66 dX7_readPerson_58 (by decide) (fun h58 => ?_) (fun h => absurd (rfl) h)
          refine go_aload_n dX7_readPerson_66 rfl ?_
          refine go_iconst (nI 0) dX7_readPerson_67 (by decide +kernel) ?_
          refine go_iconst (nI 2) dX7_readPerson_68 (by decide +kernel) ?_
          refine go_callV1 (K' := kX7_figure) [_, _] dX7_readPerson_69 mX7_99 lX7_figure rfl (by decide) rfl (by decide) rfl rfl (Nat.le_of_ble_eq_true rfl) (Nat.le_of_ble_eq_true rfl) (cf) ?_
          refine go_istore_n (L' := [_, _, _, _]) dX7_readPerson_72 (by decide) rfl ?_
          refine go_iload_n dX7_readPerson_73 rfl ?_
          refine go_if_ne 85 dX7_readPerson_74 (by decide) (fun h => absurd h (fun q => q rfl)) (fun h74 => ?_)
          refine go_iload_n dX7_readPerson_77 rfl ?_
          refine go_bipush (-9) dX7_readPerson_78 (by decide +kernel) ?_
          refine go_icmp_ne 85 dX7_readPerson_80 (by decide) (fun h80 => ?_) (fun h => absurd h (nI_n9 (by omega)))
          refine go_aload_n dX7_readPerson_85 rfl ?_
          refine go_getc dX7_readPerson_86 fX7_28 rfl (by decide) (by decide) (by decide) rfl ?_
          refine go_bipush (nI 6) dX7_readPerson_89 (by decide +kernel) ?_
          refine go_aload_n dX7_readPerson_91 rfl ?_
          refine go_geti dX7_readPerson_92 fX7_103 rfl (by decide) (by decide) (by decide) rfl h13 ?_
          first | refine go_imul_n dX7_readPerson_95 ?_ | refine go_imul dX7_readPerson_95 rfl ?_
          refine go_iload_n dX7_readPerson_96 rfl ?_
          first | refine go_iadd_n dX7_readPerson_97 ?_ | refine go_iadd dX7_readPerson_97 rfl ?_
          refine go_iload_n dX7_readPerson_98 rfl ?_
          refine go_iast dX7_readPerson_99 rfl (by decide) rfl (by omega) (by decide) ?_
          refine go_iinc_n (L' := [_, _, _, _]) dX7_readPerson_100 rfl (by decide) rfl ?_
          refine go_goto 2 dX7_readPerson_103 (by decide) ?_
          exact g1 _ _
  obtain ⟨r1, r2, r3, r4, r5⟩ := hR
  obtain ⟨m', g1, g2, g3, g4⟩ := key 6 0 m (by omega) hX ha r1 r2 r4 (fun j hj => absurd hj (by omega))
  refine ⟨m', ?_, g2, g3, fun z => ?_⟩
  · show Go O (d + 2) kX7_readPerson _ _ 0 [.ref 46, .null, .null, .null] [] m
    refine go_iconst (nI 0) dX7_readPerson_0 (by decide +kernel) ?_
    refine go_istore_n (L' := [_, _, _, _]) dX7_readPerson_1 (by decide) rfl ?_
    exact g1 _ _
  · obtain ⟨k1, k2, k3, k4⟩ := g4 z
    refine ⟨k1, k2, (g2.2.2 14 (by decide)).trans r3, fun p j hp hj => ?_, fun n hn => ?_⟩
    · rw [tx_wH]
      by_cases e : p = P
      · rw [if_pos e, if_pos hj, e]
        exact k4 j hj
      · rw [if_neg e]
        exact k3 p j (by omega) hj
    · rw [g2.2.1 54 (by decide) (by decide), g2.2.1 55 (by decide) (by decide), g2.2.1 56 (by decide) (by decide)]
      exact r5 n hn
theorem c_rdNewsM0 {O : gOm} {d : Nat} {m : gMem} {L at_ : Nat} {x : Nat → Nat} (hX : TxM m L x) (h3 : m.1 46 3 = nI at_) (ha : at_ ≤ L) (h0 : dg x L at_ 10 = none) : Ca O (d + 2) kX7_readNews [.ref 46] (some (.int (nI 0))) m m := by
  have cf := c_figureM (O := O) (d := d) (m := m) (at_ := at_) (k := 9) hX ha h3 (by omega)
  rw [h0] at cf
  dsimp only at cf
  show Go O (d + 2) kX7_readNews _ _ 0 [.ref 46, .null, .null] [] m
  refine go_aload_n dX7_readNews_0 rfl ?_
  refine go_iconst (nI 0) dX7_readNews_1 (by decide +kernel) ?_
  refine go_bipush (nI 9) dX7_readNews_2 (by decide +kernel) ?_
  refine go_callV1 (K' := kX7_figure) [_, _] dX7_readNews_4 mX7_99 lX7_figure rfl (by decide) rfl (by decide) rfl rfl (Nat.le_of_ble_eq_true rfl) (Nat.le_of_ble_eq_true rfl) (cf) ?_
  refine go_istore_n (L' := [_, _, _]) dX7_readNews_7 (by decide) rfl ?_
  refine go_iload_n dX7_readNews_8 rfl ?_
  refine go_bipush (-9) dX7_readNews_9 (by decide +kernel) ?_
  refine go_icmp_ne 19 dX7_readNews_11 (by decide) (fun h => absurd h (fun q => q rfl)) (fun h11 => ?_)
  refine go_bipush (-9) dX7_readNews_14 (by decide +kernel) ?_
  refine go_goto 26 dX7_readNews_16 (by decide) ?_
  refine go_istore_n (L' := [_, _, _]) dX7_readNews_26 (by decide) rfl ?_
  refine go_iload_n dX7_readNews_27 rfl ?_
  refine go_bipush (-9) dX7_readNews_28 (by decide +kernel) ?_
  refine go_icmp_ne 35 dX7_readNews_30 (by decide) (fun h => absurd h (fun q => q rfl)) (fun h30 => ?_)
  refine go_iconst (nI 0) dX7_readNews_33 (by decide +kernel) ?_
  exact go_zret dX7_readNews_34 rfl (by first | exact Or.inl rfl | exact Or.inr rfl) rfl rfl
theorem c_rdNewsM1 {O : gOm} {d : Nat} {m : gMem} {L at_ l : Nat} {x : Nat → Nat} (hX : TxM m L x) (h3 : m.1 46 3 = nI at_) (ha : at_ ≤ L) (h0 : dg x L at_ 10 = some l) (h1 : dg x L (at_ + 1) 10 = none) : Ca O (d + 2) kX7_readNews [.ref 46] (some (.int (nI 0))) m (gup m 46 3 (nI (at_ + 1))) := by
  have cf := c_figureM (O := O) (d := d) (m := m) (at_ := at_) (k := 9) hX ha h3 (by omega)
  have d0 := dg_s h0
  have cg := c_figureM (O := O) (d := d) (m := gup m 46 3 (nI (at_ + 1))) (at_ := at_ + 1) (k := 9) (hX.of rfl rfl) d0.1 (gup_s _ _ _ _) (by omega)
  rw [h0] at cf
  rw [h1] at cg
  dsimp only at cf cg
  show Go O (d + 2) kX7_readNews _ _ 0 [.ref 46, .null, .null] [] m
  refine go_aload_n dX7_readNews_0 rfl ?_
  refine go_iconst (nI 0) dX7_readNews_1 (by decide +kernel) ?_
  refine go_bipush (nI 9) dX7_readNews_2 (by decide +kernel) ?_
  refine go_callV1 (K' := kX7_figure) [_, _] dX7_readNews_4 mX7_99 lX7_figure rfl (by decide) rfl (by decide) rfl rfl (Nat.le_of_ble_eq_true rfl) (Nat.le_of_ble_eq_true rfl) (cf) ?_
  refine go_istore_n (L' := [_, _, _]) dX7_readNews_7 (by decide) rfl ?_
  refine go_iload_n dX7_readNews_8 rfl ?_
  refine go_bipush (-9) dX7_readNews_9 (by decide +kernel) ?_
  refine go_icmp_ne 19 dX7_readNews_11 (by decide) (fun h11 => ?_) (fun h => absurd h (nI_n9 (by omega)))
  refine go_aload_n dX7_readNews_19 rfl ?_
  refine go_iconst (nI 0) dX7_readNews_20 (by decide +kernel) ?_
  refine go_bipush (nI 9) dX7_readNews_21 (by decide +kernel) ?_
  refine go_callV1 (K' := kX7_figure) [_, _] dX7_readNews_23 mX7_99 lX7_figure rfl (by decide) rfl (by decide) rfl rfl (Nat.le_of_ble_eq_true rfl) (Nat.le_of_ble_eq_true rfl) (cg) ?_
  refine go_istore_n (L' := [_, _, _]) dX7_readNews_26 (by decide) rfl ?_
  refine go_iload_n dX7_readNews_27 rfl ?_
  refine go_bipush (-9) dX7_readNews_28 (by decide +kernel) ?_
  refine go_icmp_ne 35 dX7_readNews_30 (by decide) (fun h => absurd h (fun q => q rfl)) (fun h30 => ?_)
  refine go_iconst (nI 0) dX7_readNews_33 (by decide +kernel) ?_
  exact go_zret dX7_readNews_34 rfl (by first | exact Or.inl rfl | exact Or.inr rfl) rfl rfl
def tx_nM (m : gMem) (at_ N l o : Nat) : gMem := gup (gup (gup (gup (gup (gup m 46 3 (nI (at_ + 1))) 46 3 (nI (at_ + 1 + 1))) 54 N (nI l)) 55 N (nI o)) 56 N (nI 0)) 46 14 (nI (N + 1))
theorem c_rdNewsM2 {O : gOm} {d : Nat} {m : gMem} {L at_ l o N : Nat} {x : Nat → Nat} (hX : TxM m L x) (h3 : m.1 46 3 = nI at_) (ha : at_ ≤ L) (hN : m.1 46 14 = nI N) (hN3 : N < 3) (h0 : dg x L at_ 10 = some l) (h1 : dg x L (at_ + 1) 10 = some o) : Ca O (d + 2) kX7_readNews [.ref 46] (some (.int (nI 1))) m (tx_nM m at_ N l o) := by
  have cf := c_figureM (O := O) (d := d) (m := m) (at_ := at_) (k := 9) hX ha h3 (by omega)
  have d0 := dg_s h0
  have d1 := dg_s h1
  have cg := c_figureM (O := O) (d := d) (m := gup m 46 3 (nI (at_ + 1))) (at_ := at_ + 1) (k := 9) (hX.of rfl rfl) d0.1 (gup_s _ _ _ _) (by omega)
  rw [h0] at cf
  rw [h1] at cg
  dsimp only at cf cg
  show Go O (d + 2) kX7_readNews _ _ 0 [.ref 46, .null, .null] [] m
  refine go_aload_n dX7_readNews_0 rfl ?_
  refine go_iconst (nI 0) dX7_readNews_1 (by decide +kernel) ?_
  refine go_bipush (nI 9) dX7_readNews_2 (by decide +kernel) ?_
  refine go_callV1 (K' := kX7_figure) [_, _] dX7_readNews_4 mX7_99 lX7_figure rfl (by decide) rfl (by decide) rfl rfl (Nat.le_of_ble_eq_true rfl) (Nat.le_of_ble_eq_true rfl) (cf) ?_
  refine go_istore_n (L' := [_, _, _]) dX7_readNews_7 (by decide) rfl ?_
  refine go_iload_n dX7_readNews_8 rfl ?_
  refine go_bipush (-9) dX7_readNews_9 (by decide +kernel) ?_
  refine go_icmp_ne 19 dX7_readNews_11 (by decide) (fun h11 => ?_) (fun h => absurd h (nI_n9 (by omega)))
  refine go_aload_n dX7_readNews_19 rfl ?_
  refine go_iconst (nI 0) dX7_readNews_20 (by decide +kernel) ?_
  refine go_bipush (nI 9) dX7_readNews_21 (by decide +kernel) ?_
  refine go_callV1 (K' := kX7_figure) [_, _] dX7_readNews_23 mX7_99 lX7_figure rfl (by decide) rfl (by decide) rfl rfl (Nat.le_of_ble_eq_true rfl) (Nat.le_of_ble_eq_true rfl) (cg) ?_
  refine go_istore_n (L' := [_, _, _]) dX7_readNews_26 (by decide) rfl ?_
  refine go_iload_n dX7_readNews_27 rfl ?_
  refine go_bipush (-9) dX7_readNews_28 (by decide +kernel) ?_
  refine go_icmp_ne 35 dX7_readNews_30 (by decide) (fun h30 => ?_) (fun h => absurd h (nI_n9 (by omega)))
  refine go_aload_n dX7_readNews_35 rfl ?_
  refine go_getc dX7_readNews_36 fX7_31 rfl (by decide) (by decide) (by decide) rfl ?_
  refine go_aload_n dX7_readNews_39 rfl ?_
  refine go_geti dX7_readNews_40 fX7_106 rfl (by decide) (by decide) (by decide) rfl hN ?_
  refine go_iload_n dX7_readNews_43 rfl ?_
  refine go_iast dX7_readNews_44 rfl (by decide) rfl (by omega) (by decide) ?_
  refine go_aload_n dX7_readNews_45 rfl ?_
  refine go_getc dX7_readNews_46 fX7_34 rfl (by decide) (by decide) (by decide) rfl ?_
  refine go_aload_n dX7_readNews_49 rfl ?_
  refine go_geti dX7_readNews_50 fX7_106 rfl (by decide) (by decide) (by decide) rfl hN ?_
  refine go_iload_n dX7_readNews_53 rfl ?_
  refine go_iast dX7_readNews_54 rfl (by decide) rfl (by omega) (by decide) ?_
  refine go_aload_n dX7_readNews_55 rfl ?_
  refine go_getc dX7_readNews_56 fX7_37 rfl (by decide) (by decide) (by decide) rfl ?_
  refine go_aload_n dX7_readNews_59 rfl ?_
  refine go_geti dX7_readNews_60 fX7_106 rfl (by decide) (by decide) (by decide) rfl hN ?_
  refine go_iconst (nI 0) dX7_readNews_63 (by decide +kernel) ?_
  refine go_iast dX7_readNews_64 rfl (by decide) rfl (by omega) (by decide) ?_
  refine go_aload_n dX7_readNews_65 rfl ?_
  refine go_dup dX7_readNews_66 rfl ?_
  refine go_geti dX7_readNews_67 fX7_106 rfl (by decide) (by decide) (by decide) rfl hN ?_
  refine go_iconst (nI 1) dX7_readNews_70 (by decide +kernel) ?_
  first | refine go_iadd_n dX7_readNews_71 ?_ | refine go_iadd dX7_readNews_71 rfl ?_
  refine go_puti dX7_readNews_72 fX7_106 rfl (by decide) (by decide) (by decide) rfl (fun _ _ _ h => by cases h; rfl) (Or.inl rfl) ?_
  refine go_iconst (nI 1) dX7_readNews_75 (by decide +kernel) ?_
  exact go_zret dX7_readNews_76 rfl (by first | exact Or.inl rfl | exact Or.inr rfl) rfl rfl
def tx_kM (m : gMem) (at_ N k p : Nat) : gMem := gup (gup m 56 N (nI (k ||| 2 ^ p))) 46 3 (nI (at_ + 1))
theorem c_rdKnowsT {O : gOm} {d : Nat} {m : gMem} {L P N at_ k p : Nat} {x : Nat → Nat} (hX : TxM m L x) (h3 : m.1 46 3 = nI at_) (hP : m.1 46 13 = nI P) (hP6 : P ≤ 6) (hN : m.1 46 14 = nI (N + 1)) (hN3 : N < 3) (hk : m.1 56 N = nI k) (hk6 : k < 64) (hd : dg x L at_ P = some p) (hb : ¬ k.testBit p = true) : Ca O (d + 1) kX7_readKnows [.ref 46, .int (nI (x at_))] (some (.int (nI 1))) m (tx_kM m at_ N k p) := by
  obtain ⟨d1, d2, d3⟩ := dg_s hd
  have ei := in_kn (c := x at_) (P := P) (by omega) hP6
  rw [decide_eq_true (show 48 ≤ x at_ ∧ x at_ < 48 + P by omega)] at ei
  have e48 : nI (x at_) - nI 48 = nI p := by rw [pk_sub (by omega)]; exact congrArg nI (by omega)
  rw [e48] at ei
  have ch := c_has (O := O) (d := d) (m := m) (a := k) (k := p) (by omega) (by omega)
  have eN : nI (N + 1) - nI 1 = nI N := by rw [pk_sub (by omega)]; rfl
  have ev : nI k ||| (nI 1 <<< (nI p &&& 31)) = nI (k ||| 2 ^ p) := by rw [nb_one (by omega), nb_or]
  show Go O (d + 1) kX7_readKnows _ _ 0 [.ref 46, .int (nI (x at_)), .null] [] m
  refine go_iload_n dX7_readKnows_0 rfl ?_
  refine go_bipush (nI 48) dX7_readKnows_1 (by decide +kernel) ?_
  refine go_isub dX7_readKnows_3 e48 ?_
  refine go_istore_n (L' := [_, _, _]) dX7_readKnows_4 (by decide) rfl ?_
  refine go_aload_n dX7_readKnows_5 rfl ?_
  refine go_geti dX7_readKnows_6 fX7_106 rfl (by decide) (by decide) (by decide) rfl hN ?_
  refine go_if_eq 46 dX7_readKnows_9 (by decide) (fun h => absurd h (fun q => absurd ((nI_eq (b := 0) (by omega) (by omega)).mp q) (by omega))) (fun h9 => ?_)
  refine go_iload_n dX7_readKnows_12 rfl ?_
  refine go_i2l dX7_readKnows_13 rfl ?_
  refine go_lconst 0 dX7_readKnows_14 (by decide +kernel) ?_
  refine go_aload_n dX7_readKnows_15 rfl ?_
  refine go_geti dX7_readKnows_16 fX7_103 rfl (by decide) (by decide) (by decide) rfl hP ?_
  refine go_iconst (nI 1) dX7_readKnows_19 (by decide +kernel) ?_
  refine go_isub dX7_readKnows_20 rfl ?_
  refine go_i2l dX7_readKnows_21 rfl ?_
  refine go_callS1 (K' := kX7_in) [_, _, _] dX7_readKnows_22 mX7_84 lX7_in rfl rfl (Nat.le_of_ble_eq_true rfl) (Nat.le_of_ble_eq_true rfl) (c_in) ?_
  refine go_if_eq 46 dX7_readKnows_25 (by decide) (fun h => absurd h (bI_n0.mpr ei)) (fun h25 => ?_)
  refine go_aload_n dX7_readKnows_28 rfl ?_
  refine go_getc dX7_readKnows_29 fX7_37 rfl (by decide) (by decide) (by decide) rfl ?_
  refine go_aload_n dX7_readKnows_32 rfl ?_
  refine go_geti dX7_readKnows_33 fX7_106 rfl (by decide) (by decide) (by decide) rfl hN ?_
  refine go_iconst (nI 1) dX7_readKnows_36 (by decide +kernel) ?_
  refine go_isub dX7_readKnows_37 eN ?_
  refine go_iald dX7_readKnows_38 rfl (by decide) rfl (by omega) (by decide) hk ?_
  refine go_iload_n dX7_readKnows_39 rfl ?_
  refine go_callS1 (K' := kX7_has) [_, _] dX7_readKnows_40 mX7_109 lX7_has rfl rfl (Nat.le_of_ble_eq_true rfl) (Nat.le_of_ble_eq_true rfl) (ch) ?_
  refine go_if_eq 48 dX7_readKnows_43 (by decide) (fun h43 => ?_) (fun h => absurd (bI_0.mpr (by simpa using hb)) h)
  refine go_aload_n dX7_readKnows_48 rfl ?_
  refine go_getc dX7_readKnows_49 fX7_37 rfl (by decide) (by decide) (by decide) rfl ?_
  refine go_aload_n dX7_readKnows_52 rfl ?_
  refine go_geti dX7_readKnows_53 fX7_106 rfl (by decide) (by decide) (by decide) rfl hN ?_
  refine go_iconst (nI 1) dX7_readKnows_56 (by decide +kernel) ?_
  refine go_isub dX7_readKnows_57 eN ?_
  refine go_dup2 dX7_readKnows_58 rfl rfl ?_
  refine go_iald dX7_readKnows_59 rfl (by decide) rfl (by omega) (by decide) hk ?_
  refine go_iconst (nI 1) dX7_readKnows_60 (by decide +kernel) ?_
  refine go_iload_n dX7_readKnows_61 rfl ?_
  refine go_ishl dX7_readKnows_62 rfl ?_
  refine go_ior dX7_readKnows_63 ev ?_
  refine go_iast dX7_readKnows_64 rfl (by decide) rfl (by omega) (by decide) ?_
  refine go_aload_n dX7_readKnows_65 rfl ?_
  refine go_dup dX7_readKnows_66 rfl ?_
  refine go_geti dX7_readKnows_67 fX7_96 rfl (by decide) (by decide) (by decide) rfl h3 ?_
  refine go_iconst (nI 1) dX7_readKnows_70 (by decide +kernel) ?_
  first | refine go_iadd_n dX7_readKnows_71 ?_ | refine go_iadd dX7_readKnows_71 rfl ?_
  refine go_puti dX7_readKnows_72 fX7_96 rfl (by decide) (by decide) (by decide) rfl (fun _ _ _ h => by cases h; rfl) (Or.inl rfl) ?_
  refine go_iconst (nI 1) dX7_readKnows_75 (by decide +kernel) ?_
  exact go_zret dX7_readKnows_76 rfl (by first | exact Or.inl rfl | exact Or.inr rfl) rfl rfl
theorem c_rdKnowsF {O : gOm} {d : Nat} {m : gMem} {L P N at_ k : Nat} {x : Nat → Nat} (hX : TxM m L x) (hl : at_ < L) (hP : m.1 46 13 = nI P) (hP6 : P ≤ 6) (hN : m.1 46 14 = nI (N + 1)) (hN3 : N < 3) (hk : m.1 56 N = nI k) (hk6 : k < 64) (hx : ∀ p, dg x L at_ P = some p → k.testBit p = true) : Ca O (d + 1) kX7_readKnows [.ref 46, .int (nI (x at_))] (some (.int (nI 0))) m m := by
  have hb := (hX.2.2 _ hl).1
  have ei := in_kn (c := x at_) (P := P) hb hP6
  have eN : nI (N + 1) - nI 1 = nI N := by rw [pk_sub (by omega)]; rfl
  show Go O (d + 1) kX7_readKnows _ _ 0 [.ref 46, .int (nI (x at_)), .null] [] m
  by_cases hd : 48 ≤ x at_ ∧ x at_ < 48 + P
  · have hq := hx (x at_ - 48) (by rw [dg, if_pos ⟨hl, hd⟩])
    rw [decide_eq_true hd] at ei
    have e48 : nI (x at_) - nI 48 = nI (x at_ - 48) := pk_sub hd.1
    rw [e48] at ei
    have ch := c_has (O := O) (d := d) (m := m) (a := k) (k := x at_ - 48) (by omega) (by omega)
    refine go_iload_n dX7_readKnows_0 rfl ?_
    refine go_bipush (nI 48) dX7_readKnows_1 (by decide +kernel) ?_
    refine go_isub dX7_readKnows_3 e48 ?_
    refine go_istore_n (L' := [_, _, _]) dX7_readKnows_4 (by decide) rfl ?_
    refine go_aload_n dX7_readKnows_5 rfl ?_
    refine go_geti dX7_readKnows_6 fX7_106 rfl (by decide) (by decide) (by decide) rfl hN ?_
    refine go_if_eq 46 dX7_readKnows_9 (by decide) (fun h => absurd h (fun q => absurd ((nI_eq (b := 0) (by omega) (by omega)).mp q) (by omega))) (fun h9 => ?_)
    refine go_iload_n dX7_readKnows_12 rfl ?_
    refine go_i2l dX7_readKnows_13 rfl ?_
    refine go_lconst 0 dX7_readKnows_14 (by decide +kernel) ?_
    refine go_aload_n dX7_readKnows_15 rfl ?_
    refine go_geti dX7_readKnows_16 fX7_103 rfl (by decide) (by decide) (by decide) rfl hP ?_
    refine go_iconst (nI 1) dX7_readKnows_19 (by decide +kernel) ?_
    refine go_isub dX7_readKnows_20 rfl ?_
    refine go_i2l dX7_readKnows_21 rfl ?_
    refine go_callS1 (K' := kX7_in) [_, _, _] dX7_readKnows_22 mX7_84 lX7_in rfl rfl (Nat.le_of_ble_eq_true rfl) (Nat.le_of_ble_eq_true rfl) (c_in) ?_
    refine go_if_eq 46 dX7_readKnows_25 (by decide) (fun h => absurd h (bI_n0.mpr ei)) (fun h25 => ?_)
    refine go_aload_n dX7_readKnows_28 rfl ?_
    refine go_getc dX7_readKnows_29 fX7_37 rfl (by decide) (by decide) (by decide) rfl ?_
    refine go_aload_n dX7_readKnows_32 rfl ?_
    refine go_geti dX7_readKnows_33 fX7_106 rfl (by decide) (by decide) (by decide) rfl hN ?_
    refine go_iconst (nI 1) dX7_readKnows_36 (by decide +kernel) ?_
    refine go_isub dX7_readKnows_37 eN ?_
    refine go_iald dX7_readKnows_38 rfl (by decide) rfl (by omega) (by decide) hk ?_
    refine go_iload_n dX7_readKnows_39 rfl ?_
    refine go_callS1 (K' := kX7_has) [_, _] dX7_readKnows_40 mX7_109 lX7_has rfl rfl (Nat.le_of_ble_eq_true rfl) (Nat.le_of_ble_eq_true rfl) (ch) ?_
    refine go_if_eq 48 dX7_readKnows_43 (by decide) (fun h => absurd h (bI_n0.mpr hq)) (fun h43 => ?_)
    refine go_iconst (nI 0) dX7_readKnows_46 (by decide +kernel) ?_
    exact go_zret dX7_readKnows_47 rfl (by first | exact Or.inl rfl | exact Or.inr rfl) rfl rfl
  · rw [decide_eq_false hd] at ei
    refine go_iload_n dX7_readKnows_0 rfl ?_
    refine go_bipush (nI 48) dX7_readKnows_1 (by decide +kernel) ?_
    refine go_isub dX7_readKnows_3 rfl ?_
    refine go_istore_n (L' := [_, _, _]) dX7_readKnows_4 (by decide) rfl ?_
    refine go_aload_n dX7_readKnows_5 rfl ?_
    refine go_geti dX7_readKnows_6 fX7_106 rfl (by decide) (by decide) (by decide) rfl hN ?_
    refine go_if_eq 46 dX7_readKnows_9 (by decide) (fun h => absurd h (fun q => absurd ((nI_eq (b := 0) (by omega) (by omega)).mp q) (by omega))) (fun h9 => ?_)
    refine go_iload_n dX7_readKnows_12 rfl ?_
    refine go_i2l dX7_readKnows_13 rfl ?_
    refine go_lconst 0 dX7_readKnows_14 (by decide +kernel) ?_
    refine go_aload_n dX7_readKnows_15 rfl ?_
    refine go_geti dX7_readKnows_16 fX7_103 rfl (by decide) (by decide) (by decide) rfl hP ?_
    refine go_iconst (nI 1) dX7_readKnows_19 (by decide +kernel) ?_
    refine go_isub dX7_readKnows_20 rfl ?_
    refine go_i2l dX7_readKnows_21 rfl ?_
    refine go_callS1 (K' := kX7_in) [_, _, _] dX7_readKnows_22 mX7_84 lX7_in rfl rfl (Nat.le_of_ble_eq_true rfl) (Nat.le_of_ble_eq_true rfl) (c_in) ?_
    refine go_if_eq 46 dX7_readKnows_25 (by decide) (fun h25 => ?_) (fun h => absurd (bI_0.mpr ei) h)
    refine go_iconst (nI 0) dX7_readKnows_46 (by decide +kernel) ?_
    exact go_zret dX7_readKnows_47 rfl (by first | exact Or.inl rfl | exact Or.inr rfl) rfl rfl
