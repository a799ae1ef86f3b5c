/-! READING A TEXT: the reference, from part to part -/
theorem tx_RC.at {m : gMem} {at_ P N a : Nat} {w : Nat → Nat → Option Nat} {li wo fi : Nat → Nat} (h : tx_RC m at_ P N w li wo fi) : tx_RC (gup m 46 3 (nI a)) a P N w li wo fi := ⟨rfl, h.2.1, h.2.2.1, h.2.2.2.1, h.2.2.2.2⟩
theorem tx_RC.kn {m : gMem} {at_ P N k p : Nat} {w : Nat → Nat → Option Nat} {li wo fi : Nat → Nat} (h : tx_RC m at_ P (N + 1) w li wo (tx_uN fi N k)) : tx_RC (tx_kM m at_ N k p) (at_ + 1) P (N + 1) w li wo (tx_uN fi N (k ||| 2 ^ p)) := by
  obtain ⟨r1, r2, r3, r4, r5⟩ := h
  refine ⟨gup_s _ _ _ _, r2, r3, r4, fun n hn => ⟨(r5 n hn).1, (r5 n hn).2.1, ?_⟩⟩
  unfold tx_kM
  rw [gup_k _ _ (by decide), gup_if, tx_uN]
  by_cases e : n = N
  · rw [if_pos e, if_pos e]
  · rw [if_neg e, if_neg e, (r5 n hn).2.2, tx_uN, if_neg e]
theorem tx_RC.nw {m : gMem} {at_ P N l o : Nat} {w : Nat → Nat → Option Nat} {li wo fi : Nat → Nat} (h : tx_RC m at_ P N w li wo fi) : tx_RC (tx_nM m at_ N l o) (at_ + 1 + 1) P (N + 1) w (tx_uN li N l) (tx_uN wo N o) (tx_uN fi N 0) := by
  obtain ⟨r1, r2, r3, r4, r5⟩ := h
  refine ⟨rfl, r2, gup_s _ _ _ _, r4, fun n hn => ⟨?_, ?_, ?_⟩⟩
  · unfold tx_nM
    rw [gup_k _ _ (by decide), gup_k _ _ (by decide), gup_k _ _ (by decide), gup_if, tx_uN]
    by_cases e : n = N
    · rw [if_pos e, if_pos e]
    · rw [if_neg e, if_neg e, gup_k _ _ (by decide), gup_k _ _ (by decide), (r5 n (by omega)).1]
  · unfold tx_nM
    rw [gup_k _ _ (by decide), gup_k _ _ (by decide), gup_if, tx_uN]
    by_cases e : n = N
    · rw [if_pos e, if_pos e]
    · rw [if_neg e, if_neg e, gup_k _ _ (by decide), gup_k _ _ (by decide), gup_k _ _ (by decide), (r5 n (by omega)).2.1]
  · unfold tx_nM
    rw [gup_k _ _ (by decide), gup_if, tx_uN]
    by_cases e : n = N
    · rw [if_pos e, if_pos e]
    · rw [if_neg e, if_neg e, gup_k _ _ (by decide), gup_k _ _ (by decide), gup_k _ _ (by decide), gup_k _ _ (by decide), (r5 n (by omega)).2.2]
abbrev tx_FM (m m' : gMem) : Prop := FrM [53, 54, 55, 56] [3, 13, 14] m m'
def tx_Rn (O : gOm) (d L : Nat) (op : Bool) (res : Nat ⊕ tx_S) (m : gMem) : Prop := ∃ m', (∀ z2 z3, Go O (d + 3) kX7_readDay (some (.int (tx_A res))) m' 63 [.ref 46, .int (bI op), z2, z3] [] m) ∧ tx_FM m m' ∧ ∀ P' N' w' li' wo' fi', res = .inr (P', N', w', li', wo', fi') → tx_RC m' L P' N' w' li' wo' fi'

theorem tx_knows {O : gOm} {d L P N : Nat} {x : Nat → Nat} {w : Nat → Nat → Option Nat} {li wo fi : Nat → Nat} {res : Nat ⊕ tx_S} (hP : P ≤ 6) (hN : N < 3) : ∀ n at_ k (m : gMem), at_ ≤ L → k < 64 → TxM m L x → tx_RC m at_ P (N + 1) w li wo (tx_uN fi N k) → (∀ m1, TxM m1 L x → tx_RC m1 (tx_kr x L P n at_ k).1 P (N + 1) w li wo (tx_uN fi N (tx_kr x L P n at_ k).2) → tx_Rn O d L true res m1) → tx_Rn O d L true res m := by
  intro n
  induction n with
  | zero =>
    intro at_ k m ha hk hX hR H
    exact H m hX hR
  | succ n ih =>
    intro at_ k m ha hk hX hR H
    cases hd : dg x L at_ P with
    | none =>
      rw [tx_kr_n hd] at H
      exact H m hX hR
    | some p =>
      by_cases hb : k.testBit p = true
      · rw [tx_kr_t hd hb] at H
        exact H m hX hR
      · rw [tx_kr_s hd hb] at H
        obtain ⟨d1, d2, d3⟩ := dg_s hd
        obtain ⟨m', g1, g2, g3⟩ := ih (at_ + 1) (k ||| 2 ^ p) (tx_kM m at_ N k p) d1 (or_lt64 hk (tx_p64 p (by omega))) (hX.of rfl rfl) hR.kn H
        refine ⟨m', fun z2 z3 => ?_, FrM.tr (((FrM.rf _ _ _).a (by decide) (by decide) _ _).f (by decide) _) g2, g3⟩
        obtain ⟨r1, r2, r3, r4, r5⟩ := hR
        have e56 : m.1 56 N = nI k := by rw [(r5 N (by omega)).2.2, tx_uN, if_pos rfl]
        have ck := c_rdKnowsT (O := O) (d := d + 1) hX r1 r2 hP r3 hN e56 hk hd hb
        obtain ⟨x1, x2, x3⟩ := hX
        obtain ⟨b1, b2⟩ := x3 _ d1
        refine go_aload_n dX7_readDay_63 rfl ?_
        refine go_geti dX7_readDay_64 fX7_96 rfl (by decide) (by decide) (by decide) rfl r1 ?_
        refine go_aload_n dX7_readDay_67 rfl ?_
        refine go_geti dX7_readDay_68 fX7_93 rfl (by decide) (by decide) (by decide) rfl x2 ?_
        refine go_icmp_ge 185 dX7_readDay_71 (by decide) (fun h => absurd h (nI_ge (by omega) (by omega))) (fun h71 => ?_)
        refine go_aload_n dX7_readDay_74 rfl ?_
        refine go_getc dX7_readDay_75 fX7_7 rfl (by decide) (by decide) (by decide) rfl ?_
        refine go_aload_n dX7_readDay_78 rfl ?_
        refine go_geti dX7_readDay_79 fX7_96 rfl (by decide) (by decide) (by decide) rfl r1 ?_
        refine go_iald dX7_readDay_82 rfl (by decide) rfl (by omega) (by decide) b2 ?_
        refine go_istore_n (L' := [_, _, _, _]) dX7_readDay_83 (by decide) rfl ?_
        refine go_iconst (nI 0) dX7_readDay_84 (by decide +kernel) ?_
        refine go_istore_n (L' := [_, _, _, _]) dX7_readDay_85 (by decide) rfl ?_
        refine go_iload_n dX7_readDay_86 rfl ?_
        refine go_bipush (nI 80) dX7_readDay_87 (by decide +kernel) ?_
        refine go_icmp_ne 121 dX7_readDay_89 (by decide) (fun h89 => ?_) (fun h => absurd h (fun q => absurd ((nI_eq (by omega) (by omega)).mp q) (by omega)))
        refine go_iload_n dX7_readDay_121 rfl ?_
        refine go_bipush (nI 78) dX7_readDay_122 (by decide +kernel) ?_
        refine go_icmp_ne 155 dX7_readDay_124 (by decide) (fun h124 => ?_) (fun h => absurd h (fun q => absurd ((nI_eq (by omega) (by omega)).mp q) (by omega)))
        refine go_iload_n dX7_readDay_155 rfl ?_
        refine go_if_eq 171 dX7_readDay_156 (by decide) (fun h => absurd h (by decide +kernel)) (fun h156 => ?_)
        refine go_aload_n dX7_readDay_159 rfl ?_
        refine go_iload_n dX7_readDay_160 rfl ?_
        refine go_callV1 (K' := kX7_readKnows) [_] dX7_readDay_161 mX7_122 lX7_readKnows rfl (by decide) rfl (by decide) rfl rfl (Nat.le_of_ble_eq_true rfl) (Nat.le_of_ble_eq_true rfl) (ck) ?_
        refine go_if_eq 171 dX7_readDay_164 (by decide) (fun h => absurd h (by decide +kernel)) (fun h164 => ?_)
        refine go_iconst (nI 1) dX7_readDay_167 (by decide +kernel) ?_
        refine go_goto 172 dX7_readDay_168 (by decide) ?_
        refine go_istore_n (L' := [_, _, _, _]) dX7_readDay_172 (by decide) rfl ?_
        refine go_iload_n dX7_readDay_173 rfl ?_
        refine go_if_ne 182 dX7_readDay_174 (by decide) (fun h174 => ?_) (fun h => absurd h (by decide +kernel))
        refine go_goto 63 dX7_readDay_182 (by decide) ?_
        exact g1 _ _
theorem tx_loopM {O : gOm} {d L : Nat} {x : Nat → Nat} : ∀ f at_ (op : Bool) (m : gMem) P N (w : Nat → Nat → Option Nat) (li wo fi : Nat → Nat), at_ ≤ L → L ≤ at_ + f → TxM m L x → tx_RC m at_ P N w li wo fi → tx_Ok P N w li fi → (op = true → ∃ N1, N = N1 + 1 ∧ ∀ p, dg x L at_ P = some p → (fi N1).testBit p = true) → tx_Rn O d L op (tx_prs x L f at_ P N w li wo fi) m := by
  intro f
  have fin : ∀ f at_ (op : Bool) (m : gMem) P N (w : Nat → Nat → Option Nat) (li wo fi : Nat → Nat), at_ ≤ L → ¬ at_ < L → TxM m L x → tx_RC m at_ P N w li wo fi → tx_Rn O d L op (tx_prs x L f at_ P N w li wo fi) m := by
    intro f at_ op m P N w li wo fi ha hl hX hR
    obtain rfl : at_ = L := by omega
    rw [tx_end hl]
    refine ⟨m, fun z2 z3 => ?_, FrM.rf _ _ _, fun P' N' w' li' wo' fi' z => ?_⟩
    · obtain ⟨r1, r2, r3, r4, r5⟩ := hR
      obtain ⟨x1, x2, x3⟩ := hX
      refine go_aload_n dX7_readDay_63 rfl ?_
      refine go_geti dX7_readDay_64 fX7_96 rfl (by decide) (by decide) (by decide) rfl r1 ?_
      refine go_aload_n dX7_readDay_67 rfl ?_
      refine go_geti dX7_readDay_68 fX7_93 rfl (by decide) (by decide) (by decide) rfl x2 ?_
      refine go_icmp_ge 185 dX7_readDay_71 (by decide) (fun h71 => ?_) (fun h => absurd (nI_le (by omega) (by omega)) h)
      refine go_bipush (-9) dX7_readDay_185 (by decide +kernel) ?_
      exact go_iret dX7_readDay_187 rfl rfl rfl
    · cases z
      exact hR
  induction f with
  | zero =>
    intro at_ op m P N w li wo fi ha hf hX hR hk hop
    exact fin _ _ _ _ _ _ _ _ _ _ ha (by omega) hX hR
  | succ f ih =>
    intro at_ op m P N w li wo fi ha hf hX hR hk hop
    by_cases hl : at_ < L
    · have hR0 := hR
      have hX0 := hX
      obtain ⟨r1, r2, r3, r4, r5⟩ := hR
      obtain ⟨x1, x2, x3⟩ := hX
      obtain ⟨b1, b2⟩ := x3 _ hl
      have hX1 : TxM (gup m 46 3 (nI (at_ + 1))) L x := hX0.of rfl rfl
      by_cases h1 : x at_ = 80 ∧ P < 6
      · obtain ⟨m1, c1, f1, e1, e2⟩ := c_rdPersonM (O := O) (d := d) hX1 (hR0.at (a := at_ + 1)) hl h1.2
        have f2 : tx_FM m m1 := FrM.tr ((FrM.rf _ _ _).f (by decide) _) (f1.mono (by decide) (by decide))
        cases hr : tx_rp x L 6 (at_ + 1) with
        | some q =>
          rw [hr] at c1
          dsimp only at c1
          have eq := e1 q hr
          rw [tx_P0 hl h1 hr]
          refine ⟨m1, fun z2 z3 => ?_, f2, fun _ _ _ _ _ _ z => by cases z⟩
          refine go_aload_n dX7_readDay_63 rfl ?_
          refine go_geti dX7_readDay_64 fX7_96 rfl (by decide) (by decide) (by decide) rfl r1 ?_
          refine go_aload_n dX7_readDay_67 rfl ?_
          refine go_geti dX7_readDay_68 fX7_93 rfl (by decide) (by decide) (by decide) rfl x2 ?_
          refine go_icmp_ge 185 dX7_readDay_71 (by decide) (fun h => absurd h (nI_ge (by omega) (by omega))) (fun h71 => ?_)
          refine go_aload_n dX7_readDay_74 rfl ?_
          refine go_getc dX7_readDay_75 fX7_7 rfl (by decide) (by decide) (by decide) rfl ?_
          refine go_aload_n dX7_readDay_78 rfl ?_
          refine go_geti dX7_readDay_79 fX7_96 rfl (by decide) (by decide) (by decide) rfl r1 ?_
          refine go_iald dX7_readDay_82 rfl (by decide) rfl (by omega) (by decide) b2 ?_
          refine go_istore_n (L' := [_, _, _, _]) dX7_readDay_83 (by decide) rfl ?_
          refine go_iconst (nI 0) dX7_readDay_84 (by decide +kernel) ?_
          refine go_istore_n (L' := [_, _, _, _]) dX7_readDay_85 (by decide) rfl ?_
          refine go_iload_n dX7_readDay_86 rfl ?_
          refine go_bipush (nI 80) dX7_readDay_87 (by decide +kernel) ?_
          refine go_icmp_ne 121 dX7_readDay_89 (by decide) (fun h => absurd h (fun q => q (congrArg nI h1.1))) (fun h89 => ?_)
          refine go_aload_n dX7_readDay_92 rfl ?_
          refine go_geti dX7_readDay_93 fX7_103 rfl (by decide) (by decide) (by decide) rfl r2 ?_
          refine go_bipush (nI 6) dX7_readDay_96 (by decide +kernel) ?_
          refine go_icmp_ge 121 dX7_readDay_98 (by decide) (fun h => absurd h (nI_ge (by omega) (by omega))) (fun h98 => ?_)
          refine go_aload_n dX7_readDay_101 rfl ?_
          refine go_dup dX7_readDay_102 rfl ?_
          refine go_geti dX7_readDay_103 fX7_96 rfl (by decide) (by decide) (by decide) rfl r1 ?_
          refine go_iconst (nI 1) dX7_readDay_106 (by decide +kernel) ?_
          first | refine go_iadd_n dX7_readDay_107 ?_ | refine go_iadd dX7_readDay_107 rfl ?_
          refine go_puti dX7_readDay_108 fX7_96 rfl (by decide) (by decide) (by decide) rfl (fun _ _ _ h => by cases h; rfl) (Or.inl rfl) ?_
          refine go_iconst (nI 0) dX7_readDay_111 (by decide +kernel) ?_
          refine go_istore_n (L' := [_, _, _, _]) dX7_readDay_112 (by decide) rfl ?_
          refine go_aload_n dX7_readDay_113 rfl ?_
          refine go_callV1 (K' := kX7_readPerson) [] dX7_readDay_114 mX7_116 lX7_readPerson rfl (by decide) rfl (by decide) rfl rfl (Nat.le_of_ble_eq_true rfl) (Nat.le_of_ble_eq_true rfl) (c1) ?_
          refine go_istore_n (L' := [_, _, _, _]) dX7_readDay_117 (by decide) rfl ?_
          refine go_goto 173 dX7_readDay_118 (by decide) ?_
          refine go_iload_n dX7_readDay_173 rfl ?_
          refine go_if_ne 182 dX7_readDay_174 (by decide) (fun h => absurd h (fun q => q rfl)) (fun h174 => ?_)
          refine go_aload_n dX7_readDay_177 rfl ?_
          refine go_geti dX7_readDay_178 fX7_96 rfl (by decide) (by decide) (by decide) rfl eq ?_
          exact go_iret dX7_readDay_181 rfl rfl rfl
        | none =>
          rw [hr] at c1
          dsimp only at c1
          have hle := tx_rp_le 6 (at_ + 1) hl hr
          rw [tx_P1 hl h1 hr]
          obtain ⟨m', g1, g2, g3⟩ := ih (at_ + 7) false m1 (P + 1) N (tx_wH w P (tx_w x L (at_ + 1)) 6) li wo fi (by omega) (by omega) (hX0.fr f2 (by decide) (by decide)) (e2 hr) (hk.P h1.2) (fun z => by cases z)
          refine ⟨m', fun z2 z3 => ?_, f2.tr g2, g3⟩
          refine go_aload_n dX7_readDay_63 rfl ?_
          refine go_geti dX7_readDay_64 fX7_96 rfl (by decide) (by decide) (by decide) rfl r1 ?_
          refine go_aload_n dX7_readDay_67 rfl ?_
          refine go_geti dX7_readDay_68 fX7_93 rfl (by decide) (by decide) (by decide) rfl x2 ?_
          refine go_icmp_ge 185 dX7_readDay_71 (by decide) (fun h => absurd h (nI_ge (by omega) (by omega))) (fun h71 => ?_)
          refine go_aload_n dX7_readDay_74 rfl ?_
          refine go_getc dX7_readDay_75 fX7_7 rfl (by decide) (by decide) (by decide) rfl ?_
          refine go_aload_n dX7_readDay_78 rfl ?_
          refine go_geti dX7_readDay_79 fX7_96 rfl (by decide) (by decide) (by decide) rfl r1 ?_
          refine go_iald dX7_readDay_82 rfl (by decide) rfl (by omega) (by decide) b2 ?_
          refine go_istore_n (L' := [_, _, _, _]) dX7_readDay_83 (by decide) rfl ?_
          refine go_iconst (nI 0) dX7_readDay_84 (by decide +kernel) ?_
          refine go_istore_n (L' := [_, _, _, _]) dX7_readDay_85 (by decide) rfl ?_
          refine go_iload_n dX7_readDay_86 rfl ?_
          refine go_bipush (nI 80) dX7_readDay_87 (by decide +kernel) ?_
          refine go_icmp_ne 121 dX7_readDay_89 (by decide) (fun h => absurd h (fun q => q (congrArg nI h1.1))) (fun h89 => ?_)
          refine go_aload_n dX7_readDay_92 rfl ?_
          refine go_geti dX7_readDay_93 fX7_103 rfl (by decide) (by decide) (by decide) rfl r2 ?_
          refine go_bipush (nI 6) dX7_readDay_96 (by decide +kernel) ?_
          refine go_icmp_ge 121 dX7_readDay_98 (by decide) (fun h => absurd h (nI_ge (by omega) (by omega))) (fun h98 => ?_)
          refine go_aload_n dX7_readDay_101 rfl ?_
          refine go_dup dX7_readDay_102 rfl ?_
          refine go_geti dX7_readDay_103 fX7_96 rfl (by decide) (by decide) (by decide) rfl r1 ?_
          refine go_iconst (nI 1) dX7_readDay_106 (by decide +kernel) ?_
          first | refine go_iadd_n dX7_readDay_107 ?_ | refine go_iadd dX7_readDay_107 rfl ?_
          refine go_puti dX7_readDay_108 fX7_96 rfl (by decide) (by decide) (by decide) rfl (fun _ _ _ h => by cases h; rfl) (Or.inl rfl) ?_
          refine go_iconst (nI 0) dX7_readDay_111 (by decide +kernel) ?_
          refine go_istore_n (L' := [_, _, _, _]) dX7_readDay_112 (by decide) rfl ?_
          refine go_aload_n dX7_readDay_113 rfl ?_
          refine go_callV1 (K' := kX7_readPerson) [] dX7_readDay_114 mX7_116 lX7_readPerson rfl (by decide) rfl (by decide) rfl rfl (Nat.le_of_ble_eq_true rfl) (Nat.le_of_ble_eq_true rfl) (c1) ?_
          refine go_istore_n (L' := [_, _, _, _]) dX7_readDay_117 (by decide) rfl ?_
          refine go_goto 173 dX7_readDay_118 (by decide) ?_
          refine go_iload_n dX7_readDay_173 rfl ?_
          refine go_if_ne 182 dX7_readDay_174 (by decide) (fun h174 => ?_) (fun h => absurd h (by decide +kernel))
          refine go_goto 63 dX7_readDay_182 (by decide) ?_
          exact g1 _ _
      · by_cases h2 : x at_ = 78 ∧ N < 3
        · cases hr : dg x L (at_ + 1) 10 with
          | none =>
            have c1 := c_rdNewsM0 (O := O) (d := d) (m := gup m 46 3 (nI (at_ + 1))) hX1 (gup_s _ _ _ _) hl hr
            rw [tx_N0 hl h1 h2 hr]
            refine ⟨gup m 46 3 (nI (at_ + 1)), fun z2 z3 => ?_, (FrM.rf _ _ _).f (by decide) _, fun _ _ _ _ _ _ z => by cases z⟩
            refine go_aload_n dX7_readDay_63 rfl ?_
            refine go_geti dX7_readDay_64 fX7_96 rfl (by decide) (by decide) (by decide) rfl r1 ?_
            refine go_aload_n dX7_readDay_67 rfl ?_
            refine go_geti dX7_readDay_68 fX7_93 rfl (by decide) (by decide) (by decide) rfl x2 ?_
            refine go_icmp_ge 185 dX7_readDay_71 (by decide) (fun h => absurd h (nI_ge (by omega) (by omega))) (fun h71 => ?_)
            refine go_aload_n dX7_readDay_74 rfl ?_
            refine go_getc dX7_readDay_75 fX7_7 rfl (by decide) (by decide) (by decide) rfl ?_
            refine go_aload_n dX7_readDay_78 rfl ?_
            refine go_geti dX7_readDay_79 fX7_96 rfl (by decide) (by decide) (by decide) rfl r1 ?_
            refine go_iald dX7_readDay_82 rfl (by decide) rfl (by omega) (by decide) b2 ?_
            refine go_istore_n (L' := [_, _, _, _]) dX7_readDay_83 (by decide) rfl ?_
            refine go_iconst (nI 0) dX7_readDay_84 (by decide +kernel) ?_
            refine go_istore_n (L' := [_, _, _, _]) dX7_readDay_85 (by decide) rfl ?_
            refine go_iload_n dX7_readDay_86 rfl ?_
            refine go_bipush (nI 80) dX7_readDay_87 (by decide +kernel) ?_
            refine go_icmp_ne 121 dX7_readDay_89 (by decide) (fun h89 => ?_) (fun h => absurd h (fun q => absurd ((nI_eq (by omega) (by omega)).mp q) (by omega)))
            refine go_iload_n dX7_readDay_121 rfl ?_
            refine go_bipush (nI 78) dX7_readDay_122 (by decide +kernel) ?_
            refine go_icmp_ne 155 dX7_readDay_124 (by decide) (fun h => absurd h (fun q => q (congrArg nI h2.1))) (fun h124 => ?_)
            refine go_aload_n dX7_readDay_127 rfl ?_
            refine go_geti dX7_readDay_128 fX7_106 rfl (by decide) (by decide) (by decide) rfl r3 ?_
            refine go_iconst (nI 3) dX7_readDay_131 (by decide +kernel) ?_
            refine go_icmp_ge 155 dX7_readDay_132 (by decide) (fun h => absurd h (nI_ge (by omega) (by omega))) (fun h132 => ?_)
            refine go_aload_n dX7_readDay_135 rfl ?_
            refine go_dup dX7_readDay_136 rfl ?_
            refine go_geti dX7_readDay_137 fX7_96 rfl (by decide) (by decide) (by decide) rfl r1 ?_
            refine go_iconst (nI 1) dX7_readDay_140 (by decide +kernel) ?_
            first | refine go_iadd_n dX7_readDay_141 ?_ | refine go_iadd dX7_readDay_141 rfl ?_
            refine go_puti dX7_readDay_142 fX7_96 rfl (by decide) (by decide) (by decide) rfl (fun _ _ _ h => by cases h; rfl) (Or.inl rfl) ?_
            refine go_iconst (nI 1) dX7_readDay_145 (by decide +kernel) ?_
            refine go_istore_n (L' := [_, _, _, _]) dX7_readDay_146 (by decide) rfl ?_
            refine go_aload_n dX7_readDay_147 rfl ?_
            refine go_callV1 (K' := kX7_readNews) [] dX7_readDay_148 mX7_120 lX7_readNews rfl (by decide) rfl (by decide) rfl rfl (Nat.le_of_ble_eq_true rfl) (Nat.le_of_ble_eq_true rfl) (c1) ?_
            refine go_istore_n (L' := [_, _, _, _]) dX7_readDay_151 (by decide) rfl ?_
            refine go_goto 173 dX7_readDay_152 (by decide) ?_
            refine go_iload_n dX7_readDay_173 rfl ?_
            refine go_if_ne 182 dX7_readDay_174 (by decide) (fun h => absurd h (fun q => q rfl)) (fun h174 => ?_)
            refine go_aload_n dX7_readDay_177 rfl ?_
            refine go_geti dX7_readDay_178 fX7_96 rfl (by decide) (by decide) (by decide) rfl (gup_s _ _ _ _) ?_
            exact go_iret dX7_readDay_181 rfl rfl rfl
          | some l =>
            have d1 := dg_s hr
            cases hr2 : dg x L (at_ + 2) 10 with
            | none =>
              have c1 := c_rdNewsM1 (O := O) (d := d) (m := gup m 46 3 (nI (at_ + 1))) hX1 (gup_s _ _ _ _) hl hr hr2
              rw [tx_N1 hl h1 h2 hr hr2]
              refine ⟨gup (gup m 46 3 (nI (at_ + 1))) 46 3 (nI (at_ + 1 + 1)), fun z2 z3 => ?_, ((FrM.rf _ _ _).f (by decide) _).f (by decide) _, fun _ _ _ _ _ _ z => by cases z⟩
              refine go_aload_n dX7_readDay_63 rfl ?_
              refine go_geti dX7_readDay_64 fX7_96 rfl (by decide) (by decide) (by decide) rfl r1 ?_
              refine go_aload_n dX7_readDay_67 rfl ?_
              refine go_geti dX7_readDay_68 fX7_93 rfl (by decide) (by decide) (by decide) rfl x2 ?_
              refine go_icmp_ge 185 dX7_readDay_71 (by decide) (fun h => absurd h (nI_ge (by omega) (by omega))) (fun h71 => ?_)
              refine go_aload_n dX7_readDay_74 rfl ?_
              refine go_getc dX7_readDay_75 fX7_7 rfl (by decide) (by decide) (by decide) rfl ?_
              refine go_aload_n dX7_readDay_78 rfl ?_
              refine go_geti dX7_readDay_79 fX7_96 rfl (by decide) (by decide) (by decide) rfl r1 ?_
              refine go_iald dX7_readDay_82 rfl (by decide) rfl (by omega) (by decide) b2 ?_
              refine go_istore_n (L' := [_, _, _, _]) dX7_readDay_83 (by decide) rfl ?_
              refine go_iconst (nI 0) dX7_readDay_84 (by decide +kernel) ?_
              refine go_istore_n (L' := [_, _, _, _]) dX7_readDay_85 (by decide) rfl ?_
              refine go_iload_n dX7_readDay_86 rfl ?_
              refine go_bipush (nI 80) dX7_readDay_87 (by decide +kernel) ?_
              refine go_icmp_ne 121 dX7_readDay_89 (by decide) (fun h89 => ?_) (fun h => absurd h (fun q => absurd ((nI_eq (by omega) (by omega)).mp q) (by omega)))
              refine go_iload_n dX7_readDay_121 rfl ?_
              refine go_bipush (nI 78) dX7_readDay_122 (by decide +kernel) ?_
              refine go_icmp_ne 155 dX7_readDay_124 (by decide) (fun h => absurd h (fun q => q (congrArg nI h2.1))) (fun h124 => ?_)
              refine go_aload_n dX7_readDay_127 rfl ?_
              refine go_geti dX7_readDay_128 fX7_106 rfl (by decide) (by decide) (by decide) rfl r3 ?_
              refine go_iconst (nI 3) dX7_readDay_131 (by decide +kernel) ?_
              refine go_icmp_ge 155 dX7_readDay_132 (by decide) (fun h => absurd h (nI_ge (by omega) (by omega))) (fun h132 => ?_)
              refine go_aload_n dX7_readDay_135 rfl ?_
              refine go_dup dX7_readDay_136 rfl ?_
              refine go_geti dX7_readDay_137 fX7_96 rfl (by decide) (by decide) (by decide) rfl r1 ?_
              refine go_iconst (nI 1) dX7_readDay_140 (by decide +kernel) ?_
              first | refine go_iadd_n dX7_readDay_141 ?_ | refine go_iadd dX7_readDay_141 rfl ?_
              refine go_puti dX7_readDay_142 fX7_96 rfl (by decide) (by decide) (by decide) rfl (fun _ _ _ h => by cases h; rfl) (Or.inl rfl) ?_
              refine go_iconst (nI 1) dX7_readDay_145 (by decide +kernel) ?_
              refine go_istore_n (L' := [_, _, _, _]) dX7_readDay_146 (by decide) rfl ?_
              refine go_aload_n dX7_readDay_147 rfl ?_
              refine go_callV1 (K' := kX7_readNews) [] dX7_readDay_148 mX7_120 lX7_readNews rfl (by decide) rfl (by decide) rfl rfl (Nat.le_of_ble_eq_true rfl) (Nat.le_of_ble_eq_true rfl) (c1) ?_
              refine go_istore_n (L' := [_, _, _, _]) dX7_readDay_151 (by decide) rfl ?_
              refine go_goto 173 dX7_readDay_152 (by decide) ?_
              refine go_iload_n dX7_readDay_173 rfl ?_
              refine go_if_ne 182 dX7_readDay_174 (by decide) (fun h => absurd h (fun q => q rfl)) (fun h174 => ?_)
              refine go_aload_n dX7_readDay_177 rfl ?_
              refine go_geti dX7_readDay_178 fX7_96 rfl (by decide) (by decide) (by decide) rfl (gup_s _ _ _ _) ?_
              exact go_iret dX7_readDay_181 rfl rfl rfl
            | some o =>
              have d2 := dg_s hr2
              have c1 := c_rdNewsM2 (O := O) (d := d) (m := gup m 46 3 (nI (at_ + 1))) hX1 (gup_s _ _ _ _) hl r3 h2.2 hr hr2
              rw [tx_N2 hl h1 h2 hr hr2]
              have q := tx_kr_ok (x := x) hk.1 6 (at_ + 3) 0 d2.1 (by omega)
              have fN : tx_FM m (tx_nM (gup m 46 3 (nI (at_ + 1))) (at_ + 1) N l o) := (((((((FrM.rf _ _ _).f (by decide) _).f (by decide) _).f (by decide) _).a (by decide) (by decide) _ _).a (by decide) (by decide) _ _).a (by decide) (by decide) _ _).f (by decide) _
              obtain ⟨m', g1, g2, g3⟩ := tx_knows (O := O) (d := d) (x := x) (fi := fi) (res := tx_prs x L f (tx_kr x L P 6 (at_ + 3) 0).1 P (N + 1) w (tx_uN li N l) (tx_uN wo N o) (tx_uN fi N (tx_kr x L P 6 (at_ + 3) 0).2)) hk.1 h2.2 6 (at_ + 3) 0 _ d2.1 (by omega) (hX0.fr fN (by decide) (by decide)) (hR0.at (a := at_ + 1)).nw (fun m1 hX1 hR1 => ih _ true m1 P (N + 1) w _ _ _ q.2.1 (by omega) hX1 hR1 (hk.N h2.2 (by omega) q.2.2) (fun _ => ⟨N, rfl, fun p hp => by rw [tx_uN, if_pos rfl]; exact tx_kr_x hk.1 6 (at_ + 3) 0 (by omega) rfl p hp⟩))
              refine ⟨m', fun z2 z3 => ?_, fN.tr g2, g3⟩
              refine go_aload_n dX7_readDay_63 rfl ?_
              refine go_geti dX7_readDay_64 fX7_96 rfl (by decide) (by decide) (by decide) rfl r1 ?_
              refine go_aload_n dX7_readDay_67 rfl ?_
              refine go_geti dX7_readDay_68 fX7_93 rfl (by decide) (by decide) (by decide) rfl x2 ?_
              refine go_icmp_ge 185 dX7_readDay_71 (by decide) (fun h => absurd h (nI_ge (by omega) (by omega))) (fun h71 => ?_)
              refine go_aload_n dX7_readDay_74 rfl ?_
              refine go_getc dX7_readDay_75 fX7_7 rfl (by decide) (by decide) (by decide) rfl ?_
              refine go_aload_n dX7_readDay_78 rfl ?_
              refine go_geti dX7_readDay_79 fX7_96 rfl (by decide) (by decide) (by decide) rfl r1 ?_
              refine go_iald dX7_readDay_82 rfl (by decide) rfl (by omega) (by decide) b2 ?_
              refine go_istore_n (L' := [_, _, _, _]) dX7_readDay_83 (by decide) rfl ?_
              refine go_iconst (nI 0) dX7_readDay_84 (by decide +kernel) ?_
              refine go_istore_n (L' := [_, _, _, _]) dX7_readDay_85 (by decide) rfl ?_
              refine go_iload_n dX7_readDay_86 rfl ?_
              refine go_bipush (nI 80) dX7_readDay_87 (by decide +kernel) ?_
              refine go_icmp_ne 121 dX7_readDay_89 (by decide) (fun h89 => ?_) (fun h => absurd h (fun q => absurd ((nI_eq (by omega) (by omega)).mp q) (by omega)))
              refine go_iload_n dX7_readDay_121 rfl ?_
              refine go_bipush (nI 78) dX7_readDay_122 (by decide +kernel) ?_
              refine go_icmp_ne 155 dX7_readDay_124 (by decide) (fun h => absurd h (fun q => q (congrArg nI h2.1))) (fun h124 => ?_)
              refine go_aload_n dX7_readDay_127 rfl ?_
              refine go_geti dX7_readDay_128 fX7_106 rfl (by decide) (by decide) (by decide) rfl r3 ?_
              refine go_iconst (nI 3) dX7_readDay_131 (by decide +kernel) ?_
              refine go_icmp_ge 155 dX7_readDay_132 (by decide) (fun h => absurd h (nI_ge (by omega) (by omega))) (fun h132 => ?_)
              refine go_aload_n dX7_readDay_135 rfl ?_
              refine go_dup dX7_readDay_136 rfl ?_
              refine go_geti dX7_readDay_137 fX7_96 rfl (by decide) (by decide) (by decide) rfl r1 ?_
              refine go_iconst (nI 1) dX7_readDay_140 (by decide +kernel) ?_
              first | refine go_iadd_n dX7_readDay_141 ?_ | refine go_iadd dX7_readDay_141 rfl ?_
              refine go_puti dX7_readDay_142 fX7_96 rfl (by decide) (by decide) (by decide) rfl (fun _ _ _ h => by cases h; rfl) (Or.inl rfl) ?_
              refine go_iconst (nI 1) dX7_readDay_145 (by decide +kernel) ?_
              refine go_istore_n (L' := [_, _, _, _]) dX7_readDay_146 (by decide) rfl ?_
              refine go_aload_n dX7_readDay_147 rfl ?_
              refine go_callV1 (K' := kX7_readNews) [] dX7_readDay_148 mX7_120 lX7_readNews rfl (by decide) rfl (by decide) rfl rfl (Nat.le_of_ble_eq_true rfl) (Nat.le_of_ble_eq_true rfl) (c1) ?_
              refine go_istore_n (L' := [_, _, _, _]) dX7_readDay_151 (by decide) rfl ?_
              refine go_goto 173 dX7_readDay_152 (by decide) ?_
              refine go_iload_n dX7_readDay_173 rfl ?_
              refine go_if_ne 182 dX7_readDay_174 (by decide) (fun h174 => ?_) (fun h => absurd h (by decide +kernel))
              refine go_goto 63 dX7_readDay_182 (by decide) ?_
              exact g1 _ _
        · rw [tx_X hl h1 h2]
          refine ⟨m, fun z2 z3 => ?_, FrM.rf _ _ _, fun _ _ _ _ _ _ z => by cases z⟩
          have t155 : Go O (d + 3) kX7_readDay (some (.int (nI at_))) m 155 [.ref 46, .int (bI op), .int (nI (x at_)), .int (nI 0)] [] m := by
            cases op with
            | false =>
              refine go_iload_n dX7_readDay_155 rfl ?_
              refine go_if_eq 171 dX7_readDay_156 (by decide) (fun h156 => ?_) (fun h => absurd (rfl) h)
              refine go_iconst (nI 0) dX7_readDay_171 (by decide +kernel) ?_
              refine go_istore_n (L' := [_, _, _, _]) dX7_readDay_172 (by decide) rfl ?_
              refine go_iload_n dX7_readDay_173 rfl ?_
              refine go_if_ne 182 dX7_readDay_174 (by decide) (fun h => absurd h (fun q => q rfl)) (fun h174 => ?_)
              refine go_aload_n dX7_readDay_177 rfl ?_
              refine go_geti dX7_readDay_178 fX7_96 rfl (by decide) (by decide) (by decide) rfl r1 ?_
              exact go_iret dX7_readDay_181 rfl rfl rfl
            | true =>
              obtain ⟨N1, rfl, hx⟩ := hop rfl
              have hk1 := hk.2.2.2.2.2.1 N1
              have hk2 := hk.2.1
              have ck := c_rdKnowsF (O := O) (d := d + 1) (at_ := at_) hX0 hl r2 hk.1 r3 (by omega) (r5 N1 (by omega)).2.2 hk1 hx
              refine go_iload_n dX7_readDay_155 rfl ?_
              refine go_if_eq 171 dX7_readDay_156 (by decide) (fun h => absurd h (by decide +kernel)) (fun h156 => ?_)
              refine go_aload_n dX7_readDay_159 rfl ?_
              refine go_iload_n dX7_readDay_160 rfl ?_
              refine go_callV1 (K' := kX7_readKnows) [_] dX7_readDay_161 mX7_122 lX7_readKnows rfl (by decide) rfl (by decide) rfl rfl (Nat.le_of_ble_eq_true rfl) (Nat.le_of_ble_eq_true rfl) (ck) ?_
              refine go_if_eq 171 dX7_readDay_164 (by decide) (fun h164 => ?_) (fun h => absurd (rfl) h)
              refine go_iconst (nI 0) dX7_readDay_171 (by decide +kernel) ?_
              refine go_istore_n (L' := [_, _, _, _]) dX7_readDay_172 (by decide) rfl ?_
              refine go_iload_n dX7_readDay_173 rfl ?_
              refine go_if_ne 182 dX7_readDay_174 (by decide) (fun h => absurd h (fun q => q rfl)) (fun h174 => ?_)
              refine go_aload_n dX7_readDay_177 rfl ?_
              refine go_geti dX7_readDay_178 fX7_96 rfl (by decide) (by decide) (by decide) rfl r1 ?_
              exact go_iret dX7_readDay_181 rfl rfl rfl
          have hk2 := hk.2.1
          have hk1 := hk.1
          have t121 : Go O (d + 3) kX7_readDay (some (.int (nI at_))) m 121 [.ref 46, .int (bI op), .int (nI (x at_)), .int (nI 0)] [] m := by
            by_cases b : x at_ = 78
            · have hN3 : 3 ≤ N := Nat.le_of_not_lt (fun z => h2 ⟨b, z⟩)
              refine go_iload_n dX7_readDay_121 rfl ?_
              refine go_bipush (nI 78) dX7_readDay_122 (by decide +kernel) ?_
              refine go_icmp_ne 155 dX7_readDay_124 (by decide) (fun h => absurd h (fun q => q (congrArg nI b))) (fun h124 => ?_)
              refine go_aload_n dX7_readDay_127 rfl ?_
              refine go_geti dX7_readDay_128 fX7_106 rfl (by decide) (by decide) (by decide) rfl r3 ?_
              refine go_iconst (nI 3) dX7_readDay_131 (by decide +kernel) ?_
              refine go_icmp_ge 155 dX7_readDay_132 (by decide) (fun h132 => ?_) (fun h => absurd (nI_le (by omega) (by omega)) h)
              exact t155
            · skip
              refine go_iload_n dX7_readDay_121 rfl ?_
              refine go_bipush (nI 78) dX7_readDay_122 (by decide +kernel) ?_
              refine go_icmp_ne 155 dX7_readDay_124 (by decide) (fun h124 => ?_) (fun h => absurd h (fun q => b ((nI_eq (by omega) (by omega)).mp q)))
              exact t155
          by_cases a : x at_ = 80
          · have hP6 : 6 ≤ P := Nat.le_of_not_lt (fun z => h1 ⟨a, z⟩)
            refine go_aload_n dX7_readDay_63 rfl ?_
            refine go_geti dX7_readDay_64 fX7_96 rfl (by decide) (by decide) (by decide) rfl r1 ?_
            refine go_aload_n dX7_readDay_67 rfl ?_
            refine go_geti dX7_readDay_68 fX7_93 rfl (by decide) (by decide) (by decide) rfl x2 ?_
            refine go_icmp_ge 185 dX7_readDay_71 (by decide) (fun h => absurd h (nI_ge (by omega) (by omega))) (fun h71 => ?_)
            refine go_aload_n dX7_readDay_74 rfl ?_
            refine go_getc dX7_readDay_75 fX7_7 rfl (by decide) (by decide) (by decide) rfl ?_
            refine go_aload_n dX7_readDay_78 rfl ?_
            refine go_geti dX7_readDay_79 fX7_96 rfl (by decide) (by decide) (by decide) rfl r1 ?_
            refine go_iald dX7_readDay_82 rfl (by decide) rfl (by omega) (by decide) b2 ?_
            refine go_istore_n (L' := [_, _, _, _]) dX7_readDay_83 (by decide) rfl ?_
            refine go_iconst (nI 0) dX7_readDay_84 (by decide +kernel) ?_
            refine go_istore_n (L' := [_, _, _, _]) dX7_readDay_85 (by decide) rfl ?_
            refine go_iload_n dX7_readDay_86 rfl ?_
            refine go_bipush (nI 80) dX7_readDay_87 (by decide +kernel) ?_
            refine go_icmp_ne 121 dX7_readDay_89 (by decide) (fun h => absurd h (fun q => q (congrArg nI a))) (fun h89 => ?_)
            refine go_aload_n dX7_readDay_92 rfl ?_
            refine go_geti dX7_readDay_93 fX7_103 rfl (by decide) (by decide) (by decide) rfl r2 ?_
            refine go_bipush (nI 6) dX7_readDay_96 (by decide +kernel) ?_
            refine go_icmp_ge 121 dX7_readDay_98 (by decide) (fun h98 => ?_) (fun h => absurd (nI_le (by omega) (by omega)) h)
            exact t121
          · skip
            refine go_aload_n dX7_readDay_63 rfl ?_
            refine go_geti dX7_readDay_64 fX7_96 rfl (by decide) (by decide) (by decide) rfl r1 ?_
            refine go_aload_n dX7_readDay_67 rfl ?_
            refine go_geti dX7_readDay_68 fX7_93 rfl (by decide) (by decide) (by decide) rfl x2 ?_
            refine go_icmp_ge 185 dX7_readDay_71 (by decide) (fun h => absurd h (nI_ge (by omega) (by omega))) (fun h71 => ?_)
            refine go_aload_n dX7_readDay_74 rfl ?_
            refine go_getc dX7_readDay_75 fX7_7 rfl (by decide) (by decide) (by decide) rfl ?_
            refine go_aload_n dX7_readDay_78 rfl ?_
            refine go_geti dX7_readDay_79 fX7_96 rfl (by decide) (by decide) (by decide) rfl r1 ?_
            refine go_iald dX7_readDay_82 rfl (by decide) rfl (by omega) (by decide) b2 ?_
            refine go_istore_n (L' := [_, _, _, _]) dX7_readDay_83 (by decide) rfl ?_
            refine go_iconst (nI 0) dX7_readDay_84 (by decide +kernel) ?_
            refine go_istore_n (L' := [_, _, _, _]) dX7_readDay_85 (by decide) rfl ?_
            refine go_iload_n dX7_readDay_86 rfl ?_
            refine go_bipush (nI 80) dX7_readDay_87 (by decide +kernel) ?_
            refine go_icmp_ne 121 dX7_readDay_89 (by decide) (fun h89 => ?_) (fun h => absurd h (fun q => a ((nI_eq (by omega) (by omega)).mp q)))
            exact t121
    · exact fin _ _ _ _ _ _ _ _ _ _ ha hl hX hR
theorem c_readDay {O : gOm} {d : Nat} {m : gMem} {L : Nat} {x : Nat → Nat} (hX : TxM m L x) : ∃ m', Ca O (d + 3) kX7_readDay [.ref 46] (some (.int (tx_F x L))) m m' ∧ FrM [53, 54, 55, 56] [3, 13, 14, 15] m m' ∧ ∀ lw P' N' w' li' wo' fi', 0 < L ∧ x 0 = 68 → dg x L 1 3 = some lw → tx_0 x L = .inr (P', N', w', li', wo', fi') → tx_RC m' L P' N' w' li' wo' fi' ∧ m'.1 46 15 = nI lw := by
  have hX0 := hX
  obtain ⟨x1, x2, x3⟩ := hX
  by_cases h0 : 0 < L ∧ x 0 = 68
  · obtain ⟨b1, b2⟩ := x3 0 h0.1
    rw [h0.2] at b2
    have cf := c_figureM (O := O) (d := d + 1) (m := gup (gup (gup (gup m 46 3 (nI 0)) 46 13 (nI 0)) 46 14 (nI 0)) 46 3 (nI 1)) (at_ := 1) (k := 2) (hX0.of rfl rfl) h0.1 (gup_s _ _ _ _) (by omega)
    rw [tx_F, if_pos h0]
    cases hd : dg x L 1 3 with
    | none =>
      rw [hd] at cf
      dsimp only at cf
      refine ⟨gup (gup (gup (gup (gup m 46 3 (nI 0)) 46 13 (nI 0)) 46 14 (nI 0)) 46 3 (nI 1)) 46 15 (-9), ?_, (((((FrM.rf _ _ _).f (by decide) _).f (by decide) _).f (by decide) _).f (by decide) _).f (by decide) _, fun _ _ _ _ _ _ _ _ z => by cases z⟩
      show Go O (d + 3) kX7_readDay _ _ 0 [.ref 46, .null, .null, .null] [] m
      refine go_aload_n dX7_readDay_0 rfl ?_
      refine go_iconst (nI 0) dX7_readDay_1 (by decide +kernel) ?_
      refine go_puti dX7_readDay_2 fX7_96 rfl (by decide) (by decide) (by decide) rfl (fun _ _ _ h => by cases h; rfl) (Or.inl rfl) ?_
      refine go_aload_n dX7_readDay_5 rfl ?_
      refine go_iconst (nI 0) dX7_readDay_6 (by decide +kernel) ?_
      refine go_puti dX7_readDay_7 fX7_103 rfl (by decide) (by decide) (by decide) rfl (fun _ _ _ h => by cases h; rfl) (Or.inl rfl) ?_
      refine go_aload_n dX7_readDay_10 rfl ?_
      refine go_iconst (nI 0) dX7_readDay_11 (by decide +kernel) ?_
      refine go_puti dX7_readDay_12 fX7_106 rfl (by decide) (by decide) (by decide) rfl (fun _ _ _ h => by cases h; rfl) (Or.inl rfl) ?_
      refine go_aload_n dX7_readDay_15 rfl ?_
      refine go_geti dX7_readDay_16 fX7_93 rfl (by decide) (by decide) (by decide) rfl x2 ?_
      refine go_if_eq 33 dX7_readDay_19 (by decide) (fun h => absurd h (fun q => absurd ((nI_eq (b := 0) (by omega) (by omega)).mp q) (by omega))) (fun h19 => ?_)
      refine go_aload_n dX7_readDay_22 rfl ?_
      refine go_getc dX7_readDay_23 fX7_7 rfl (by decide) (by decide) (by decide) rfl ?_
      refine go_iconst (nI 0) dX7_readDay_26 (by decide +kernel) ?_
      refine go_iald dX7_readDay_27 rfl (by decide) rfl (by omega) (by decide) b2 ?_
      refine go_bipush (nI 68) dX7_readDay_28 (by decide +kernel) ?_
      refine go_icmp_eq 35 dX7_readDay_30 (by decide) (fun h30 => ?_) (fun h => absurd (rfl) h)
      refine go_aload_n dX7_readDay_35 rfl ?_
      refine go_iconst (nI 1) dX7_readDay_36 (by decide +kernel) ?_
      refine go_puti dX7_readDay_37 fX7_96 rfl (by decide) (by decide) (by decide) rfl (fun _ _ _ h => by cases h; rfl) (Or.inl rfl) ?_
      refine go_aload_n dX7_readDay_40 rfl ?_
      refine go_aload_n dX7_readDay_41 rfl ?_
      refine go_iconst (nI 0) dX7_readDay_42 (by decide +kernel) ?_
      refine go_iconst (nI 2) dX7_readDay_43 (by decide +kernel) ?_
      refine go_callV1 (K' := kX7_figure) [_, _] dX7_readDay_44 mX7_99 lX7_figure rfl (by decide) rfl (by decide) rfl rfl (Nat.le_of_ble_eq_true rfl) (Nat.le_of_ble_eq_true rfl) (cf) ?_
      refine go_puti dX7_readDay_47 fX7_113 rfl (by decide) (by decide) (by decide) rfl (fun _ _ _ h => by cases h; rfl) (Or.inl rfl) ?_
      refine go_aload_n dX7_readDay_50 rfl ?_
      refine go_geti dX7_readDay_51 fX7_113 rfl (by decide) (by decide) (by decide) rfl (gup_s _ _ _ _) ?_
      refine go_bipush (-9) dX7_readDay_54 (by decide +kernel) ?_
      refine go_icmp_ne 61 dX7_readDay_56 (by decide) (fun h => absurd h (fun q => q rfl)) (fun h56 => ?_)
      refine go_iconst (nI 1) dX7_readDay_59 (by decide +kernel) ?_
      exact go_iret dX7_readDay_60 rfl rfl rfl
    | some lw =>
      rw [hd] at cf
      dsimp only at cf
      have d1 := dg_s hd
      obtain ⟨m', g1, g2, g3⟩ := tx_loopM (O := O) (d := d) (x := x) (L := L) 72 2 false (gup (gup (gup (gup (gup (gup m 46 3 (nI 0)) 46 13 (nI 0)) 46 14 (nI 0)) 46 3 (nI 1)) 46 3 (nI (1 + 1))) 46 15 (nI lw)) 0 0 (fun _ _ => none) (fun _ => 0) (fun _ => 0) (fun _ => 0) d1.1 (by omega) (hX0.of rfl rfl) ⟨rfl, rfl, rfl, fun _ _ z => absurd z (by omega), fun _ z => absurd z (by omega)⟩ tx_Ok.st (fun z => by cases z)
      refine ⟨m', ?_, FrM.tr (((((((FrM.rf _ _ _).f (by decide) _).f (by decide) _).f (by decide) _).f (by decide) _).f (by decide) _).f (by decide) _) (g2.mono (by decide) (by decide)), fun lw' P' N' w' li' wo' fi' _ z1 z2 => ?_⟩
      · show Go O (d + 3) kX7_readDay _ _ 0 [.ref 46, .null, .null, .null] [] m
        refine go_aload_n dX7_readDay_0 rfl ?_
        refine go_iconst (nI 0) dX7_readDay_1 (by decide +kernel) ?_
        refine go_puti dX7_readDay_2 fX7_96 rfl (by decide) (by decide) (by decide) rfl (fun _ _ _ h => by cases h; rfl) (Or.inl rfl) ?_
        refine go_aload_n dX7_readDay_5 rfl ?_
        refine go_iconst (nI 0) dX7_readDay_6 (by decide +kernel) ?_
        refine go_puti dX7_readDay_7 fX7_103 rfl (by decide) (by decide) (by decide) rfl (fun _ _ _ h => by cases h; rfl) (Or.inl rfl) ?_
        refine go_aload_n dX7_readDay_10 rfl ?_
        refine go_iconst (nI 0) dX7_readDay_11 (by decide +kernel) ?_
        refine go_puti dX7_readDay_12 fX7_106 rfl (by decide) (by decide) (by decide) rfl (fun _ _ _ h => by cases h; rfl) (Or.inl rfl) ?_
        refine go_aload_n dX7_readDay_15 rfl ?_
        refine go_geti dX7_readDay_16 fX7_93 rfl (by decide) (by decide) (by decide) rfl x2 ?_
        refine go_if_eq 33 dX7_readDay_19 (by decide) (fun h => absurd h (fun q => absurd ((nI_eq (b := 0) (by omega) (by omega)).mp q) (by omega))) (fun h19 => ?_)
        refine go_aload_n dX7_readDay_22 rfl ?_
        refine go_getc dX7_readDay_23 fX7_7 rfl (by decide) (by decide) (by decide) rfl ?_
        refine go_iconst (nI 0) dX7_readDay_26 (by decide +kernel) ?_
        refine go_iald dX7_readDay_27 rfl (by decide) rfl (by omega) (by decide) b2 ?_
        refine go_bipush (nI 68) dX7_readDay_28 (by decide +kernel) ?_
        refine go_icmp_eq 35 dX7_readDay_30 (by decide) (fun h30 => ?_) (fun h => absurd (rfl) h)
        refine go_aload_n dX7_readDay_35 rfl ?_
        refine go_iconst (nI 1) dX7_readDay_36 (by decide +kernel) ?_
        refine go_puti dX7_readDay_37 fX7_96 rfl (by decide) (by decide) (by decide) rfl (fun _ _ _ h => by cases h; rfl) (Or.inl rfl) ?_
        refine go_aload_n dX7_readDay_40 rfl ?_
        refine go_aload_n dX7_readDay_41 rfl ?_
        refine go_iconst (nI 0) dX7_readDay_42 (by decide +kernel) ?_
        refine go_iconst (nI 2) dX7_readDay_43 (by decide +kernel) ?_
        refine go_callV1 (K' := kX7_figure) [_, _] dX7_readDay_44 mX7_99 lX7_figure rfl (by decide) rfl (by decide) rfl rfl (Nat.le_of_ble_eq_true rfl) (Nat.le_of_ble_eq_true rfl) (cf) ?_
        refine go_puti dX7_readDay_47 fX7_113 rfl (by decide) (by decide) (by decide) rfl (fun _ _ _ h => by cases h; rfl) (Or.inl rfl) ?_
        refine go_aload_n dX7_readDay_50 rfl ?_
        refine go_geti dX7_readDay_51 fX7_113 rfl (by decide) (by decide) (by decide) rfl (gup_s _ _ _ _) ?_
        refine go_bipush (-9) dX7_readDay_54 (by decide +kernel) ?_
        refine go_icmp_ne 61 dX7_readDay_56 (by decide) (fun h56 => ?_) (fun h => absurd h (nI_n9 (by omega)))
        refine go_iconst (nI 0) dX7_readDay_61 (by decide +kernel) ?_
        refine go_istore_n (L' := [_, _, _, _]) dX7_readDay_62 (by decide) rfl ?_
        exact g1 _ _
      · cases z1
        exact ⟨g3 _ _ _ _ _ _ z2, (g2.2.2 15 (by decide)).trans (gup_s _ _ _ _)⟩
  · rw [tx_F, if_neg h0]
    refine ⟨gup (gup (gup m 46 3 (nI 0)) 46 13 (nI 0)) 46 14 (nI 0), ?_, ((((FrM.rf _ _ _).f (by decide) _).f (by decide) _).f (by decide) _), fun _ _ _ _ _ _ _ z => absurd z h0⟩
    show Go O (d + 3) kX7_readDay _ _ 0 [.ref 46, .null, .null, .null] [] m
    by_cases hl : 0 < L
    · obtain ⟨b1, b2⟩ := x3 0 hl
      refine go_aload_n dX7_readDay_0 rfl ?_
      refine go_iconst (nI 0) dX7_readDay_1 (by decide +kernel) ?_
      refine go_puti dX7_readDay_2 fX7_96 rfl (by decide) (by decide) (by decide) rfl (fun _ _ _ h => by cases h; rfl) (Or.inl rfl) ?_
      refine go_aload_n dX7_readDay_5 rfl ?_
      refine go_iconst (nI 0) dX7_readDay_6 (by decide +kernel) ?_
      refine go_puti dX7_readDay_7 fX7_103 rfl (by decide) (by decide) (by decide) rfl (fun _ _ _ h => by cases h; rfl) (Or.inl rfl) ?_
      refine go_aload_n dX7_readDay_10 rfl ?_
      refine go_iconst (nI 0) dX7_readDay_11 (by decide +kernel) ?_
      refine go_puti dX7_readDay_12 fX7_106 rfl (by decide) (by decide) (by decide) rfl (fun _ _ _ h => by cases h; rfl) (Or.inl rfl) ?_
      refine go_aload_n dX7_readDay_15 rfl ?_
      refine go_geti dX7_readDay_16 fX7_93 rfl (by decide) (by decide) (by decide) rfl x2 ?_
      refine go_if_eq 33 dX7_readDay_19 (by decide) (fun h => absurd h (fun q => absurd ((nI_eq (b := 0) (by omega) (by omega)).mp q) (by omega))) (fun h19 => ?_)
      refine go_aload_n dX7_readDay_22 rfl ?_
      refine go_getc dX7_readDay_23 fX7_7 rfl (by decide) (by decide) (by decide) rfl ?_
      refine go_iconst (nI 0) dX7_readDay_26 (by decide +kernel) ?_
      refine go_iald dX7_readDay_27 rfl (by decide) rfl (by omega) (by decide) b2 ?_
      refine go_bipush (nI 68) dX7_readDay_28 (by decide +kernel) ?_
      refine go_icmp_eq 35 dX7_readDay_30 (by decide) (fun h => absurd h (fun q => h0 ⟨hl, (nI_eq (by omega) (by omega)).mp q⟩)) (fun h30 => ?_)
      refine go_iconst (nI 0) dX7_readDay_33 (by decide +kernel) ?_
      exact go_iret dX7_readDay_34 rfl rfl rfl
    · obtain rfl : L = 0 := by omega
      refine go_aload_n dX7_readDay_0 rfl ?_
      refine go_iconst (nI 0) dX7_readDay_1 (by decide +kernel) ?_
      refine go_puti dX7_readDay_2 fX7_96 rfl (by decide) (by decide) (by decide) rfl (fun _ _ _ h => by cases h; rfl) (Or.inl rfl) ?_
      refine go_aload_n dX7_readDay_5 rfl ?_
      refine go_iconst (nI 0) dX7_readDay_6 (by decide +kernel) ?_
      refine go_puti dX7_readDay_7 fX7_103 rfl (by decide) (by decide) (by decide) rfl (fun _ _ _ h => by cases h; rfl) (Or.inl rfl) ?_
      refine go_aload_n dX7_readDay_10 rfl ?_
      refine go_iconst (nI 0) dX7_readDay_11 (by decide +kernel) ?_
      refine go_puti dX7_readDay_12 fX7_106 rfl (by decide) (by decide) (by decide) rfl (fun _ _ _ h => by cases h; rfl) (Or.inl rfl) ?_
      refine go_aload_n dX7_readDay_15 rfl ?_
      refine go_geti dX7_readDay_16 fX7_93 rfl (by decide) (by decide) (by decide) rfl x2 ?_
      refine go_if_eq 33 dX7_readDay_19 (by decide) (fun h19 => ?_) (fun h => absurd (rfl) h)
      refine go_iconst (nI 0) dX7_readDay_33 (by decide +kernel) ?_
      exact go_iret dX7_readDay_34 rfl rfl rfl
