/-! JUDGE: a row of figures tried on a page -/
def avO (x : Int32) : Option Nat := if x = -9 then none else some x.toNatClampNeg
theorem avO_oI {av : Option Nat} (h : ∀ a, av = some a → a < 3) : avO (oI (-9) av) = av := by
  cases av with
  | none => rfl
  | some a =>
    have := h a rfl
    show avO (nI a) = some a
    rw [avO, if_neg (nI_n9 (by omega)), nI_clamp (by omega)]
def jG (w : Nat → Int32) (lm : Int32) (P lw n : Nat) (f : Nat → Int32) (h g : Nat) : Bool := if g = 9 then decide (h < 5) else decide (g < P) && mT ((f (3 + n)).toNatClampNeg.testBit g) (gOf (grp w P h) (avO (w (6 * g + h)))) (f n) lm lw (f (6 + 6 * n + g)) (plOf f n (avO (w (6 * g + h))))
def jF (w : Nat → Int32) (P N n : Nat) (f : Nat → Int32) (h g : Nat) : Nat → Int32 := if g = 9 then f else tlP f n g ((avO (w (6 * g + h))).getD 0) (grp w P h ((avO (w (6 * g + h))).getD 0)) P N
def jH (h g : Nat) : Nat := if g = 9 then h + 1 else h
def jR (w : Nat → Int32) (lm : Int32) (P N lw n : Nat) (fg : Nat → Nat) : Nat → Nat → (Nat → Int32) → Nat → Int32
  | 0, _, _, _ => -9
  | q + 1, i, f, h => if jG w lm P lw n f h (fg i) then jR w lm P N lw n fg q (i + 1) (jF w P N n f h (fg i)) (jH h (fg i)) else nI i
/-- places are places -/
def PlOk (w : Nat → Int32) (P : Nat) : Prop := ∀ p h, p < P → h < 6 → ∃ av : Option Nat, w (6 * p + h) = oI (-9) av ∧ ∀ a, av = some a → a < 3
theorem jG_p {w : Nat → Int32} {lm : Int32} {P lw n g h k : Nat} {f : Nat → Int32} {av : Option Nat} (hg : g ≠ 9) (hP : g < P) (ek : f (3 + n) = nI k) (hk : k < 64) (eav : w (6 * g + h) = oI (-9) av) (ha3 : ∀ a, av = some a → a < 3) : jG w lm P lw n f h g = mT (k.testBit g) (gOf (grp w P h) av) (f n) lm lw (f (6 + 6 * n + g)) (plOf f n av) := by
  rw [jG, if_neg hg, decide_eq_true hP, Bool.true_and, ek, nI_clamp (by omega), eav, avO_oI ha3]
theorem jF_p {w : Nat → Int32} {P N n g h a : Nat} {f : Nat → Int32} (hg : g ≠ 9) (eav : w (6 * g + h) = nI a) (ha3 : a < 3) : jF w P N n f h g = tlP f n g a (grp w P h a) P N := by
  rw [jF, if_neg hg, eav, show avO (nI a) = some a from avO_oI (av := some a) (fun b hb => by cases hb; exact ha3)]
  rfl
theorem jOk {w : Nat → Int32} {lm : Int32} {P N lw n h g : Nat} {f : Nat → Int32} {lim : Nat → Nat} (hP6 : P ≤ 6) (hN3 : N ≤ 3) (hnN : n < N) (hw : PlOk w P) (hlm : lm = nI (lim n)) (hl9 : lim n ≤ 9) (hok : PgOk lim N f h) (hj : jG w lm P lw n f h g = true) : PgOk lim N (jF w P N n f h g) (jH h g) := by
  by_cases hg : g = 9
  · rw [jG, if_pos hg] at hj
    have := of_decide_eq_true hj
    rw [jF, if_pos hg, jH, if_pos hg]
    exact ⟨by omega, hok.2⟩
  · obtain ⟨ok1, ok2, ok3, ok4, ok5⟩ := id hok
    have hgP : g < P := by
      rw [jG, if_neg hg, Bool.and_eq_true] at hj
      exact of_decide_eq_true hj.1
    obtain ⟨k, hk, ek⟩ := ok2 n (by omega)
    obtain ⟨av, eav, ha3⟩ := hw g h hgP ok1
    rw [jG_p hg hgP ek hk eav ha3] at hj
    obtain ⟨z1, z2, z3⟩ := mT_true hj
    cases av with
    | none => exact absurd z2 (by rw [show gOf (grp w P h) none = 0 from rfl, pc6_0]; omega)
    | some a =>
      have ha := ha3 a rfl
      obtain ⟨t0, y1, y2⟩ := ok4 n (by omega) hnN
      rw [y2, hlm] at z3
      have y3 := (nI_ltI (by omega) (by omega)).mp z3
      rw [jF_p hg eav ha, jH, if_neg hg]
      exact tlP_ok (by omega) (by omega) ha hP6 hok hnN (grp_64 _ _ _ hP6) y2 y3 hl9
theorem jG_P {w : Nat → Int32} {lm : Int32} {P lw n g h : Nat} {f : Nat → Int32} (hg : g ≠ 9) (hP : ¬ g < P) : jG w lm P lw n f h g = false := by
  rw [jG, if_neg hg, decide_eq_false hP, Bool.false_and]
/-- the class's day, as a row of figures sees it -/
def DyT (m : gMem) (T P N lw n : Nat) (w : Nat → Int32) (lm : Int32) : Prop := m.2 0 = T ∧ m.1 T 5 = nI P ∧ m.1 T 6 = nI N ∧ m.1 T 7 = nI lw ∧ (∀ p h, p < P → h < 6 → m.1 (T + 1) (p * 6 + h) = w (6 * p + h)) ∧ (∀ h a, h < 6 → a < 3 → m.1 (T + 2) (h * 3 + a) = nI (grp w P h a)) ∧ m.1 (T + 3) n = lm
theorem DyT.kept {m m' : gMem} {T P N lw n : Nat} {w : Nat → Int32} {lm : Int32} (h : DyT m T P N lw n w lm) (e : m'.2 = m.2) (e0 : m'.1 T = m.1 T) (e1 : m'.1 (T + 1) = m.1 (T + 1)) (e2 : m'.1 (T + 2) = m.1 (T + 2)) (e3 : m'.1 (T + 3) = m.1 (T + 3)) : DyT m' T P N lw n w lm := by
  unfold DyT at *
  rw [e, e0, e1, e2, e3]
  exact h
/-- a figure of a row -/
def fgO (row cnt i : Nat) : Nat := row / 10 ^ (cnt - 1 - i) % 10
theorem fgO_lt (row cnt i : Nat) : fgO row cnt i < 10 := Nat.mod_lt _ (by omega)
theorem c_figureOf {O : gOm} {d : Nat} {m : gMem} {r b : Nat} (hr : r < 2 ^ 31) (hb : b < 2 ^ 30) : Ca O d kX6_figureOf [.int (nI r), .int (nI b)] (some (.int (nI (r / 10 ^ b % 10)))) m m := by
  have key : ∀ q i, i + q = b → Go O d kX6_figureOf (some (.int (nI (r / 10 ^ b % 10)))) m 4 [.int (nI r), .int (nI b), .int (nI (r / 10 ^ i)), .int (nI i)] [] m := by
    intro q
    induction q with
    | zero =>
      intro i hi
      obtain rfl : i = b := by omega
      have hl := Nat.div_le_self r (10 ^ i)
      refine go_iload_n dX6_figureOf_4 rfl ?_
      refine go_iload_n dX6_figureOf_5 rfl ?_
      refine go_icmp_ge 20 dX6_figureOf_6 (by decide) (fun h6 => ?_) (fun h => absurd (nI_le (by omega) (by omega)) h)
      refine go_iload_n dX6_figureOf_20 rfl ?_
      refine go_bipush (nI 10) dX6_figureOf_21 (by decide +kernel) ?_
      refine go_irem dX6_figureOf_23 (by decide +kernel) (pk_rem (by omega) (by omega) (by omega)) ?_
      exact go_iret dX6_figureOf_24 rfl rfl rfl
    | succ q ih =>
      intro i hi
      have h2 := ih (i + 1) (by omega)
      have hl := Nat.div_le_self r (10 ^ i)
      rw [show r / 10 ^ (i + 1) = r / 10 ^ i / 10 by rw [Nat.div_div_eq_div_mul]; rfl] at h2
      refine go_iload_n dX6_figureOf_4 rfl ?_
      refine go_iload_n dX6_figureOf_5 rfl ?_
      refine go_icmp_ge 20 dX6_figureOf_6 (by decide) (fun h => absurd h (nI_ge (by omega) (by omega))) (fun h6 => ?_)
      refine go_iload_n dX6_figureOf_9 rfl ?_
      refine go_bipush (nI 10) dX6_figureOf_10 (by decide +kernel) ?_
      refine go_idiv dX6_figureOf_12 (by decide +kernel) (pk_div (by omega) (by omega) (by omega)) ?_
      refine go_istore_n (L' := [_, _, _, _]) dX6_figureOf_13 (by decide) rfl ?_
      refine go_iinc_n (L' := [_, _, _, _]) dX6_figureOf_14 rfl (by decide) rfl ?_
      refine go_goto 4 dX6_figureOf_17 (by decide) ?_
      exact h2
  have k0 := key b 0 (by omega)
  rw [Nat.pow_zero, Nat.div_one] at k0
  show Go O d kX6_figureOf _ m 0 [.int (nI r), .int (nI b), .null, .null] [] m
  refine go_iload_n dX6_figureOf_0 rfl ?_
  refine go_istore_n (L' := [_, _, _, _]) dX6_figureOf_1 (by decide) rfl ?_
  refine go_iconst (nI 0) dX6_figureOf_2 (by decide +kernel) ?_
  refine go_istore_n (L' := [_, _, _, _]) dX6_figureOf_3 (by decide) rfl ?_
  exact k0
theorem c_tried_29 {O : gOm} {d : Nat} {m : gMem} {w f : Nat → Int32} {lm : Int32} {P N lw n g h : Nat} {lim : Nat → Nat} (hP6 : P ≤ 6) (hN3 : N ≤ 3) (hnN : n < N) (hl3 : lw < 3) (hw : PlOk w P) (hg : g < 10) (hD : DyT m 29 P N lw n w lm) (hS : StP m 8 f h) (hok : PgOk lim N f h) : ∃ m', Ca O (d + 3) kX6_triedFigure [.ref 0, .int (nI n), .int (nI g)] (some (.int (bI (jG w lm P lw n f h g)))) m m' ∧ (jG w lm P lw n f h g = true → StP m' 8 (jF w P N n f h g) (jH h g)) ∧ m'.2 = m.2 ∧ ∀ k, (k < 8 ∨ 12 < k) → m'.1 k = m.1 k := by
  obtain ⟨hT, t5, t6, t7, tp, tg, tl⟩ := id hD
  obtain ⟨s4, sk, st, sa, spl⟩ := id hS
  obtain ⟨ok1, ok2, ok3, ok4, ok5⟩ := id hok
  by_cases h9 : g = 9
  · subst h9
    by_cases h5 : h < 5
    · have ej : jG w lm P lw n f h 9 = true := by rw [jG, if_pos rfl]; exact decide_eq_true h5
      refine ⟨gup m 8 4 (nI (h + 1)), ?_, fun _ => ?_, rfl, fun k hk => gup_k _ _ (by omega)⟩
      · rw [ej]
        show Go O (d + 3) kX6_triedFigure _ _ 0 [.ref 0, .int (nI n), .int (nI 9)] [] m
        refine go_iload_n dX6_triedFigure_0 rfl ?_
        refine go_bipush (nI 9) dX6_triedFigure_1 (by decide +kernel) ?_
        refine go_icmp_ne 34 dX6_triedFigure_3 (by decide) (fun h => absurd h (fun q => q rfl)) (fun h3 => ?_)
        refine go_aload_n dX6_triedFigure_6 rfl ?_
        refine go_getc dX6_triedFigure_7 fX6_23 rfl (by decide) (by decide) (by decide) rfl ?_
        refine go_geti dX6_triedFigure_10 fX6_94 rfl (by decide) (by decide) (by decide) rfl s4 ?_
        refine go_iconst (nI 5) dX6_triedFigure_13 (by decide +kernel) ?_
        refine go_icmp_lt 19 dX6_triedFigure_14 (by decide) (fun h14 => ?_) (fun h => absurd (nI_lt (by omega) (by omega)) h)
        refine go_aload_n dX6_triedFigure_19 rfl ?_
        refine go_getc dX6_triedFigure_20 fX6_23 rfl (by decide) (by decide) (by decide) rfl ?_
        refine go_dup dX6_triedFigure_23 rfl ?_
        refine go_geti dX6_triedFigure_24 fX6_94 rfl (by decide) (by decide) (by decide) rfl s4 ?_
        refine go_iconst (nI 1) dX6_triedFigure_27 (by decide +kernel) ?_
        first | refine go_iadd_n dX6_triedFigure_28 ?_ | refine go_iadd dX6_triedFigure_28 rfl ?_
        refine go_puti dX6_triedFigure_29 fX6_94 rfl (by decide) (by decide) (by decide) rfl (fun _ _ _ h => by cases h; rfl) (Or.inl rfl) ?_
        refine go_iconst (nI 1) dX6_triedFigure_32 (by decide +kernel) ?_
        exact go_zret dX6_triedFigure_33 rfl (by first | exact Or.inl rfl | exact Or.inr rfl) rfl rfl
      · rw [jF, if_pos rfl, jH, if_pos rfl]
        exact ⟨gup_s _ _ _ _, sk, st, sa, spl⟩
    · have ej : jG w lm P lw n f h 9 = false := by rw [jG, if_pos rfl]; exact decide_eq_false h5
      refine ⟨m, ?_, fun q => (by rw [ej] at q; cases q), rfl, fun _ _ => rfl⟩
      rw [ej]
      show Go O (d + 3) kX6_triedFigure _ _ 0 [.ref 0, .int (nI n), .int (nI 9)] [] m
      refine go_iload_n dX6_triedFigure_0 rfl ?_
      refine go_bipush (nI 9) dX6_triedFigure_1 (by decide +kernel) ?_
      refine go_icmp_ne 34 dX6_triedFigure_3 (by decide) (fun h => absurd h (fun q => q rfl)) (fun h3 => ?_)
      refine go_aload_n dX6_triedFigure_6 rfl ?_
      refine go_getc dX6_triedFigure_7 fX6_23 rfl (by decide) (by decide) (by decide) rfl ?_
      refine go_geti dX6_triedFigure_10 fX6_94 rfl (by decide) (by decide) (by decide) rfl s4 ?_
      refine go_iconst (nI 5) dX6_triedFigure_13 (by decide +kernel) ?_
      refine go_icmp_lt 19 dX6_triedFigure_14 (by decide) (fun h => absurd h (nI_nlt (by omega) (by omega))) (fun h14 => ?_)
      refine go_iconst (nI 0) dX6_triedFigure_17 (by decide +kernel) ?_
      exact go_zret dX6_triedFigure_18 rfl (by first | exact Or.inl rfl | exact Or.inr rfl) rfl rfl
  · have n9 : ¬ nI g = nI 9 := fun q => h9 ((nI_eq (by omega) (by omega)).mp q)
    by_cases hgP : g < P
    · obtain ⟨k, hk, ek⟩ := ok2 n (by omega)
      obtain ⟨av, eav, ha3⟩ := hw g h hgP ok1
      have ej := jG_p (lm := lm) (lw := lw) (n := n) h9 hgP ek hk eav ha3
      have hG : gOf (grp w P h) av < 64 := by
        cases av with
        | none => exact (by decide : (0 : Nat) < 64)
        | some b => exact grp_64 _ _ _ hP6
      have cX : Ca O (d + 2) kX5_allows [.ref 8, .ref 29, .int (nI g), .int (nI n)] (some (.int (bI (jG w lm P lw n f h g)))) m m := by
        rw [ej]
        exact c_allows_8_29 (P := P) s4 ok1 (by omega) (by omega) hk ((sk n (by omega)).trans ek) ((tp g h hgP ok1).trans eav) (fun b hb => ⟨ha3 b hb, by rw [hb]; exact tg h b ok1 (ha3 b hb), by rw [hb]; exact spl n b (by omega) (ha3 b hb)⟩) (fun e => by rw [e]; rfl) hG (by rw [spl n 0 (by omega) (by omega), spl n 1 (by omega) (by omega), spl n 2 (by omega) (by omega)]; exact ok3 n (by omega)) tl (st g n (by omega) (by omega)) t7 hl3
      cases hB : jG w lm P lw n f h g with
      | false =>
        rw [hB] at cX
        refine ⟨m, ?_, fun q => (by cases q), rfl, fun _ _ => rfl⟩
        show Go O (d + 3) kX6_triedFigure _ _ 0 [.ref 0, .int (nI n), .int (nI g)] [] m
        refine go_iload_n dX6_triedFigure_0 rfl ?_
        refine go_bipush (nI 9) dX6_triedFigure_1 (by decide +kernel) ?_
        refine go_icmp_ne 34 dX6_triedFigure_3 (by decide) (fun h3 => ?_) (fun h => absurd h (n9))
        refine go_aload_n dX6_triedFigure_34 rfl ?_
        refine go_iload_n dX6_triedFigure_35 rfl ?_
        refine go_callV1 (K' := kX6_isPerson) [_] dX6_triedFigure_36 mX6_105 lX6_isPerson rfl (by decide) rfl (by decide) rfl rfl (Nat.le_of_ble_eq_true rfl) (Nat.le_of_ble_eq_true rfl) (c_isPerson_29 hT t5 hP6) ?_
        refine go_if_eq 58 dX6_triedFigure_39 (by decide) (fun h => absurd h (bI_n0.mpr (iR_nI hgP (by omega)))) (fun h39 => ?_)
        refine go_aload_n dX6_triedFigure_42 rfl ?_
        refine go_getc dX6_triedFigure_43 fX6_23 rfl (by decide) (by decide) (by decide) rfl ?_
        refine go_aload_n dX6_triedFigure_46 rfl ?_
        refine go_getm dX6_triedFigure_47 fX6_47 rfl (by decide) (by decide) (by decide) rfl hT ?_
        refine go_iload_n dX6_triedFigure_50 rfl ?_
        refine go_iload_n dX6_triedFigure_51 rfl ?_
        refine go_callV1 (K' := kX5_allows) [_, _, _] dX6_triedFigure_52 mX6_146 lX5_allows rfl (by decide) rfl (by decide) rfl rfl (Nat.le_of_ble_eq_true rfl) (Nat.le_of_ble_eq_true rfl) (cX) ?_
        refine go_if_ne 60 dX6_triedFigure_55 (by decide) (fun h => absurd h (fun q => q (bI_0.mpr rfl))) (fun h55 => ?_)
        refine go_iconst (nI 0) dX6_triedFigure_58 (by decide +kernel) ?_
        exact go_zret dX6_triedFigure_59 rfl (by first | exact Or.inl rfl | exact Or.inr rfl) rfl rfl
      | true =>
        rw [hB] at cX ej
        obtain ⟨z1, z2, z3⟩ := mT_true ej.symm
        cases av with
        | none => exact absurd z2 (by rw [show gOf (grp w P h) none = 0 from rfl, pc6_0]; omega)
        | some a =>
          have ha := ha3 a rfl
          replace eav : w (6 * g + h) = nI a := eav
          replace hG : (grp w P h a) < 64 := hG
          have cS := c_spread_8_29 (O := O) (d := d) (m := m) (P := P) (N := N) (h := h) (p := g) (n := n) (a := a) (G := (grp w P h a)) (k := k) s4 ok1 (by omega) (by omega) ha ((tp g h hgP ok1).trans eav) (tg h a ok1 ha) hG t5 hP6 t6 hN3 ((sk n (by omega)).trans ek) hk
          refine ⟨(gupA (ctM m 8 g n a (grp w P h a) P (nI 1)) 9 (jhP (upd (m.1 9) n (nI (k ||| (grp w P h a)))) N)), ?_, fun _ => ?_, rfl, fun i hi => ?_⟩
          · show Go O (d + 3) kX6_triedFigure _ _ 0 [.ref 0, .int (nI n), .int (nI g)] [] m
            refine go_iload_n dX6_triedFigure_0 rfl ?_
            refine go_bipush (nI 9) dX6_triedFigure_1 (by decide +kernel) ?_
            refine go_icmp_ne 34 dX6_triedFigure_3 (by decide) (fun h3 => ?_) (fun h => absurd h (n9))
            refine go_aload_n dX6_triedFigure_34 rfl ?_
            refine go_iload_n dX6_triedFigure_35 rfl ?_
            refine go_callV1 (K' := kX6_isPerson) [_] dX6_triedFigure_36 mX6_105 lX6_isPerson rfl (by decide) rfl (by decide) rfl rfl (Nat.le_of_ble_eq_true rfl) (Nat.le_of_ble_eq_true rfl) (c_isPerson_29 hT t5 hP6) ?_
            refine go_if_eq 58 dX6_triedFigure_39 (by decide) (fun h => absurd h (bI_n0.mpr (iR_nI hgP (by omega)))) (fun h39 => ?_)
            refine go_aload_n dX6_triedFigure_42 rfl ?_
            refine go_getc dX6_triedFigure_43 fX6_23 rfl (by decide) (by decide) (by decide) rfl ?_
            refine go_aload_n dX6_triedFigure_46 rfl ?_
            refine go_getm dX6_triedFigure_47 fX6_47 rfl (by decide) (by decide) (by decide) rfl hT ?_
            refine go_iload_n dX6_triedFigure_50 rfl ?_
            refine go_iload_n dX6_triedFigure_51 rfl ?_
            refine go_callV1 (K' := kX5_allows) [_, _, _] dX6_triedFigure_52 mX6_146 lX5_allows rfl (by decide) rfl (by decide) rfl rfl (Nat.le_of_ble_eq_true rfl) (Nat.le_of_ble_eq_true rfl) (cX) ?_
            refine go_if_ne 60 dX6_triedFigure_55 (by decide) (fun h55 => ?_) (fun h => absurd h (bI_n0.mpr rfl))
            refine go_aload_n dX6_triedFigure_60 rfl ?_
            refine go_getc dX6_triedFigure_61 fX6_23 rfl (by decide) (by decide) (by decide) rfl ?_
            refine go_aload_n dX6_triedFigure_64 rfl ?_
            refine go_getm dX6_triedFigure_65 fX6_47 rfl (by decide) (by decide) (by decide) rfl hT ?_
            refine go_iload_n dX6_triedFigure_68 rfl ?_
            refine go_iload_n dX6_triedFigure_69 rfl ?_
            refine go_callV1 (K' := kX5_spread) [_, _, _] dX6_triedFigure_70 mX6_158 lX5_spread rfl (by decide) rfl (by decide) rfl rfl (Nat.le_of_ble_eq_true rfl) (Nat.le_of_ble_eq_true rfl) (cS) ?_
            refine go_pop dX6_triedFigure_73 rfl ?_
            refine go_iconst (nI 1) dX6_triedFigure_74 (by decide +kernel) ?_
            exact go_zret dX6_triedFigure_75 rfl (by first | exact Or.inl rfl | exact Or.inr rfl) rfl rfl
          · rw [jF_p h9 eav ha, jH, if_neg h9]
            exact hS.spread (by omega) (by omega) ha hP6 ((sk n (by omega)).trans ek)
          · rw [gupA_k _ _ (by omega), ctM_o _ _ _ _ _ _ _ (by omega) (by omega) (by omega)]
    · have ej : jG w lm P lw n f h g = false := jG_P h9 hgP
      refine ⟨m, ?_, fun q => (by rw [ej] at q; cases q), rfl, fun _ _ => rfl⟩
      rw [ej]
      show Go O (d + 3) kX6_triedFigure _ _ 0 [.ref 0, .int (nI n), .int (nI g)] [] m
      refine go_iload_n dX6_triedFigure_0 rfl ?_
      refine go_bipush (nI 9) dX6_triedFigure_1 (by decide +kernel) ?_
      refine go_icmp_ne 34 dX6_triedFigure_3 (by decide) (fun h3 => ?_) (fun h => absurd h (n9))
      refine go_aload_n dX6_triedFigure_34 rfl ?_
      refine go_iload_n dX6_triedFigure_35 rfl ?_
      refine go_callV1 (K' := kX6_isPerson) [_] dX6_triedFigure_36 mX6_105 lX6_isPerson rfl (by decide) rfl (by decide) rfl rfl (Nat.le_of_ble_eq_true rfl) (Nat.le_of_ble_eq_true rfl) (c_isPerson_29 hT t5 hP6) ?_
      refine go_if_eq 58 dX6_triedFigure_39 (by decide) (fun h39 => ?_) (fun h => absurd (bI_0.mpr (iR_big (by omega) (nI_le (by omega) (by omega)))) h)
      refine go_iconst (nI 0) dX6_triedFigure_58 (by decide +kernel) ?_
      exact go_zret dX6_triedFigure_59 rfl (by first | exact Or.inl rfl | exact Or.inr rfl) rfl rfl
theorem c_judgeX_29 {O : gOm} {d : Nat} {m : gMem} {w f : Nat → Int32} {lm : Int32} {P N lw n hr cnt row : Nat} {lim : Nat → Nat} (hP6 : P ≤ 6) (hN3 : N ≤ 3) (hnN : n < N) (hl3 : lw < 3) (hw : PlOk w P) (hc : cnt < 5) (hrow : row < 2 ^ 31) (hlm : lm = nI (lim n)) (hl9 : lim n ≤ 9) : ∀ q i (m : gMem) f h, i + q = cnt → DyT m 29 P N lw n w lm → StP m 8 f h → PgOk lim N f h → ∃ m', Go O (d + 4) kX6_judge (some (.int (jR w lm P N lw n (fgO row cnt) q i f h))) m' 51 [.ref 0, .int (nI n), .int (nI cnt), .int (nI row), .int (nI i)] [] m ∧ m'.2 = m.2 ∧ ∀ k, (k < 8 ∨ 12 < k) → m'.1 k = m.1 k := by
  intro q
  induction q with
  | zero =>
    intro i m f h hi hD hS hok
    refine ⟨m, ?_, rfl, fun _ _ => rfl⟩
    rw [jR]
    refine go_iload dX6_judge_51 rfl ?_
    refine go_iload_n dX6_judge_53 rfl ?_
    refine go_icmp_ge 84 dX6_judge_54 (by decide) (fun h54 => ?_) (fun h => absurd (nI_le (by omega) (by omega)) h)
    refine go_bipush (-9) dX6_judge_84 (by decide +kernel) ?_
    exact go_iret dX6_judge_86 rfl rfl rfl
  | succ q ih =>
    intro i m f h hi hD hS hok
    obtain ⟨m1, c1, s1, e1, g1⟩ := c_tried_29 (O := O) (d := d) (m := m) (w := w) (f := f) (lm := lm) (P := P) (N := N) (lw := lw) (n := n) (g := fgO row cnt i) (h := h) (lim := lim) hP6 hN3 hnN hl3 hw (fgO_lt _ _ _) hD hS hok
    have cf := c_figureOf (O := O) (d := d + 3) (m := m) (r := row) (b := cnt - 1 - i) hrow (by omega)
    rw [show row / 10 ^ (cnt - 1 - i) % 10 = fgO row cnt i from rfl] at cf
    rw [jR]
    cases hB : jG w lm P lw n f h (fgO row cnt i) with
    | false =>
      rw [hB] at c1
      rw [if_neg (by simp)]
      refine ⟨m1, ?_, e1, g1⟩
      refine go_iload dX6_judge_51 rfl ?_
      refine go_iload_n dX6_judge_53 rfl ?_
      refine go_icmp_ge 84 dX6_judge_54 (by decide) (fun h => absurd h (nI_ge (by omega) (by omega))) (fun h54 => ?_)
      refine go_aload_n dX6_judge_57 rfl ?_
      refine go_iload_n dX6_judge_58 rfl ?_
      refine go_iload_n dX6_judge_59 rfl ?_
      refine go_iload_n dX6_judge_60 rfl ?_
      refine go_iconst (nI 1) dX6_judge_61 (by decide +kernel) ?_
      refine go_isub dX6_judge_62 (pk_sub (by omega)) ?_
      refine go_iload dX6_judge_63 rfl ?_
      refine go_isub dX6_judge_65 (pk_sub (by omega)) ?_
      refine go_callS1 (K' := kX6_figureOf) [_, _] dX6_judge_66 mX6_186 lX6_figureOf rfl rfl (Nat.le_of_ble_eq_true rfl) (Nat.le_of_ble_eq_true rfl) (cf) ?_
      refine go_callV1 (K' := kX6_triedFigure) [_, _] dX6_judge_69 mX6_189 lX6_triedFigure rfl (by decide) rfl (by decide) rfl rfl (Nat.le_of_ble_eq_true rfl) (Nat.le_of_ble_eq_true rfl) (c1) ?_
      refine go_if_ne 78 dX6_judge_72 (by decide) (fun h => absurd h (fun q => q (bI_0.mpr rfl))) (fun h72 => ?_)
      refine go_iload dX6_judge_75 rfl ?_
      exact go_iret dX6_judge_77 rfl rfl rfl
    | true =>
      rw [hB] at c1
      rw [if_pos rfl]
      obtain ⟨m2, p1, e2, g2⟩ := ih (i + 1) m1 _ _ (by omega) (hD.kept e1 (g1 _ (by omega)) (g1 _ (by omega)) (g1 _ (by omega)) (g1 _ (by omega))) (s1 hB) (jOk hP6 hN3 hnN hw hlm hl9 hok hB)
      refine ⟨m2, ?_, e2.trans e1, fun k hk => (g2 k hk).trans (g1 k hk)⟩
      refine go_iload dX6_judge_51 rfl ?_
      refine go_iload_n dX6_judge_53 rfl ?_
      refine go_icmp_ge 84 dX6_judge_54 (by decide) (fun h => absurd h (nI_ge (by omega) (by omega))) (fun h54 => ?_)
      refine go_aload_n dX6_judge_57 rfl ?_
      refine go_iload_n dX6_judge_58 rfl ?_
      refine go_iload_n dX6_judge_59 rfl ?_
      refine go_iload_n dX6_judge_60 rfl ?_
      refine go_iconst (nI 1) dX6_judge_61 (by decide +kernel) ?_
      refine go_isub dX6_judge_62 (pk_sub (by omega)) ?_
      refine go_iload dX6_judge_63 rfl ?_
      refine go_isub dX6_judge_65 (pk_sub (by omega)) ?_
      refine go_callS1 (K' := kX6_figureOf) [_, _] dX6_judge_66 mX6_186 lX6_figureOf rfl rfl (Nat.le_of_ble_eq_true rfl) (Nat.le_of_ble_eq_true rfl) (cf) ?_
      refine go_callV1 (K' := kX6_triedFigure) [_, _] dX6_judge_69 mX6_189 lX6_triedFigure rfl (by decide) rfl (by decide) rfl rfl (Nat.le_of_ble_eq_true rfl) (Nat.le_of_ble_eq_true rfl) (c1) ?_
      refine go_if_ne 78 dX6_judge_72 (by decide) (fun h72 => ?_) (fun h => absurd h (bI_n0.mpr rfl))
      refine go_iinc_n (L' := [_, _, _, _, _]) dX6_judge_78 rfl (by decide) rfl ?_
      refine go_goto 51 dX6_judge_81 (by decide) ?_
      exact p1
theorem c_tried_35 {O : gOm} {d : Nat} {m : gMem} {w f : Nat → Int32} {lm : Int32} {P N lw n g h : Nat} {lim : Nat → Nat} (hP6 : P ≤ 6) (hN3 : N ≤ 3) (hnN : n < N) (hl3 : lw < 3) (hw : PlOk w P) (hg : g < 10) (hD : DyT m 35 P N lw n w lm) (hS : StP m 8 f h) (hok : PgOk lim N f h) : ∃ m', Ca O (d + 3) kX6_triedFigure [.ref 0, .int (nI n), .int (nI g)] (some (.int (bI (jG w lm P lw n f h g)))) m m' ∧ (jG w lm P lw n f h g = true → StP m' 8 (jF w P N n f h g) (jH h g)) ∧ m'.2 = m.2 ∧ ∀ k, (k < 8 ∨ 12 < k) → m'.1 k = m.1 k := by
  obtain ⟨hT, t5, t6, t7, tp, tg, tl⟩ := id hD
  obtain ⟨s4, sk, st, sa, spl⟩ := id hS
  obtain ⟨ok1, ok2, ok3, ok4, ok5⟩ := id hok
  by_cases h9 : g = 9
  · subst h9
    by_cases h5 : h < 5
    · have ej : jG w lm P lw n f h 9 = true := by rw [jG, if_pos rfl]; exact decide_eq_true h5
      refine ⟨gup m 8 4 (nI (h + 1)), ?_, fun _ => ?_, rfl, fun k hk => gup_k _ _ (by omega)⟩
      · rw [ej]
        show Go O (d + 3) kX6_triedFigure _ _ 0 [.ref 0, .int (nI n), .int (nI 9)] [] m
        refine go_iload_n dX6_triedFigure_0 rfl ?_
        refine go_bipush (nI 9) dX6_triedFigure_1 (by decide +kernel) ?_
        refine go_icmp_ne 34 dX6_triedFigure_3 (by decide) (fun h => absurd h (fun q => q rfl)) (fun h3 => ?_)
        refine go_aload_n dX6_triedFigure_6 rfl ?_
        refine go_getc dX6_triedFigure_7 fX6_23 rfl (by decide) (by decide) (by decide) rfl ?_
        refine go_geti dX6_triedFigure_10 fX6_94 rfl (by decide) (by decide) (by decide) rfl s4 ?_
        refine go_iconst (nI 5) dX6_triedFigure_13 (by decide +kernel) ?_
        refine go_icmp_lt 19 dX6_triedFigure_14 (by decide) (fun h14 => ?_) (fun h => absurd (nI_lt (by omega) (by omega)) h)
        refine go_aload_n dX6_triedFigure_19 rfl ?_
        refine go_getc dX6_triedFigure_20 fX6_23 rfl (by decide) (by decide) (by decide) rfl ?_
        refine go_dup dX6_triedFigure_23 rfl ?_
        refine go_geti dX6_triedFigure_24 fX6_94 rfl (by decide) (by decide) (by decide) rfl s4 ?_
        refine go_iconst (nI 1) dX6_triedFigure_27 (by decide +kernel) ?_
        first | refine go_iadd_n dX6_triedFigure_28 ?_ | refine go_iadd dX6_triedFigure_28 rfl ?_
        refine go_puti dX6_triedFigure_29 fX6_94 rfl (by decide) (by decide) (by decide) rfl (fun _ _ _ h => by cases h; rfl) (Or.inl rfl) ?_
        refine go_iconst (nI 1) dX6_triedFigure_32 (by decide +kernel) ?_
        exact go_zret dX6_triedFigure_33 rfl (by first | exact Or.inl rfl | exact Or.inr rfl) rfl rfl
      · rw [jF, if_pos rfl, jH, if_pos rfl]
        exact ⟨gup_s _ _ _ _, sk, st, sa, spl⟩
    · have ej : jG w lm P lw n f h 9 = false := by rw [jG, if_pos rfl]; exact decide_eq_false h5
      refine ⟨m, ?_, fun q => (by rw [ej] at q; cases q), rfl, fun _ _ => rfl⟩
      rw [ej]
      show Go O (d + 3) kX6_triedFigure _ _ 0 [.ref 0, .int (nI n), .int (nI 9)] [] m
      refine go_iload_n dX6_triedFigure_0 rfl ?_
      refine go_bipush (nI 9) dX6_triedFigure_1 (by decide +kernel) ?_
      refine go_icmp_ne 34 dX6_triedFigure_3 (by decide) (fun h => absurd h (fun q => q rfl)) (fun h3 => ?_)
      refine go_aload_n dX6_triedFigure_6 rfl ?_
      refine go_getc dX6_triedFigure_7 fX6_23 rfl (by decide) (by decide) (by decide) rfl ?_
      refine go_geti dX6_triedFigure_10 fX6_94 rfl (by decide) (by decide) (by decide) rfl s4 ?_
      refine go_iconst (nI 5) dX6_triedFigure_13 (by decide +kernel) ?_
      refine go_icmp_lt 19 dX6_triedFigure_14 (by decide) (fun h => absurd h (nI_nlt (by omega) (by omega))) (fun h14 => ?_)
      refine go_iconst (nI 0) dX6_triedFigure_17 (by decide +kernel) ?_
      exact go_zret dX6_triedFigure_18 rfl (by first | exact Or.inl rfl | exact Or.inr rfl) rfl rfl
  · have n9 : ¬ nI g = nI 9 := fun q => h9 ((nI_eq (by omega) (by omega)).mp q)
    by_cases hgP : g < P
    · obtain ⟨k, hk, ek⟩ := ok2 n (by omega)
      obtain ⟨av, eav, ha3⟩ := hw g h hgP ok1
      have ej := jG_p (lm := lm) (lw := lw) (n := n) h9 hgP ek hk eav ha3
      have hG : gOf (grp w P h) av < 64 := by
        cases av with
        | none => exact (by decide : (0 : Nat) < 64)
        | some b => exact grp_64 _ _ _ hP6
      have cX : Ca O (d + 2) kX5_allows [.ref 8, .ref 35, .int (nI g), .int (nI n)] (some (.int (bI (jG w lm P lw n f h g)))) m m := by
        rw [ej]
        exact c_allows_8_35 (P := P) s4 ok1 (by omega) (by omega) hk ((sk n (by omega)).trans ek) ((tp g h hgP ok1).trans eav) (fun b hb => ⟨ha3 b hb, by rw [hb]; exact tg h b ok1 (ha3 b hb), by rw [hb]; exact spl n b (by omega) (ha3 b hb)⟩) (fun e => by rw [e]; rfl) hG (by rw [spl n 0 (by omega) (by omega), spl n 1 (by omega) (by omega), spl n 2 (by omega) (by omega)]; exact ok3 n (by omega)) tl (st g n (by omega) (by omega)) t7 hl3
      cases hB : jG w lm P lw n f h g with
      | false =>
        rw [hB] at cX
        refine ⟨m, ?_, fun q => (by cases q), rfl, fun _ _ => rfl⟩
        show Go O (d + 3) kX6_triedFigure _ _ 0 [.ref 0, .int (nI n), .int (nI g)] [] m
        refine go_iload_n dX6_triedFigure_0 rfl ?_
        refine go_bipush (nI 9) dX6_triedFigure_1 (by decide +kernel) ?_
        refine go_icmp_ne 34 dX6_triedFigure_3 (by decide) (fun h3 => ?_) (fun h => absurd h (n9))
        refine go_aload_n dX6_triedFigure_34 rfl ?_
        refine go_iload_n dX6_triedFigure_35 rfl ?_
        refine go_callV1 (K' := kX6_isPerson) [_] dX6_triedFigure_36 mX6_105 lX6_isPerson rfl (by decide) rfl (by decide) rfl rfl (Nat.le_of_ble_eq_true rfl) (Nat.le_of_ble_eq_true rfl) (c_isPerson_35 hT t5 hP6) ?_
        refine go_if_eq 58 dX6_triedFigure_39 (by decide) (fun h => absurd h (bI_n0.mpr (iR_nI hgP (by omega)))) (fun h39 => ?_)
        refine go_aload_n dX6_triedFigure_42 rfl ?_
        refine go_getc dX6_triedFigure_43 fX6_23 rfl (by decide) (by decide) (by decide) rfl ?_
        refine go_aload_n dX6_triedFigure_46 rfl ?_
        refine go_getm dX6_triedFigure_47 fX6_47 rfl (by decide) (by decide) (by decide) rfl hT ?_
        refine go_iload_n dX6_triedFigure_50 rfl ?_
        refine go_iload_n dX6_triedFigure_51 rfl ?_
        refine go_callV1 (K' := kX5_allows) [_, _, _] dX6_triedFigure_52 mX6_146 lX5_allows rfl (by decide) rfl (by decide) rfl rfl (Nat.le_of_ble_eq_true rfl) (Nat.le_of_ble_eq_true rfl) (cX) ?_
        refine go_if_ne 60 dX6_triedFigure_55 (by decide) (fun h => absurd h (fun q => q (bI_0.mpr rfl))) (fun h55 => ?_)
        refine go_iconst (nI 0) dX6_triedFigure_58 (by decide +kernel) ?_
        exact go_zret dX6_triedFigure_59 rfl (by first | exact Or.inl rfl | exact Or.inr rfl) rfl rfl
      | true =>
        rw [hB] at cX ej
        obtain ⟨z1, z2, z3⟩ := mT_true ej.symm
        cases av with
        | none => exact absurd z2 (by rw [show gOf (grp w P h) none = 0 from rfl, pc6_0]; omega)
        | some a =>
          have ha := ha3 a rfl
          replace eav : w (6 * g + h) = nI a := eav
          replace hG : (grp w P h a) < 64 := hG
          have cS := c_spread_8_35 (O := O) (d := d) (m := m) (P := P) (N := N) (h := h) (p := g) (n := n) (a := a) (G := (grp w P h a)) (k := k) s4 ok1 (by omega) (by omega) ha ((tp g h hgP ok1).trans eav) (tg h a ok1 ha) hG t5 hP6 t6 hN3 ((sk n (by omega)).trans ek) hk
          refine ⟨(gupA (ctM m 8 g n a (grp w P h a) P (nI 1)) 9 (jhP (upd (m.1 9) n (nI (k ||| (grp w P h a)))) N)), ?_, fun _ => ?_, rfl, fun i hi => ?_⟩
          · show Go O (d + 3) kX6_triedFigure _ _ 0 [.ref 0, .int (nI n), .int (nI g)] [] m
            refine go_iload_n dX6_triedFigure_0 rfl ?_
            refine go_bipush (nI 9) dX6_triedFigure_1 (by decide +kernel) ?_
            refine go_icmp_ne 34 dX6_triedFigure_3 (by decide) (fun h3 => ?_) (fun h => absurd h (n9))
            refine go_aload_n dX6_triedFigure_34 rfl ?_
            refine go_iload_n dX6_triedFigure_35 rfl ?_
            refine go_callV1 (K' := kX6_isPerson) [_] dX6_triedFigure_36 mX6_105 lX6_isPerson rfl (by decide) rfl (by decide) rfl rfl (Nat.le_of_ble_eq_true rfl) (Nat.le_of_ble_eq_true rfl) (c_isPerson_35 hT t5 hP6) ?_
            refine go_if_eq 58 dX6_triedFigure_39 (by decide) (fun h => absurd h (bI_n0.mpr (iR_nI hgP (by omega)))) (fun h39 => ?_)
            refine go_aload_n dX6_triedFigure_42 rfl ?_
            refine go_getc dX6_triedFigure_43 fX6_23 rfl (by decide) (by decide) (by decide) rfl ?_
            refine go_aload_n dX6_triedFigure_46 rfl ?_
            refine go_getm dX6_triedFigure_47 fX6_47 rfl (by decide) (by decide) (by decide) rfl hT ?_
            refine go_iload_n dX6_triedFigure_50 rfl ?_
            refine go_iload_n dX6_triedFigure_51 rfl ?_
            refine go_callV1 (K' := kX5_allows) [_, _, _] dX6_triedFigure_52 mX6_146 lX5_allows rfl (by decide) rfl (by decide) rfl rfl (Nat.le_of_ble_eq_true rfl) (Nat.le_of_ble_eq_true rfl) (cX) ?_
            refine go_if_ne 60 dX6_triedFigure_55 (by decide) (fun h55 => ?_) (fun h => absurd h (bI_n0.mpr rfl))
            refine go_aload_n dX6_triedFigure_60 rfl ?_
            refine go_getc dX6_triedFigure_61 fX6_23 rfl (by decide) (by decide) (by decide) rfl ?_
            refine go_aload_n dX6_triedFigure_64 rfl ?_
            refine go_getm dX6_triedFigure_65 fX6_47 rfl (by decide) (by decide) (by decide) rfl hT ?_
            refine go_iload_n dX6_triedFigure_68 rfl ?_
            refine go_iload_n dX6_triedFigure_69 rfl ?_
            refine go_callV1 (K' := kX5_spread) [_, _, _] dX6_triedFigure_70 mX6_158 lX5_spread rfl (by decide) rfl (by decide) rfl rfl (Nat.le_of_ble_eq_true rfl) (Nat.le_of_ble_eq_true rfl) (cS) ?_
            refine go_pop dX6_triedFigure_73 rfl ?_
            refine go_iconst (nI 1) dX6_triedFigure_74 (by decide +kernel) ?_
            exact go_zret dX6_triedFigure_75 rfl (by first | exact Or.inl rfl | exact Or.inr rfl) rfl rfl
          · rw [jF_p h9 eav ha, jH, if_neg h9]
            exact hS.spread (by omega) (by omega) ha hP6 ((sk n (by omega)).trans ek)
          · rw [gupA_k _ _ (by omega), ctM_o _ _ _ _ _ _ _ (by omega) (by omega) (by omega)]
    · have ej : jG w lm P lw n f h g = false := jG_P h9 hgP
      refine ⟨m, ?_, fun q => (by rw [ej] at q; cases q), rfl, fun _ _ => rfl⟩
      rw [ej]
      show Go O (d + 3) kX6_triedFigure _ _ 0 [.ref 0, .int (nI n), .int (nI g)] [] m
      refine go_iload_n dX6_triedFigure_0 rfl ?_
      refine go_bipush (nI 9) dX6_triedFigure_1 (by decide +kernel) ?_
      refine go_icmp_ne 34 dX6_triedFigure_3 (by decide) (fun h3 => ?_) (fun h => absurd h (n9))
      refine go_aload_n dX6_triedFigure_34 rfl ?_
      refine go_iload_n dX6_triedFigure_35 rfl ?_
      refine go_callV1 (K' := kX6_isPerson) [_] dX6_triedFigure_36 mX6_105 lX6_isPerson rfl (by decide) rfl (by decide) rfl rfl (Nat.le_of_ble_eq_true rfl) (Nat.le_of_ble_eq_true rfl) (c_isPerson_35 hT t5 hP6) ?_
      refine go_if_eq 58 dX6_triedFigure_39 (by decide) (fun h39 => ?_) (fun h => absurd (bI_0.mpr (iR_big (by omega) (nI_le (by omega) (by omega)))) h)
      refine go_iconst (nI 0) dX6_triedFigure_58 (by decide +kernel) ?_
      exact go_zret dX6_triedFigure_59 rfl (by first | exact Or.inl rfl | exact Or.inr rfl) rfl rfl
theorem c_judgeX_35 {O : gOm} {d : Nat} {m : gMem} {w f : Nat → Int32} {lm : Int32} {P N lw n hr cnt row : Nat} {lim : Nat → Nat} (hP6 : P ≤ 6) (hN3 : N ≤ 3) (hnN : n < N) (hl3 : lw < 3) (hw : PlOk w P) (hc : cnt < 5) (hrow : row < 2 ^ 31) (hlm : lm = nI (lim n)) (hl9 : lim n ≤ 9) : ∀ q i (m : gMem) f h, i + q = cnt → DyT m 35 P N lw n w lm → StP m 8 f h → PgOk lim N f h → ∃ m', Go O (d + 4) kX6_judge (some (.int (jR w lm P N lw n (fgO row cnt) q i f h))) m' 51 [.ref 0, .int (nI n), .int (nI cnt), .int (nI row), .int (nI i)] [] m ∧ m'.2 = m.2 ∧ ∀ k, (k < 8 ∨ 12 < k) → m'.1 k = m.1 k := by
  intro q
  induction q with
  | zero =>
    intro i m f h hi hD hS hok
    refine ⟨m, ?_, rfl, fun _ _ => rfl⟩
    rw [jR]
    refine go_iload dX6_judge_51 rfl ?_
    refine go_iload_n dX6_judge_53 rfl ?_
    refine go_icmp_ge 84 dX6_judge_54 (by decide) (fun h54 => ?_) (fun h => absurd (nI_le (by omega) (by omega)) h)
    refine go_bipush (-9) dX6_judge_84 (by decide +kernel) ?_
    exact go_iret dX6_judge_86 rfl rfl rfl
  | succ q ih =>
    intro i m f h hi hD hS hok
    obtain ⟨m1, c1, s1, e1, g1⟩ := c_tried_35 (O := O) (d := d) (m := m) (w := w) (f := f) (lm := lm) (P := P) (N := N) (lw := lw) (n := n) (g := fgO row cnt i) (h := h) (lim := lim) hP6 hN3 hnN hl3 hw (fgO_lt _ _ _) hD hS hok
    have cf := c_figureOf (O := O) (d := d + 3) (m := m) (r := row) (b := cnt - 1 - i) hrow (by omega)
    rw [show row / 10 ^ (cnt - 1 - i) % 10 = fgO row cnt i from rfl] at cf
    rw [jR]
    cases hB : jG w lm P lw n f h (fgO row cnt i) with
    | false =>
      rw [hB] at c1
      rw [if_neg (by simp)]
      refine ⟨m1, ?_, e1, g1⟩
      refine go_iload dX6_judge_51 rfl ?_
      refine go_iload_n dX6_judge_53 rfl ?_
      refine go_icmp_ge 84 dX6_judge_54 (by decide) (fun h => absurd h (nI_ge (by omega) (by omega))) (fun h54 => ?_)
      refine go_aload_n dX6_judge_57 rfl ?_
      refine go_iload_n dX6_judge_58 rfl ?_
      refine go_iload_n dX6_judge_59 rfl ?_
      refine go_iload_n dX6_judge_60 rfl ?_
      refine go_iconst (nI 1) dX6_judge_61 (by decide +kernel) ?_
      refine go_isub dX6_judge_62 (pk_sub (by omega)) ?_
      refine go_iload dX6_judge_63 rfl ?_
      refine go_isub dX6_judge_65 (pk_sub (by omega)) ?_
      refine go_callS1 (K' := kX6_figureOf) [_, _] dX6_judge_66 mX6_186 lX6_figureOf rfl rfl (Nat.le_of_ble_eq_true rfl) (Nat.le_of_ble_eq_true rfl) (cf) ?_
      refine go_callV1 (K' := kX6_triedFigure) [_, _] dX6_judge_69 mX6_189 lX6_triedFigure rfl (by decide) rfl (by decide) rfl rfl (Nat.le_of_ble_eq_true rfl) (Nat.le_of_ble_eq_true rfl) (c1) ?_
      refine go_if_ne 78 dX6_judge_72 (by decide) (fun h => absurd h (fun q => q (bI_0.mpr rfl))) (fun h72 => ?_)
      refine go_iload dX6_judge_75 rfl ?_
      exact go_iret dX6_judge_77 rfl rfl rfl
    | true =>
      rw [hB] at c1
      rw [if_pos rfl]
      obtain ⟨m2, p1, e2, g2⟩ := ih (i + 1) m1 _ _ (by omega) (hD.kept e1 (g1 _ (by omega)) (g1 _ (by omega)) (g1 _ (by omega)) (g1 _ (by omega))) (s1 hB) (jOk hP6 hN3 hnN hw hlm hl9 hok hB)
      refine ⟨m2, ?_, e2.trans e1, fun k hk => (g2 k hk).trans (g1 k hk)⟩
      refine go_iload dX6_judge_51 rfl ?_
      refine go_iload_n dX6_judge_53 rfl ?_
      refine go_icmp_ge 84 dX6_judge_54 (by decide) (fun h => absurd h (nI_ge (by omega) (by omega))) (fun h54 => ?_)
      refine go_aload_n dX6_judge_57 rfl ?_
      refine go_iload_n dX6_judge_58 rfl ?_
      refine go_iload_n dX6_judge_59 rfl ?_
      refine go_iload_n dX6_judge_60 rfl ?_
      refine go_iconst (nI 1) dX6_judge_61 (by decide +kernel) ?_
      refine go_isub dX6_judge_62 (pk_sub (by omega)) ?_
      refine go_iload dX6_judge_63 rfl ?_
      refine go_isub dX6_judge_65 (pk_sub (by omega)) ?_
      refine go_callS1 (K' := kX6_figureOf) [_, _] dX6_judge_66 mX6_186 lX6_figureOf rfl rfl (Nat.le_of_ble_eq_true rfl) (Nat.le_of_ble_eq_true rfl) (cf) ?_
      refine go_callV1 (K' := kX6_triedFigure) [_, _] dX6_judge_69 mX6_189 lX6_triedFigure rfl (by decide) rfl (by decide) rfl rfl (Nat.le_of_ble_eq_true rfl) (Nat.le_of_ble_eq_true rfl) (c1) ?_
      refine go_if_ne 78 dX6_judge_72 (by decide) (fun h72 => ?_) (fun h => absurd h (bI_n0.mpr rfl))
      refine go_iinc_n (L' := [_, _, _, _, _]) dX6_judge_78 rfl (by decide) rfl ?_
      refine go_goto 51 dX6_judge_81 (by decide) ?_
      exact p1
theorem p10_d {cnt i : Nat} (h : i < cnt) : 10 ^ (cnt - i) / 10 = 10 ^ (cnt - 1 - i) := by
  rw [show cnt - i = (cnt - 1 - i) + 1 by omega, Nat.pow_succ, Nat.mul_div_cancel _ (by omega)]
theorem p10_b : ∀ c, c < 5 → 0 < 10 ^ c ∧ 10 ^ c ≤ 10000 := by decide +kernel
theorem c_judgeM {O : gOm} {d : Nat} {m : gMem} {w : Nat → Int32} {lm : Int32} {P N lw n cnt row : Nat} {lim : Nat → Nat} (hP : m.1 46 4 = nI P) (hP6 : P ≤ 6) (hN : m.1 46 5 = nI N) (hN3 : N ≤ 3) (hnN : n < N) (hlw : m.1 46 6 = nI lw) (hl3 : lw < 3) (h48 : m.1 48 = w) (hw : PlOk w P) (h49 : m.1 49 n = lm) (hc : cnt < 5) (hrow : row < 10000) (hlm : lm = nI (lim n)) (hl9 : lim n ≤ 9) : ∀ q i f h, i + q = cnt → PgOk lim N f h → ∃ f', ∀ u7 u8, Go O (d + 4) kX7_judge (some (.int (jR w lm P N lw n (fgO row cnt) q i f h))) (gupA m 60 f') 116 [.ref 46, .int (nI n), .int (nI cnt), .int (nI row), .int (nI (10 ^ (cnt - i))), .int (nI h), .int (nI i), u7, u8] [] (gupA m 60 f) := by
  intro q
  induction q with
  | zero =>
    intro i f h hi hok
    refine ⟨f, fun u7 u8 => ?_⟩
    rw [jR]
    refine go_iload dX7_judge_116 rfl ?_
    refine go_iload_n dX7_judge_118 rfl ?_
    refine go_icmp_ge 231 dX7_judge_119 (by decide) (fun h119 => ?_) (fun h => absurd (nI_le (by omega) (by omega)) h)
    refine go_bipush (-9) dX7_judge_231 (by decide +kernel) ?_
    exact go_iret dX7_judge_233 rfl rfl rfl
  | succ q ih =>
    intro i f h hi hok
    have ok1 := hok.1
    obtain ⟨b1, b2⟩ := p10_b (cnt - i) (by omega)
    obtain ⟨b3, b4⟩ := p10_b (cnt - 1 - i) (by omega)
    have v126 : nI (10 ^ (cnt - i)) / nI 10 = nI (10 ^ (cnt - 1 - i)) := (pk_div (by omega) (by omega) (by omega)).trans (congrArg nI (p10_d (by omega)))
    have v132 : nI row / nI (10 ^ (cnt - 1 - i)) = nI (row / 10 ^ (cnt - 1 - i)) := pk_div (by omega) (by omega) (by omega)
    have hdl := Nat.div_le_self row (10 ^ (cnt - 1 - i))
    have v135 : nI (row / 10 ^ (cnt - 1 - i)) - nI (row / 10 ^ (cnt - 1 - i)) / nI 10 * nI 10 = nI (fgO row cnt i) := pk_rem (by omega) (by omega) (by omega)
    have hg := fgO_lt row cnt i
    rw [jR]
    generalize fgO row cnt i = g at v135 hg ⊢
    have nz : ¬ nI (10 ^ (cnt - 1 - i)) = 0 := nI_ne0 (by omega) (by omega)
    -- the answer, where it isn't good
    have no : ∀ u8, Go O (d + 4) kX7_judge (some (.int (nI i))) (gupA m 60 f) 189 [.ref 46, .int (nI n), .int (nI cnt), .int (nI row), .int (nI (10 ^ (cnt - 1 - i))), .int (nI h), .int (nI i), .int (nI g), u8] [.int (nI 0)] (gupA m 60 f) := by
      intro u8
      refine go_istore (L' := [_, _, _, _, _, _, _, _, _]) dX7_judge_189 (by decide) rfl ?_
      refine go_iload dX7_judge_191 rfl ?_
      refine go_if_ne 199 dX7_judge_193 (by decide) (fun h => absurd h (fun q => q rfl)) (fun h193 => ?_)
      refine go_iload dX7_judge_196 rfl ?_
      exact go_iret dX7_judge_198 rfl rfl rfl
    by_cases h9 : g = 9
    · subst h9
      by_cases h5 : h < 5
      · have ej : jG w lm P lw n f h 9 = true := by rw [jG, if_pos rfl]; exact decide_eq_true h5
        obtain ⟨f', p1⟩ := ih (i + 1) _ _ (by omega) (jOk (g := 9) hP6 hN3 hnN hw hlm hl9 hok ej)
        rw [show cnt - (i + 1) = cnt - 1 - i by omega] at p1
        rw [if_pos ej]
        refine ⟨f', fun u7 u8 => ?_⟩
        rw [show jF w P N n f h 9 = f by rw [jF, if_pos rfl], show jH h 9 = h + 1 by rw [jH, if_pos rfl]] at p1 ⊢
        refine go_iload dX7_judge_116 rfl ?_
        refine go_iload_n dX7_judge_118 rfl ?_
        refine go_icmp_ge 231 dX7_judge_119 (by decide) (fun h => absurd h (nI_ge (by omega) (by omega))) (fun h119 => ?_)
        refine go_iload dX7_judge_122 rfl ?_
        refine go_bipush (nI 10) dX7_judge_124 (by decide +kernel) ?_
        refine go_idiv dX7_judge_126 (by decide +kernel) v126 ?_
        refine go_istore (L' := [_, _, _, _, _, _, _, _, _]) dX7_judge_127 (by decide) rfl ?_
        refine go_iload_n dX7_judge_129 rfl ?_
        refine go_iload dX7_judge_130 rfl ?_
        refine go_idiv dX7_judge_132 nz v132 ?_
        refine go_bipush (nI 10) dX7_judge_133 (by decide +kernel) ?_
        refine go_irem dX7_judge_135 (by decide +kernel) v135 ?_
        refine go_istore (L' := [_, _, _, _, _, _, _, _, _]) dX7_judge_136 (by decide) rfl ?_
        refine go_iload dX7_judge_138 rfl ?_
        refine go_bipush (nI 9) dX7_judge_140 (by decide +kernel) ?_
        refine go_icmp_ne 159 dX7_judge_142 (by decide) (fun h => absurd h (fun q => q rfl)) (fun h142 => ?_)
        refine go_iload dX7_judge_145 rfl ?_
        refine go_iconst (nI 5) dX7_judge_147 (by decide +kernel) ?_
        refine go_icmp_ge 155 dX7_judge_148 (by decide) (fun h => absurd h (nI_ge (by omega) (by omega))) (fun h148 => ?_)
        refine go_iconst (nI 1) dX7_judge_151 (by decide +kernel) ?_
        refine go_goto 189 dX7_judge_152 (by decide) ?_
        refine go_istore (L' := [_, _, _, _, _, _, _, _, _]) dX7_judge_189 (by decide) rfl ?_
        refine go_iload dX7_judge_191 rfl ?_
        refine go_if_ne 199 dX7_judge_193 (by decide) (fun h193 => ?_) (fun h => absurd h (by decide +kernel))
        refine go_iload dX7_judge_199 rfl ?_
        refine go_bipush (nI 9) dX7_judge_201 (by decide +kernel) ?_
        refine go_icmp_ne 212 dX7_judge_203 (by decide) (fun h => absurd h (fun q => q rfl)) (fun h203 => ?_)
        refine go_iinc_n (L' := [_, _, _, _, _, _, _, _, _]) dX7_judge_206 rfl (by decide) rfl ?_
        refine go_goto 225 dX7_judge_209 (by decide) ?_
        refine go_iinc_n (L' := [_, _, _, _, _, _, _, _, _]) dX7_judge_225 rfl (by decide) rfl ?_
        refine go_goto 116 dX7_judge_228 (by decide) ?_
        exact p1 _ _
      · have ej : jG w lm P lw n f h 9 = false := by rw [jG, if_pos rfl]; exact decide_eq_false h5
        rw [if_neg (by rw [ej]; decide)]
        refine ⟨f, fun u7 u8 => ?_⟩
        refine go_iload dX7_judge_116 rfl ?_
        refine go_iload_n dX7_judge_118 rfl ?_
        refine go_icmp_ge 231 dX7_judge_119 (by decide) (fun h => absurd h (nI_ge (by omega) (by omega))) (fun h119 => ?_)
        refine go_iload dX7_judge_122 rfl ?_
        refine go_bipush (nI 10) dX7_judge_124 (by decide +kernel) ?_
        refine go_idiv dX7_judge_126 (by decide +kernel) v126 ?_
        refine go_istore (L' := [_, _, _, _, _, _, _, _, _]) dX7_judge_127 (by decide) rfl ?_
        refine go_iload_n dX7_judge_129 rfl ?_
        refine go_iload dX7_judge_130 rfl ?_
        refine go_idiv dX7_judge_132 nz v132 ?_
        refine go_bipush (nI 10) dX7_judge_133 (by decide +kernel) ?_
        refine go_irem dX7_judge_135 (by decide +kernel) v135 ?_
        refine go_istore (L' := [_, _, _, _, _, _, _, _, _]) dX7_judge_136 (by decide) rfl ?_
        refine go_iload dX7_judge_138 rfl ?_
        refine go_bipush (nI 9) dX7_judge_140 (by decide +kernel) ?_
        refine go_icmp_ne 159 dX7_judge_142 (by decide) (fun h => absurd h (fun q => q rfl)) (fun h142 => ?_)
        refine go_iload dX7_judge_145 rfl ?_
        refine go_iconst (nI 5) dX7_judge_147 (by decide +kernel) ?_
        refine go_icmp_ge 155 dX7_judge_148 (by decide) (fun h148 => ?_) (fun h => absurd (nI_le (by omega) (by omega)) h)
        refine go_iconst (nI 0) dX7_judge_155 (by decide +kernel) ?_
        refine go_goto 189 dX7_judge_156 (by decide) ?_
        exact no _
    · have n9 : ¬ nI g = nI 9 := fun q => h9 ((nI_eq (by omega) (by omega)).mp q)
      by_cases hgP : g < P
      · obtain ⟨k, hk, ek⟩ := hok.2.1 n (by omega)
        obtain ⟨av, eav, ha3⟩ := hw g h hgP ok1
        have ej := jG_p (lm := lm) (lw := lw) (n := n) h9 hgP ek hk eav ha3
        have cM := c_mayTell_60 (O := O) (d := d + 2) (m := gupA m 60 f) (P := P) (h := h) (p := g) (n := n) (kn := k) (lw := lw) (av := av) hP hP6 ok1 hgP (by omega) ek hk (by show m.1 48 _ = _; rw [h48]; exact eav) ha3 hlw hl3
        rw [show (gupA m 60 f).1 60 = f from gupA_s _ _ _, show (gupA m 60 f).1 48 = w from h48, show (gupA m 60 f).1 49 n = lm from h49, ← ej] at cM
        cases hB : jG w lm P lw n f h g with
        | false =>
          rw [hB] at cM
          rw [if_neg (by decide)]
          refine ⟨f, fun u7 u8 => ?_⟩
          refine go_iload dX7_judge_116 rfl ?_
          refine go_iload_n dX7_judge_118 rfl ?_
          refine go_icmp_ge 231 dX7_judge_119 (by decide) (fun h => absurd h (nI_ge (by omega) (by omega))) (fun h119 => ?_)
          refine go_iload dX7_judge_122 rfl ?_
          refine go_bipush (nI 10) dX7_judge_124 (by decide +kernel) ?_
          refine go_idiv dX7_judge_126 (by decide +kernel) v126 ?_
          refine go_istore (L' := [_, _, _, _, _, _, _, _, _]) dX7_judge_127 (by decide) rfl ?_
          refine go_iload_n dX7_judge_129 rfl ?_
          refine go_iload dX7_judge_130 rfl ?_
          refine go_idiv dX7_judge_132 nz v132 ?_
          refine go_bipush (nI 10) dX7_judge_133 (by decide +kernel) ?_
          refine go_irem dX7_judge_135 (by decide +kernel) v135 ?_
          refine go_istore (L' := [_, _, _, _, _, _, _, _, _]) dX7_judge_136 (by decide) rfl ?_
          refine go_iload dX7_judge_138 rfl ?_
          refine go_bipush (nI 9) dX7_judge_140 (by decide +kernel) ?_
          refine go_icmp_ne 159 dX7_judge_142 (by decide) (fun h142 => ?_) (fun h => absurd h (n9))
          refine go_aload_n dX7_judge_159 rfl ?_
          refine go_iload dX7_judge_160 rfl ?_
          refine go_callV1 (K' := kX7_noOne) [_] dX7_judge_162 mX7_150 lX7_noOne rfl (by decide) rfl (by decide) rfl rfl (Nat.le_of_ble_eq_true rfl) (Nat.le_of_ble_eq_true rfl) (c_noOne hP hP6) ?_
          refine go_if_ne 188 dX7_judge_165 (by decide) (fun h => absurd h (fun q => q (bI_0.mpr (by rw [iR_nI hgP (by omega)]; rfl)))) (fun h165 => ?_)
          refine go_aload_n dX7_judge_168 rfl ?_
          refine go_aload_n dX7_judge_169 rfl ?_
          refine go_getc dX7_judge_170 fX7_50 rfl (by decide) (by decide) (by decide) rfl ?_
          refine go_iload dX7_judge_173 rfl ?_
          refine go_iload dX7_judge_175 rfl ?_
          refine go_iload_n dX7_judge_177 rfl ?_
          refine go_callV1 (K' := kX7_mayTell) [_, _, _, _] dX7_judge_178 mX7_161 lX7_mayTell rfl (by decide) rfl (by decide) rfl rfl (Nat.le_of_ble_eq_true rfl) (Nat.le_of_ble_eq_true rfl) (cM) ?_
          refine go_if_eq 188 dX7_judge_181 (by decide) (fun h181 => ?_) (fun h => absurd (bI_0.mpr rfl) h)
          refine go_iconst (nI 0) dX7_judge_188 (by decide +kernel) ?_
          exact no _
        | true =>
          obtain ⟨f', p1⟩ := ih (i + 1) _ _ (by omega) (jOk (g := g) hP6 hN3 hnN hw hlm hl9 hok hB)
          rw [show cnt - (i + 1) = cnt - 1 - i by omega] at p1
          rw [hB] at cM ej
          obtain ⟨z1, z2, z3⟩ := mT_true ej.symm
          cases av with
          | none => exact absurd z2 (by rw [show gOf (grp w P h) none = 0 from rfl, pc6_0]; omega)
          | some a =>
            have ha := ha3 a rfl
            replace eav : w (6 * g + h) = nI a := eav
            have cT := c_tellIt_60 (O := O) (d := d + 2) (m := gupA m 60 f) (P := P) (N := N) (h := h) (p := g) (n := n) (a := a) hP hP6 hN hN3 ok1 hgP (by omega) (by show m.1 48 _ = _; rw [h48]; exact eav) ha
            rw [show (gupA m 60 f).1 60 = f from gupA_s _ _ _, show (gupA m 60 f).1 48 = w from h48, gupA_gupA, ← jF_p h9 eav ha] at cT
            rw [show jH h g = h by rw [jH, if_neg h9]] at p1 ⊢
            rw [if_pos rfl]
            refine ⟨f', fun u7 u8 => ?_⟩
            refine go_iload dX7_judge_116 rfl ?_
            refine go_iload_n dX7_judge_118 rfl ?_
            refine go_icmp_ge 231 dX7_judge_119 (by decide) (fun h => absurd h (nI_ge (by omega) (by omega))) (fun h119 => ?_)
            refine go_iload dX7_judge_122 rfl ?_
            refine go_bipush (nI 10) dX7_judge_124 (by decide +kernel) ?_
            refine go_idiv dX7_judge_126 (by decide +kernel) v126 ?_
            refine go_istore (L' := [_, _, _, _, _, _, _, _, _]) dX7_judge_127 (by decide) rfl ?_
            refine go_iload_n dX7_judge_129 rfl ?_
            refine go_iload dX7_judge_130 rfl ?_
            refine go_idiv dX7_judge_132 nz v132 ?_
            refine go_bipush (nI 10) dX7_judge_133 (by decide +kernel) ?_
            refine go_irem dX7_judge_135 (by decide +kernel) v135 ?_
            refine go_istore (L' := [_, _, _, _, _, _, _, _, _]) dX7_judge_136 (by decide) rfl ?_
            refine go_iload dX7_judge_138 rfl ?_
            refine go_bipush (nI 9) dX7_judge_140 (by decide +kernel) ?_
            refine go_icmp_ne 159 dX7_judge_142 (by decide) (fun h142 => ?_) (fun h => absurd h (n9))
            refine go_aload_n dX7_judge_159 rfl ?_
            refine go_iload dX7_judge_160 rfl ?_
            refine go_callV1 (K' := kX7_noOne) [_] dX7_judge_162 mX7_150 lX7_noOne rfl (by decide) rfl (by decide) rfl rfl (Nat.le_of_ble_eq_true rfl) (Nat.le_of_ble_eq_true rfl) (c_noOne hP hP6) ?_
            refine go_if_ne 188 dX7_judge_165 (by decide) (fun h => absurd h (fun q => q (bI_0.mpr (by rw [iR_nI hgP (by omega)]; rfl)))) (fun h165 => ?_)
            refine go_aload_n dX7_judge_168 rfl ?_
            refine go_aload_n dX7_judge_169 rfl ?_
            refine go_getc dX7_judge_170 fX7_50 rfl (by decide) (by decide) (by decide) rfl ?_
            refine go_iload dX7_judge_173 rfl ?_
            refine go_iload dX7_judge_175 rfl ?_
            refine go_iload_n dX7_judge_177 rfl ?_
            refine go_callV1 (K' := kX7_mayTell) [_, _, _, _] dX7_judge_178 mX7_161 lX7_mayTell rfl (by decide) rfl (by decide) rfl rfl (Nat.le_of_ble_eq_true rfl) (Nat.le_of_ble_eq_true rfl) (cM) ?_
            refine go_if_eq 188 dX7_judge_181 (by decide) (fun h => absurd h (bI_n0.mpr rfl)) (fun h181 => ?_)
            refine go_iconst (nI 1) dX7_judge_184 (by decide +kernel) ?_
            refine go_goto 189 dX7_judge_185 (by decide) ?_
            refine go_istore (L' := [_, _, _, _, _, _, _, _, _]) dX7_judge_189 (by decide) rfl ?_
            refine go_iload dX7_judge_191 rfl ?_
            refine go_if_ne 199 dX7_judge_193 (by decide) (fun h193 => ?_) (fun h => absurd h (by decide +kernel))
            refine go_iload dX7_judge_199 rfl ?_
            refine go_bipush (nI 9) dX7_judge_201 (by decide +kernel) ?_
            refine go_icmp_ne 212 dX7_judge_203 (by decide) (fun h203 => ?_) (fun h => absurd h (n9))
            refine go_aload_n dX7_judge_212 rfl ?_
            refine go_aload_n dX7_judge_213 rfl ?_
            refine go_getc dX7_judge_214 fX7_50 rfl (by decide) (by decide) (by decide) rfl ?_
            refine go_iload dX7_judge_217 rfl ?_
            refine go_iload dX7_judge_219 rfl ?_
            refine go_iload_n dX7_judge_221 rfl ?_
            refine go_callV0 (K' := kX7_tellIt) [_, _, _, _] dX7_judge_222 mX7_172 lX7_tellIt rfl (by decide) rfl (by decide) rfl rfl (Nat.le_of_ble_eq_true rfl) (Nat.le_of_ble_eq_true rfl) (cT) ?_
            refine go_iinc_n (L' := [_, _, _, _, _, _, _, _, _]) dX7_judge_225 rfl (by decide) rfl ?_
            refine go_goto 116 dX7_judge_228 (by decide) ?_
            exact p1 _ _
      · have ej : jG w lm P lw n f h g = false := jG_P h9 hgP
        rw [if_neg (by rw [ej]; decide)]
        refine ⟨f, fun u7 u8 => ?_⟩
        refine go_iload dX7_judge_116 rfl ?_
        refine go_iload_n dX7_judge_118 rfl ?_
        refine go_icmp_ge 231 dX7_judge_119 (by decide) (fun h => absurd h (nI_ge (by omega) (by omega))) (fun h119 => ?_)
        refine go_iload dX7_judge_122 rfl ?_
        refine go_bipush (nI 10) dX7_judge_124 (by decide +kernel) ?_
        refine go_idiv dX7_judge_126 (by decide +kernel) v126 ?_
        refine go_istore (L' := [_, _, _, _, _, _, _, _, _]) dX7_judge_127 (by decide) rfl ?_
        refine go_iload_n dX7_judge_129 rfl ?_
        refine go_iload dX7_judge_130 rfl ?_
        refine go_idiv dX7_judge_132 nz v132 ?_
        refine go_bipush (nI 10) dX7_judge_133 (by decide +kernel) ?_
        refine go_irem dX7_judge_135 (by decide +kernel) v135 ?_
        refine go_istore (L' := [_, _, _, _, _, _, _, _, _]) dX7_judge_136 (by decide) rfl ?_
        refine go_iload dX7_judge_138 rfl ?_
        refine go_bipush (nI 9) dX7_judge_140 (by decide +kernel) ?_
        refine go_icmp_ne 159 dX7_judge_142 (by decide) (fun h142 => ?_) (fun h => absurd h (n9))
        refine go_aload_n dX7_judge_159 rfl ?_
        refine go_iload dX7_judge_160 rfl ?_
        refine go_callV1 (K' := kX7_noOne) [_] dX7_judge_162 mX7_150 lX7_noOne rfl (by decide) rfl (by decide) rfl rfl (Nat.le_of_ble_eq_true rfl) (Nat.le_of_ble_eq_true rfl) (c_noOne hP hP6) ?_
        refine go_if_ne 188 dX7_judge_165 (by decide) (fun h165 => ?_) (fun h => absurd h (bI_n0.mpr (by rw [iR_big (by omega) (nI_le (by omega) (by omega))]; rfl)))
        refine go_iconst (nI 0) dX7_judge_188 (by decide +kernel) ?_
        exact no _
