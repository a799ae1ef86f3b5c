/-! READING A TEXT: the class -/
theorem c_rdPerson_29 {O : gOm} {d : Nat} {m : gMem} {L P N lw st : Nat} {x : Nat → Nat} {w : Nat → Nat → Option Nat} {li wo fi : Nat → Nat} (hX : TxC m L x) (hD : tx_DC m 29 lw P N w li wo fi) (hP : P < 6) (hw : ∀ j, w P j = none) (hst : st ≤ 80) : ∃ m', Ca O (d + 2) kX3_readPerson [.ref 1, .ref 29, .int (nI st)] (some (.int (match tx_rp x L 6 st with | some q => -1 - nI q | none => nI (st + 6)))) m m' ∧ Fr [29, 30, 31, 32, 33, 34] m m' ∧ (tx_rp x L 6 st = none → tx_DC m' 29 lw (P + 1) N (tx_wH w P (tx_w x L st) 6) li wo fi) := by
  have key : ∀ n h (m : gMem), h + n = 6 → TxC m L x → tx_DC m 29 lw P N (tx_wH w P (tx_w x L st) h) li wo fi → ∃ m', (∀ z1 z2, Go O (d + 2) kX3_readPerson (some (.int (match tx_rp x L n (st + h) with | some q => -1 - nI q | none => nI (st + 6)))) m' 2 [.ref 1, .ref 29, .int (nI st), .int (nI h), z1, z2] [] m) ∧ Fr [29, 30, 31, 32, 33, 34] m m' ∧ (tx_rp x L n (st + h) = none → tx_DC m' 29 lw (P + 1) N (tx_wH w P (tx_w x L st) 6) li wo fi) := by
    intro n
    induction n with
    | zero =>
      intro h m hn hX hD
      obtain rfl : h = 6 := by omega
      refine ⟨gup m 29 5 (nI (P + 1)), fun z1 z2 => ?_, (Fr.rf _ _).up (by decide) _ _, fun _ => hD.inc⟩
      refine go_iload_n dX3_readPerson_2 rfl ?_
      refine go_bipush (nI 6) dX3_readPerson_3 (by decide +kernel) ?_
      refine go_icmp_ge 64 dX3_readPerson_5 (by decide) (fun h5 => ?_) (fun h => absurd (nI_le (by omega) (by omega)) h)
      refine go_aload_n dX3_readPerson_64 rfl ?_
      refine go_dup dX3_readPerson_65 rfl ?_
      refine go_geti dX3_readPerson_66 fX3_52 rfl (by decide) (by decide) (by decide) rfl hD.1 ?_
      refine go_iconst (nI 1) dX3_readPerson_69 (by decide +kernel) ?_
      first | refine go_iadd_n dX3_readPerson_70 ?_ | refine go_iadd dX3_readPerson_70 rfl ?_
      refine go_puti dX3_readPerson_71 fX3_52 rfl (by decide) (by decide) (by decide) rfl (fun _ _ _ h => by cases h; rfl) (Or.inl rfl) ?_
      refine go_iload_n dX3_readPerson_74 rfl ?_
      refine go_bipush (nI 6) dX3_readPerson_75 (by decide +kernel) ?_
      first | refine go_iadd_n dX3_readPerson_77 ?_ | refine go_iadd dX3_readPerson_77 rfl ?_
      exact go_iret dX3_readPerson_78 rfl rfl rfl
    | succ n ih =>
      intro h m hn hX hD
      have cf := c_figureAt (O := O) (d := d) (at_ := st + h) (b := 3) hX (by omega) (by omega)
      cases hp : tx_pl x L (st + h) with
      | none =>
        obtain ⟨q1, q2⟩ := tx_pl_n hp
        have e : tx_rp x L (n + 1) (st + h) = some (st + h) := by rw [tx_rp, hp]
        rw [q1] at cf
        rw [e]
        have cs := c_signAt (O := O) (d := d + 1) (at_ := st + h) hX (by omega)
        refine ⟨m, fun z1 z2 => ?_, Fr.rf _ _, fun z => by cases z⟩
        by_cases hl : st + h < L
        · rw [if_pos hl] at cs
          have hb := (hX.2.2 _ hl).1
          refine go_iload_n dX3_readPerson_2 rfl ?_
          refine go_bipush (nI 6) dX3_readPerson_3 (by decide +kernel) ?_
          refine go_icmp_ge 64 dX3_readPerson_5 (by decide) (fun h => absurd h (nI_ge (by omega) (by omega))) (fun h5 => ?_)
          refine go_iload_n dX3_readPerson_8 rfl ?_
          refine go_iload_n dX3_readPerson_9 rfl ?_
          first | refine go_iadd_n dX3_readPerson_10 ?_ | refine go_iadd dX3_readPerson_10 rfl ?_
          refine go_istore (L' := [_, _, _, _, _, _]) dX3_readPerson_11 (by decide) rfl ?_
          refine go_aload_n dX3_readPerson_13 rfl ?_
          refine go_iload dX3_readPerson_14 rfl ?_
          refine go_iconst (nI 3) dX3_readPerson_16 (by decide +kernel) ?_
          refine go_callV1 (K' := kX3_figureAt) [_, _] dX3_readPerson_17 mX3_28 lX3_figureAt rfl (by decide) rfl (by decide) rfl rfl (Nat.le_of_ble_eq_true rfl) (Nat.le_of_ble_eq_true rfl) (cf) ?_
          refine go_istore (L' := [_, _, _, _, _, _]) dX3_readPerson_20 (by decide) rfl ?_
          refine go_iload dX3_readPerson_22 rfl ?_
          refine go_if_lt 41 dX3_readPerson_24 (by decide) (fun h24 => ?_) (fun h => absurd (by decide +kernel) h)
          refine go_aload_n dX3_readPerson_41 rfl ?_
          refine go_iload dX3_readPerson_42 rfl ?_
          refine go_callV1 (K' := kX3_signAt) [_] dX3_readPerson_44 mX3_19 lX3_signAt rfl (by decide) rfl (by decide) rfl rfl (Nat.le_of_ble_eq_true rfl) (Nat.le_of_ble_eq_true rfl) (cs) ?_
          refine go_bipush (nI 45) dX3_readPerson_47 (by decide +kernel) ?_
          refine go_icmp_eq 58 dX3_readPerson_49 (by decide) (fun h => absurd h (fun q => q2 ⟨hl, (nI_eq (by omega) (by omega)).mp q⟩)) (fun h49 => ?_)
          refine go_iload dX3_readPerson_52 rfl ?_
          refine go_callS1 (K' := kX3_faultAt) [_] dX3_readPerson_54 mX3_61 lX3_faultAt rfl rfl (Nat.le_of_ble_eq_true rfl) (Nat.le_of_ble_eq_true rfl) (c_faultAt) ?_
          exact go_iret dX3_readPerson_57 rfl rfl rfl
        · rw [if_neg hl] at cs
          refine go_iload_n dX3_readPerson_2 rfl ?_
          refine go_bipush (nI 6) dX3_readPerson_3 (by decide +kernel) ?_
          refine go_icmp_ge 64 dX3_readPerson_5 (by decide) (fun h => absurd h (nI_ge (by omega) (by omega))) (fun h5 => ?_)
          refine go_iload_n dX3_readPerson_8 rfl ?_
          refine go_iload_n dX3_readPerson_9 rfl ?_
          first | refine go_iadd_n dX3_readPerson_10 ?_ | refine go_iadd dX3_readPerson_10 rfl ?_
          refine go_istore (L' := [_, _, _, _, _, _]) dX3_readPerson_11 (by decide) rfl ?_
          refine go_aload_n dX3_readPerson_13 rfl ?_
          refine go_iload dX3_readPerson_14 rfl ?_
          refine go_iconst (nI 3) dX3_readPerson_16 (by decide +kernel) ?_
          refine go_callV1 (K' := kX3_figureAt) [_, _] dX3_readPerson_17 mX3_28 lX3_figureAt rfl (by decide) rfl (by decide) rfl rfl (Nat.le_of_ble_eq_true rfl) (Nat.le_of_ble_eq_true rfl) (cf) ?_
          refine go_istore (L' := [_, _, _, _, _, _]) dX3_readPerson_20 (by decide) rfl ?_
          refine go_iload dX3_readPerson_22 rfl ?_
          refine go_if_lt 41 dX3_readPerson_24 (by decide) (fun h24 => ?_) (fun h => absurd (by decide +kernel) h)
          refine go_aload_n dX3_readPerson_41 rfl ?_
          refine go_iload dX3_readPerson_42 rfl ?_
          refine go_callV1 (K' := kX3_signAt) [_] dX3_readPerson_44 mX3_19 lX3_signAt rfl (by decide) rfl (by decide) rfl rfl (Nat.le_of_ble_eq_true rfl) (Nat.le_of_ble_eq_true rfl) (cs) ?_
          refine go_bipush (nI 45) dX3_readPerson_47 (by decide +kernel) ?_
          refine go_icmp_eq 58 dX3_readPerson_49 (by decide) (fun h => absurd h (by decide +kernel)) (fun h49 => ?_)
          refine go_iload dX3_readPerson_52 rfl ?_
          refine go_callS1 (K' := kX3_faultAt) [_] dX3_readPerson_54 mX3_61 lX3_faultAt rfl rfl (Nat.le_of_ble_eq_true rfl) (Nat.le_of_ble_eq_true rfl) (c_faultAt) ?_
          exact go_iret dX3_readPerson_57 rfl rfl rfl
      | some o =>
        have e : tx_rp x L (n + 1) (st + h) = tx_rp x L n (st + (h + 1)) := by rw [tx_rp, hp]; rfl
        rw [e]
        cases o with
        | none =>
          obtain ⟨q1, q2, q3⟩ := tx_pl_0 hp
          rw [q1] at cf
          have cs := c_signAt (O := O) (d := d + 1) (at_ := st + h) hX (by omega)
          rw [if_pos q2] at cs
          obtain ⟨m', g1, g2, g3⟩ := ih (h + 1) m (by omega) hX (by rw [tx_wH_n (tx_w_of hp)]; exact hD)
          refine ⟨m', fun z1 z2 => ?_, g2, g3⟩
          refine go_iload_n dX3_readPerson_2 rfl ?_
          refine go_bipush (nI 6) dX3_readPerson_3 (by decide +kernel) ?_
          refine go_icmp_ge 64 dX3_readPerson_5 (by decide) (fun h => absurd h (nI_ge (by omega) (by omega))) (fun h5 => ?_)
          refine go_iload_n dX3_readPerson_8 rfl ?_
          refine go_iload_n dX3_readPerson_9 rfl ?_
          first | refine go_iadd_n dX3_readPerson_10 ?_ | refine go_iadd dX3_readPerson_10 rfl ?_
          refine go_istore (L' := [_, _, _, _, _, _]) dX3_readPerson_11 (by decide) rfl ?_
          refine go_aload_n dX3_readPerson_13 rfl ?_
          refine go_iload dX3_readPerson_14 rfl ?_
          refine go_iconst (nI 3) dX3_readPerson_16 (by decide +kernel) ?_
          refine go_callV1 (K' := kX3_figureAt) [_, _] dX3_readPerson_17 mX3_28 lX3_figureAt rfl (by decide) rfl (by decide) rfl rfl (Nat.le_of_ble_eq_true rfl) (Nat.le_of_ble_eq_true rfl) (cf) ?_
          refine go_istore (L' := [_, _, _, _, _, _]) dX3_readPerson_20 (by decide) rfl ?_
          refine go_iload dX3_readPerson_22 rfl ?_
          refine go_if_lt 41 dX3_readPerson_24 (by decide) (fun h24 => ?_) (fun h => absurd (by decide +kernel) h)
          refine go_aload_n dX3_readPerson_41 rfl ?_
          refine go_iload dX3_readPerson_42 rfl ?_
          refine go_callV1 (K' := kX3_signAt) [_] dX3_readPerson_44 mX3_19 lX3_signAt rfl (by decide) rfl (by decide) rfl rfl (Nat.le_of_ble_eq_true rfl) (Nat.le_of_ble_eq_true rfl) (cs) ?_
          refine go_bipush (nI 45) dX3_readPerson_47 (by decide +kernel) ?_
          refine go_icmp_eq 58 dX3_readPerson_49 (by decide) (fun h49 => ?_) (fun h => absurd (congrArg nI q3) h)
          refine go_iinc_n (L' := [_, _, _, _, _, _]) dX3_readPerson_58 rfl (by decide) rfl ?_
          refine go_goto 2 dX3_readPerson_61 (by decide) ?_
          exact g1 _ _
        | some a =>
          have q1 := tx_pl_1 hp
          rw [q1] at cf
          have ha := (dg_s q1).2.1
          have cp := c_put_29 (O := O) (d := d + 1) (m := m) (p := P) (h := h) (a := a) hP (by omega) ha (hD.2.2.2.2.1 h a (by omega) ha)
          obtain ⟨m', g1, g2, g3⟩ := ih (h + 1) (tx_pt m 29 P h a (tx_gw (tx_wH w P (tx_w x L st) h) h a)) (by omega) (hX.of rfl rfl) (hD.put hP (by omega) (tx_w_of hp) ha)
          refine ⟨m', fun z1 z2 => ?_, Fr.trans (((Fr.rf _ _).up (by decide) _ _).up (by decide) _ _) g2, g3⟩
          refine go_iload_n dX3_readPerson_2 rfl ?_
          refine go_bipush (nI 6) dX3_readPerson_3 (by decide +kernel) ?_
          refine go_icmp_ge 64 dX3_readPerson_5 (by decide) (fun h => absurd h (nI_ge (by omega) (by omega))) (fun h5 => ?_)
          refine go_iload_n dX3_readPerson_8 rfl ?_
          refine go_iload_n dX3_readPerson_9 rfl ?_
          first | refine go_iadd_n dX3_readPerson_10 ?_ | refine go_iadd dX3_readPerson_10 rfl ?_
          refine go_istore (L' := [_, _, _, _, _, _]) dX3_readPerson_11 (by decide) rfl ?_
          refine go_aload_n dX3_readPerson_13 rfl ?_
          refine go_iload dX3_readPerson_14 rfl ?_
          refine go_iconst (nI 3) dX3_readPerson_16 (by decide +kernel) ?_
          refine go_callV1 (K' := kX3_figureAt) [_, _] dX3_readPerson_17 mX3_28 lX3_figureAt rfl (by decide) rfl (by decide) rfl rfl (Nat.le_of_ble_eq_true rfl) (Nat.le_of_ble_eq_true rfl) (cf) ?_
          refine go_istore (L' := [_, _, _, _, _, _]) dX3_readPerson_20 (by decide) rfl ?_
          refine go_iload dX3_readPerson_22 rfl ?_
          refine go_if_lt 41 dX3_readPerson_24 (by decide) (fun h => absurd h (nI_pos (by omega))) (fun h24 => ?_)
          refine go_aload_n dX3_readPerson_27 rfl ?_
          refine go_aload_n dX3_readPerson_28 rfl ?_
          refine go_geti dX3_readPerson_29 fX3_52 rfl (by decide) (by decide) (by decide) rfl hD.1 ?_
          refine go_iload_n dX3_readPerson_32 rfl ?_
          refine go_iload dX3_readPerson_33 rfl ?_
          refine go_callV0 (K' := kX1_put) [_, _, _] dX3_readPerson_35 mX3_64 lX1_put rfl (by decide) rfl (by decide) rfl rfl (Nat.le_of_ble_eq_true rfl) (Nat.le_of_ble_eq_true rfl) (cp) ?_
          refine go_goto 58 dX3_readPerson_38 (by decide) ?_
          refine go_iinc_n (L' := [_, _, _, _, _, _]) dX3_readPerson_58 rfl (by decide) rfl ?_
          refine go_goto 2 dX3_readPerson_61 (by decide) ?_
          exact g1 _ _
  obtain ⟨m', g1, g2, g3⟩ := key 6 0 m (by omega) hX (by rw [tx_wH_0 hw]; exact hD)
  refine ⟨m', ?_, g2, g3⟩
  show Go O (d + 2) kX3_readPerson _ _ 0 [.ref 1, .ref 29, .int (nI st), .null, .null, .null] [] m
  refine go_iconst (nI 0) dX3_readPerson_0 (by decide +kernel) ?_
  refine go_istore_n (L' := [_, _, _, _, _, _]) dX3_readPerson_1 (by decide) rfl ?_
  exact g1 _ _
theorem c_rdNews0_29 {O : gOm} {d : Nat} {m : gMem} {L st : Nat} {x : Nat → Nat} (hX : TxC m L x) (hst : st ≤ 80) (h0 : dg x L st 10 = none) : Ca O (d + 2) kX3_readNews [.ref 1, .ref 29, .int (nI st)] (some (.int (-1 - nI st))) m m := by
  have cf := c_figureAt (O := O) (d := d) (at_ := st) (b := 10) hX (by omega) (by omega)
  rw [h0] at cf
  show Go O (d + 2) kX3_readNews _ _ 0 [.ref 1, .ref 29, .int (nI st), .null, .null, .null, .null, .null, .null] [] m
  refine go_aload_n dX3_readNews_0 rfl ?_
  refine go_iload_n dX3_readNews_1 rfl ?_
  refine go_bipush (nI 10) dX3_readNews_2 (by decide +kernel) ?_
  refine go_callV1 (K' := kX3_figureAt) [_, _] dX3_readNews_4 mX3_28 lX3_figureAt rfl (by decide) rfl (by decide) rfl rfl (Nat.le_of_ble_eq_true rfl) (Nat.le_of_ble_eq_true rfl) (cf) ?_
  refine go_istore_n (L' := [_, _, _, _, _, _, _, _, _]) dX3_readNews_7 (by decide) rfl ?_
  refine go_iload_n dX3_readNews_8 rfl ?_
  refine go_if_ge 17 dX3_readNews_9 (by decide) (fun h => absurd h (by decide +kernel)) (fun h9 => ?_)
  refine go_iload_n dX3_readNews_12 rfl ?_
  refine go_callS1 (K' := kX3_faultAt) [_] dX3_readNews_13 mX3_61 lX3_faultAt rfl rfl (Nat.le_of_ble_eq_true rfl) (Nat.le_of_ble_eq_true rfl) (c_faultAt) ?_
  exact go_iret dX3_readNews_16 rfl rfl rfl
theorem c_rdNews1_29 {O : gOm} {d : Nat} {m : gMem} {L st l : Nat} {x : Nat → Nat} (hX : TxC m L x) (hst : st ≤ 80) (h0 : dg x L st 10 = some l) (h1 : dg x L (st + 1) 10 = none) : Ca O (d + 2) kX3_readNews [.ref 1, .ref 29, .int (nI st)] (some (.int (-1 - nI (st + 1)))) m m := by
  have cf := c_figureAt (O := O) (d := d) (at_ := st) (b := 10) hX (by omega) (by omega)
  have cg := c_figureAt (O := O) (d := d) (at_ := st + 1) (b := 10) hX (by omega) (by omega)
  have hl := (dg_s h0).2.1
  rw [h0] at cf
  rw [h1] at cg
  show Go O (d + 2) kX3_readNews _ _ 0 [.ref 1, .ref 29, .int (nI st), .null, .null, .null, .null, .null, .null] [] m
  refine go_aload_n dX3_readNews_0 rfl ?_
  refine go_iload_n dX3_readNews_1 rfl ?_
  refine go_bipush (nI 10) dX3_readNews_2 (by decide +kernel) ?_
  refine go_callV1 (K' := kX3_figureAt) [_, _] dX3_readNews_4 mX3_28 lX3_figureAt rfl (by decide) rfl (by decide) rfl rfl (Nat.le_of_ble_eq_true rfl) (Nat.le_of_ble_eq_true rfl) (cf) ?_
  refine go_istore_n (L' := [_, _, _, _, _, _, _, _, _]) dX3_readNews_7 (by decide) rfl ?_
  refine go_iload_n dX3_readNews_8 rfl ?_
  refine go_if_ge 17 dX3_readNews_9 (by decide) (fun h9 => ?_) (fun h => absurd (nI_pos' (by omega)) h)
  refine go_aload_n dX3_readNews_17 rfl ?_
  refine go_iload_n dX3_readNews_18 rfl ?_
  refine go_iconst (nI 1) dX3_readNews_19 (by decide +kernel) ?_
  first | refine go_iadd_n dX3_readNews_20 ?_ | refine go_iadd dX3_readNews_20 rfl ?_
  refine go_bipush (nI 10) dX3_readNews_21 (by decide +kernel) ?_
  refine go_callV1 (K' := kX3_figureAt) [_, _] dX3_readNews_23 mX3_28 lX3_figureAt rfl (by decide) rfl (by decide) rfl rfl (Nat.le_of_ble_eq_true rfl) (Nat.le_of_ble_eq_true rfl) (cg) ?_
  refine go_istore (L' := [_, _, _, _, _, _, _, _, _]) dX3_readNews_26 (by decide) rfl ?_
  refine go_iload dX3_readNews_28 rfl ?_
  refine go_if_ge 40 dX3_readNews_30 (by decide) (fun h => absurd h (by decide +kernel)) (fun h30 => ?_)
  refine go_iload_n dX3_readNews_33 rfl ?_
  refine go_iconst (nI 1) dX3_readNews_34 (by decide +kernel) ?_
  first | refine go_iadd_n dX3_readNews_35 ?_ | refine go_iadd dX3_readNews_35 rfl ?_
  refine go_callS1 (K' := kX3_faultAt) [_] dX3_readNews_36 mX3_61 lX3_faultAt rfl rfl (Nat.le_of_ble_eq_true rfl) (Nat.le_of_ble_eq_true rfl) (c_faultAt) ?_
  exact go_iret dX3_readNews_39 rfl rfl rfl
theorem c_rdNews2_29 {O : gOm} {d : Nat} {m : gMem} {L P N lw st l o : Nat} {x : Nat → Nat} {w : Nat → Nat → Option Nat} {li wo fi : Nat → Nat} (hX : TxC m L x) (hD : tx_DC m 29 lw P N w li wo fi) (hP : P ≤ 6) (hN : N < 3) (hst : st ≤ 80) (h0 : dg x L st 10 = some l) (h1 : dg x L (st + 1) 10 = some o) : Ca O (d + 2) kX3_readNews [.ref 1, .ref 29, .int (nI st)] (some (.int (nI (tx_kr x L P 6 (st + 2) 0).1))) m (tx_nw m 29 N l o (tx_kr x L P 6 (st + 2) 0).2) := by
  have cf := c_figureAt (O := O) (d := d) (at_ := st) (b := 10) hX (by omega) (by omega)
  have cg := c_figureAt (O := O) (d := d) (at_ := st + 1) (b := 10) hX (by omega) (by omega)
  have hl := (dg_s h0).2.1
  have ho := (dg_s h1).2.1
  rw [h0] at cf
  rw [h1] at cg
  have tail : ∀ at_ k i (z8 : Value), Go O (d + 2) kX3_readNews (some (.int (nI at_))) (tx_nw m 29 N l o k) 106 [.ref 1, .ref 29, .int (nI st), .int (nI l), .int (nI o), .int (nI at_), .int (nI k), .int (nI i), z8] [] m := by
    intro at_ k i z8
    refine go_aload_n dX3_readNews_106 rfl ?_
    refine go_getc dX3_readNews_107 fX3_68 rfl (by decide) (by decide) (by decide) rfl ?_
    refine go_aload_n dX3_readNews_110 rfl ?_
    refine go_geti dX3_readNews_111 fX3_45 rfl (by decide) (by decide) (by decide) rfl hD.2.1 ?_
    refine go_iload_n dX3_readNews_114 rfl ?_
    refine go_iast dX3_readNews_115 rfl (by decide) rfl (by omega) (by decide) ?_
    refine go_aload_n dX3_readNews_116 rfl ?_
    refine go_getc dX3_readNews_117 fX3_71 rfl (by decide) (by decide) (by decide) rfl ?_
    refine go_aload_n dX3_readNews_120 rfl ?_
    refine go_geti dX3_readNews_121 fX3_45 rfl (by decide) (by decide) (by decide) rfl hD.2.1 ?_
    refine go_iload dX3_readNews_124 rfl ?_
    refine go_iast dX3_readNews_126 rfl (by decide) rfl (by omega) (by decide) ?_
    refine go_aload_n dX3_readNews_127 rfl ?_
    refine go_getc dX3_readNews_128 fX3_42 rfl (by decide) (by decide) (by decide) rfl ?_
    refine go_aload_n dX3_readNews_131 rfl ?_
    refine go_geti dX3_readNews_132 fX3_45 rfl (by decide) (by decide) (by decide) rfl hD.2.1 ?_
    refine go_iload dX3_readNews_135 rfl ?_
    refine go_iast dX3_readNews_137 rfl (by decide) rfl (by omega) (by decide) ?_
    refine go_aload_n dX3_readNews_138 rfl ?_
    refine go_dup dX3_readNews_139 rfl ?_
    refine go_geti dX3_readNews_140 fX3_45 rfl (by decide) (by decide) (by decide) rfl hD.2.1 ?_
    refine go_iconst (nI 1) dX3_readNews_143 (by decide +kernel) ?_
    first | refine go_iadd_n dX3_readNews_144 ?_ | refine go_iadd dX3_readNews_144 rfl ?_
    refine go_puti dX3_readNews_145 fX3_45 rfl (by decide) (by decide) (by decide) rfl (fun _ _ _ h => by cases h; rfl) (Or.inl rfl) ?_
    refine go_iload dX3_readNews_148 rfl ?_
    exact go_iret dX3_readNews_150 rfl rfl rfl
  have key : ∀ n i at_ k (z8 : Value), i + n = 6 → k < 64 → at_ ≤ 100 → at_ + n ≤ 106 → Go O (d + 2) kX3_readNews (some (.int (nI (tx_kr x L P n at_ k).1))) (tx_nw m 29 N l o (tx_kr x L P n at_ k).2) 51 [.ref 1, .ref 29, .int (nI st), .int (nI l), .int (nI o), .int (nI at_), .int (nI k), .int (nI i), z8] [] m := by
    intro n
    induction n with
    | zero =>
      intro i at_ k z8 hi hk ha ha2
      refine go_iload dX3_readNews_51 rfl ?_
      refine go_bipush (nI 6) dX3_readNews_53 (by decide +kernel) ?_
      refine go_icmp_ge 106 dX3_readNews_55 (by decide) (fun h55 => ?_) (fun h => absurd (nI_le (by omega) (by omega)) h)
      exact tail _ _ _ _
    | succ n ih =>
      intro i at_ k z8 hi hk ha ha2
      have ck := c_figureAt (O := O) (d := d) (at_ := at_) (b := P) hX (by omega) (by omega)
      cases hd : dg x L at_ P with
      | none =>
        rw [tx_kr_n hd]
        rw [hd] at ck
        refine go_iload dX3_readNews_51 rfl ?_
        refine go_bipush (nI 6) dX3_readNews_53 (by decide +kernel) ?_
        refine go_icmp_ge 106 dX3_readNews_55 (by decide) (fun h => absurd h (nI_ge (by omega) (by omega))) (fun h55 => ?_)
        refine go_aload_n dX3_readNews_58 rfl ?_
        refine go_iload dX3_readNews_59 rfl ?_
        refine go_aload_n dX3_readNews_61 rfl ?_
        refine go_geti dX3_readNews_62 fX3_52 rfl (by decide) (by decide) (by decide) rfl hD.1 ?_
        refine go_callV1 (K' := kX3_figureAt) [_, _] dX3_readNews_65 mX3_28 lX3_figureAt rfl (by decide) rfl (by decide) rfl rfl (Nat.le_of_ble_eq_true rfl) (Nat.le_of_ble_eq_true rfl) (ck) ?_
        refine go_istore (L' := [_, _, _, _, _, _, _, _, _]) dX3_readNews_68 (by decide) rfl ?_
        refine go_iload dX3_readNews_70 rfl ?_
        refine go_if_lt 106 dX3_readNews_72 (by decide) (fun h72 => ?_) (fun h => absurd (by decide +kernel) h)
        exact tail _ _ _ _
      | some p =>
        obtain ⟨d1, d2, d3⟩ := dg_s hd
        rw [hd] at ck
        have hbit := nb_bit (a := k) (j := p) (by omega) (by omega)
        rw [nb_tb] at hbit
        by_cases hb : k.testBit p = true
        · rw [tx_kr_t hd hb]
          rw [if_pos hb] at hbit
          refine go_iload dX3_readNews_51 rfl ?_
          refine go_bipush (nI 6) dX3_readNews_53 (by decide +kernel) ?_
          refine go_icmp_ge 106 dX3_readNews_55 (by decide) (fun h => absurd h (nI_ge (by omega) (by omega))) (fun h55 => ?_)
          refine go_aload_n dX3_readNews_58 rfl ?_
          refine go_iload dX3_readNews_59 rfl ?_
          refine go_aload_n dX3_readNews_61 rfl ?_
          refine go_geti dX3_readNews_62 fX3_52 rfl (by decide) (by decide) (by decide) rfl hD.1 ?_
          refine go_callV1 (K' := kX3_figureAt) [_, _] dX3_readNews_65 mX3_28 lX3_figureAt rfl (by decide) rfl (by decide) rfl rfl (Nat.le_of_ble_eq_true rfl) (Nat.le_of_ble_eq_true rfl) (ck) ?_
          refine go_istore (L' := [_, _, _, _, _, _, _, _, _]) dX3_readNews_68 (by decide) rfl ?_
          refine go_iload dX3_readNews_70 rfl ?_
          refine go_if_lt 106 dX3_readNews_72 (by decide) (fun h => absurd h (nI_pos (by omega))) (fun h72 => ?_)
          refine go_iload dX3_readNews_75 rfl ?_
          refine go_iload dX3_readNews_77 rfl ?_
          refine go_ishr dX3_readNews_79 rfl ?_
          refine go_iconst (nI 1) dX3_readNews_80 (by decide +kernel) ?_
          refine go_iand dX3_readNews_81 hbit ?_
          refine go_if_eq 88 dX3_readNews_82 (by decide) (fun h => absurd h (by decide +kernel)) (fun h82 => ?_)
          refine go_goto 106 dX3_readNews_85 (by decide) ?_
          exact tail _ _ _ _
        · rw [tx_kr_s hd hb]
          rw [if_neg hb] at hbit
          have hL := hX.1
          have ev : nI k ||| (nI 1 <<< (nI p &&& 31)) = nI (k ||| 2 ^ p) := by rw [nb_one (by omega), nb_or]
          have q := ih (i + 1) (at_ + 1) (k ||| 2 ^ p) (.int (nI p)) (by omega) (or_lt64 hk (tx_p64 p (by omega))) (by omega) (by omega)
          refine go_iload dX3_readNews_51 rfl ?_
          refine go_bipush (nI 6) dX3_readNews_53 (by decide +kernel) ?_
          refine go_icmp_ge 106 dX3_readNews_55 (by decide) (fun h => absurd h (nI_ge (by omega) (by omega))) (fun h55 => ?_)
          refine go_aload_n dX3_readNews_58 rfl ?_
          refine go_iload dX3_readNews_59 rfl ?_
          refine go_aload_n dX3_readNews_61 rfl ?_
          refine go_geti dX3_readNews_62 fX3_52 rfl (by decide) (by decide) (by decide) rfl hD.1 ?_
          refine go_callV1 (K' := kX3_figureAt) [_, _] dX3_readNews_65 mX3_28 lX3_figureAt rfl (by decide) rfl (by decide) rfl rfl (Nat.le_of_ble_eq_true rfl) (Nat.le_of_ble_eq_true rfl) (ck) ?_
          refine go_istore (L' := [_, _, _, _, _, _, _, _, _]) dX3_readNews_68 (by decide) rfl ?_
          refine go_iload dX3_readNews_70 rfl ?_
          refine go_if_lt 106 dX3_readNews_72 (by decide) (fun h => absurd h (nI_pos (by omega))) (fun h72 => ?_)
          refine go_iload dX3_readNews_75 rfl ?_
          refine go_iload dX3_readNews_77 rfl ?_
          refine go_ishr dX3_readNews_79 rfl ?_
          refine go_iconst (nI 1) dX3_readNews_80 (by decide +kernel) ?_
          refine go_iand dX3_readNews_81 hbit ?_
          refine go_if_eq 88 dX3_readNews_82 (by decide) (fun h82 => ?_) (fun h => absurd (rfl) h)
          refine go_iload dX3_readNews_88 rfl ?_
          refine go_iconst (nI 1) dX3_readNews_90 (by decide +kernel) ?_
          refine go_iload dX3_readNews_91 rfl ?_
          refine go_ishl dX3_readNews_93 rfl ?_
          refine go_ior dX3_readNews_94 ev ?_
          refine go_istore (L' := [_, _, _, _, _, _, _, _, _]) dX3_readNews_95 (by decide) rfl ?_
          refine go_iinc_n (L' := [_, _, _, _, _, _, _, _, _]) dX3_readNews_97 rfl (by decide) rfl ?_
          refine go_iinc_n (L' := [_, _, _, _, _, _, _, _, _]) dX3_readNews_100 rfl (by decide) rfl ?_
          refine go_goto 51 dX3_readNews_103 (by decide) ?_
          exact q
  show Go O (d + 2) kX3_readNews _ _ 0 [.ref 1, .ref 29, .int (nI st), .null, .null, .null, .null, .null, .null] [] m
  refine go_aload_n dX3_readNews_0 rfl ?_
  refine go_iload_n dX3_readNews_1 rfl ?_
  refine go_bipush (nI 10) dX3_readNews_2 (by decide +kernel) ?_
  refine go_callV1 (K' := kX3_figureAt) [_, _] dX3_readNews_4 mX3_28 lX3_figureAt rfl (by decide) rfl (by decide) rfl rfl (Nat.le_of_ble_eq_true rfl) (Nat.le_of_ble_eq_true rfl) (cf) ?_
  refine go_istore_n (L' := [_, _, _, _, _, _, _, _, _]) dX3_readNews_7 (by decide) rfl ?_
  refine go_iload_n dX3_readNews_8 rfl ?_
  refine go_if_ge 17 dX3_readNews_9 (by decide) (fun h9 => ?_) (fun h => absurd (nI_pos' (by omega)) h)
  refine go_aload_n dX3_readNews_17 rfl ?_
  refine go_iload_n dX3_readNews_18 rfl ?_
  refine go_iconst (nI 1) dX3_readNews_19 (by decide +kernel) ?_
  first | refine go_iadd_n dX3_readNews_20 ?_ | refine go_iadd dX3_readNews_20 rfl ?_
  refine go_bipush (nI 10) dX3_readNews_21 (by decide +kernel) ?_
  refine go_callV1 (K' := kX3_figureAt) [_, _] dX3_readNews_23 mX3_28 lX3_figureAt rfl (by decide) rfl (by decide) rfl rfl (Nat.le_of_ble_eq_true rfl) (Nat.le_of_ble_eq_true rfl) (cg) ?_
  refine go_istore (L' := [_, _, _, _, _, _, _, _, _]) dX3_readNews_26 (by decide) rfl ?_
  refine go_iload dX3_readNews_28 rfl ?_
  refine go_if_ge 40 dX3_readNews_30 (by decide) (fun h30 => ?_) (fun h => absurd (nI_pos' (by omega)) h)
  refine go_iload_n dX3_readNews_40 rfl ?_
  refine go_iconst (nI 2) dX3_readNews_41 (by decide +kernel) ?_
  first | refine go_iadd_n dX3_readNews_42 ?_ | refine go_iadd dX3_readNews_42 rfl ?_
  refine go_istore (L' := [_, _, _, _, _, _, _, _, _]) dX3_readNews_43 (by decide) rfl ?_
  refine go_iconst (nI 0) dX3_readNews_45 (by decide +kernel) ?_
  refine go_istore (L' := [_, _, _, _, _, _, _, _, _]) dX3_readNews_46 (by decide) rfl ?_
  refine go_iconst (nI 0) dX3_readNews_48 (by decide +kernel) ?_
  refine go_istore (L' := [_, _, _, _, _, _, _, _, _]) dX3_readNews_49 (by decide) rfl ?_
  exact key 6 0 (st + 2) 0 _ (by omega) (by omega) (by omega) (by omega)
theorem c_rdPerson_35 {O : gOm} {d : Nat} {m : gMem} {L P N lw st : Nat} {x : Nat → Nat} {w : Nat → Nat → Option Nat} {li wo fi : Nat → Nat} (hX : TxC m L x) (hD : tx_DC m 35 lw P N w li wo fi) (hP : P < 6) (hw : ∀ j, w P j = none) (hst : st ≤ 80) : ∃ m', Ca O (d + 2) kX3_readPerson [.ref 1, .ref 35, .int (nI st)] (some (.int (match tx_rp x L 6 st with | some q => -1 - nI q | none => nI (st + 6)))) m m' ∧ Fr [35, 36, 37, 38, 39, 40] m m' ∧ (tx_rp x L 6 st = none → tx_DC m' 35 lw (P + 1) N (tx_wH w P (tx_w x L st) 6) li wo fi) := by
  have key : ∀ n h (m : gMem), h + n = 6 → TxC m L x → tx_DC m 35 lw P N (tx_wH w P (tx_w x L st) h) li wo fi → ∃ m', (∀ z1 z2, Go O (d + 2) kX3_readPerson (some (.int (match tx_rp x L n (st + h) with | some q => -1 - nI q | none => nI (st + 6)))) m' 2 [.ref 1, .ref 35, .int (nI st), .int (nI h), z1, z2] [] m) ∧ Fr [35, 36, 37, 38, 39, 40] m m' ∧ (tx_rp x L n (st + h) = none → tx_DC m' 35 lw (P + 1) N (tx_wH w P (tx_w x L st) 6) li wo fi) := by
    intro n
    induction n with
    | zero =>
      intro h m hn hX hD
      obtain rfl : h = 6 := by omega
      refine ⟨gup m 35 5 (nI (P + 1)), fun z1 z2 => ?_, (Fr.rf _ _).up (by decide) _ _, fun _ => hD.inc⟩
      refine go_iload_n dX3_readPerson_2 rfl ?_
      refine go_bipush (nI 6) dX3_readPerson_3 (by decide +kernel) ?_
      refine go_icmp_ge 64 dX3_readPerson_5 (by decide) (fun h5 => ?_) (fun h => absurd (nI_le (by omega) (by omega)) h)
      refine go_aload_n dX3_readPerson_64 rfl ?_
      refine go_dup dX3_readPerson_65 rfl ?_
      refine go_geti dX3_readPerson_66 fX3_52 rfl (by decide) (by decide) (by decide) rfl hD.1 ?_
      refine go_iconst (nI 1) dX3_readPerson_69 (by decide +kernel) ?_
      first | refine go_iadd_n dX3_readPerson_70 ?_ | refine go_iadd dX3_readPerson_70 rfl ?_
      refine go_puti dX3_readPerson_71 fX3_52 rfl (by decide) (by decide) (by decide) rfl (fun _ _ _ h => by cases h; rfl) (Or.inl rfl) ?_
      refine go_iload_n dX3_readPerson_74 rfl ?_
      refine go_bipush (nI 6) dX3_readPerson_75 (by decide +kernel) ?_
      first | refine go_iadd_n dX3_readPerson_77 ?_ | refine go_iadd dX3_readPerson_77 rfl ?_
      exact go_iret dX3_readPerson_78 rfl rfl rfl
    | succ n ih =>
      intro h m hn hX hD
      have cf := c_figureAt (O := O) (d := d) (at_ := st + h) (b := 3) hX (by omega) (by omega)
      cases hp : tx_pl x L (st + h) with
      | none =>
        obtain ⟨q1, q2⟩ := tx_pl_n hp
        have e : tx_rp x L (n + 1) (st + h) = some (st + h) := by rw [tx_rp, hp]
        rw [q1] at cf
        rw [e]
        have cs := c_signAt (O := O) (d := d + 1) (at_ := st + h) hX (by omega)
        refine ⟨m, fun z1 z2 => ?_, Fr.rf _ _, fun z => by cases z⟩
        by_cases hl : st + h < L
        · rw [if_pos hl] at cs
          have hb := (hX.2.2 _ hl).1
          refine go_iload_n dX3_readPerson_2 rfl ?_
          refine go_bipush (nI 6) dX3_readPerson_3 (by decide +kernel) ?_
          refine go_icmp_ge 64 dX3_readPerson_5 (by decide) (fun h => absurd h (nI_ge (by omega) (by omega))) (fun h5 => ?_)
          refine go_iload_n dX3_readPerson_8 rfl ?_
          refine go_iload_n dX3_readPerson_9 rfl ?_
          first | refine go_iadd_n dX3_readPerson_10 ?_ | refine go_iadd dX3_readPerson_10 rfl ?_
          refine go_istore (L' := [_, _, _, _, _, _]) dX3_readPerson_11 (by decide) rfl ?_
          refine go_aload_n dX3_readPerson_13 rfl ?_
          refine go_iload dX3_readPerson_14 rfl ?_
          refine go_iconst (nI 3) dX3_readPerson_16 (by decide +kernel) ?_
          refine go_callV1 (K' := kX3_figureAt) [_, _] dX3_readPerson_17 mX3_28 lX3_figureAt rfl (by decide) rfl (by decide) rfl rfl (Nat.le_of_ble_eq_true rfl) (Nat.le_of_ble_eq_true rfl) (cf) ?_
          refine go_istore (L' := [_, _, _, _, _, _]) dX3_readPerson_20 (by decide) rfl ?_
          refine go_iload dX3_readPerson_22 rfl ?_
          refine go_if_lt 41 dX3_readPerson_24 (by decide) (fun h24 => ?_) (fun h => absurd (by decide +kernel) h)
          refine go_aload_n dX3_readPerson_41 rfl ?_
          refine go_iload dX3_readPerson_42 rfl ?_
          refine go_callV1 (K' := kX3_signAt) [_] dX3_readPerson_44 mX3_19 lX3_signAt rfl (by decide) rfl (by decide) rfl rfl (Nat.le_of_ble_eq_true rfl) (Nat.le_of_ble_eq_true rfl) (cs) ?_
          refine go_bipush (nI 45) dX3_readPerson_47 (by decide +kernel) ?_
          refine go_icmp_eq 58 dX3_readPerson_49 (by decide) (fun h => absurd h (fun q => q2 ⟨hl, (nI_eq (by omega) (by omega)).mp q⟩)) (fun h49 => ?_)
          refine go_iload dX3_readPerson_52 rfl ?_
          refine go_callS1 (K' := kX3_faultAt) [_] dX3_readPerson_54 mX3_61 lX3_faultAt rfl rfl (Nat.le_of_ble_eq_true rfl) (Nat.le_of_ble_eq_true rfl) (c_faultAt) ?_
          exact go_iret dX3_readPerson_57 rfl rfl rfl
        · rw [if_neg hl] at cs
          refine go_iload_n dX3_readPerson_2 rfl ?_
          refine go_bipush (nI 6) dX3_readPerson_3 (by decide +kernel) ?_
          refine go_icmp_ge 64 dX3_readPerson_5 (by decide) (fun h => absurd h (nI_ge (by omega) (by omega))) (fun h5 => ?_)
          refine go_iload_n dX3_readPerson_8 rfl ?_
          refine go_iload_n dX3_readPerson_9 rfl ?_
          first | refine go_iadd_n dX3_readPerson_10 ?_ | refine go_iadd dX3_readPerson_10 rfl ?_
          refine go_istore (L' := [_, _, _, _, _, _]) dX3_readPerson_11 (by decide) rfl ?_
          refine go_aload_n dX3_readPerson_13 rfl ?_
          refine go_iload dX3_readPerson_14 rfl ?_
          refine go_iconst (nI 3) dX3_readPerson_16 (by decide +kernel) ?_
          refine go_callV1 (K' := kX3_figureAt) [_, _] dX3_readPerson_17 mX3_28 lX3_figureAt rfl (by decide) rfl (by decide) rfl rfl (Nat.le_of_ble_eq_true rfl) (Nat.le_of_ble_eq_true rfl) (cf) ?_
          refine go_istore (L' := [_, _, _, _, _, _]) dX3_readPerson_20 (by decide) rfl ?_
          refine go_iload dX3_readPerson_22 rfl ?_
          refine go_if_lt 41 dX3_readPerson_24 (by decide) (fun h24 => ?_) (fun h => absurd (by decide +kernel) h)
          refine go_aload_n dX3_readPerson_41 rfl ?_
          refine go_iload dX3_readPerson_42 rfl ?_
          refine go_callV1 (K' := kX3_signAt) [_] dX3_readPerson_44 mX3_19 lX3_signAt rfl (by decide) rfl (by decide) rfl rfl (Nat.le_of_ble_eq_true rfl) (Nat.le_of_ble_eq_true rfl) (cs) ?_
          refine go_bipush (nI 45) dX3_readPerson_47 (by decide +kernel) ?_
          refine go_icmp_eq 58 dX3_readPerson_49 (by decide) (fun h => absurd h (by decide +kernel)) (fun h49 => ?_)
          refine go_iload dX3_readPerson_52 rfl ?_
          refine go_callS1 (K' := kX3_faultAt) [_] dX3_readPerson_54 mX3_61 lX3_faultAt rfl rfl (Nat.le_of_ble_eq_true rfl) (Nat.le_of_ble_eq_true rfl) (c_faultAt) ?_
          exact go_iret dX3_readPerson_57 rfl rfl rfl
      | some o =>
        have e : tx_rp x L (n + 1) (st + h) = tx_rp x L n (st + (h + 1)) := by rw [tx_rp, hp]; rfl
        rw [e]
        cases o with
        | none =>
          obtain ⟨q1, q2, q3⟩ := tx_pl_0 hp
          rw [q1] at cf
          have cs := c_signAt (O := O) (d := d + 1) (at_ := st + h) hX (by omega)
          rw [if_pos q2] at cs
          obtain ⟨m', g1, g2, g3⟩ := ih (h + 1) m (by omega) hX (by rw [tx_wH_n (tx_w_of hp)]; exact hD)
          refine ⟨m', fun z1 z2 => ?_, g2, g3⟩
          refine go_iload_n dX3_readPerson_2 rfl ?_
          refine go_bipush (nI 6) dX3_readPerson_3 (by decide +kernel) ?_
          refine go_icmp_ge 64 dX3_readPerson_5 (by decide) (fun h => absurd h (nI_ge (by omega) (by omega))) (fun h5 => ?_)
          refine go_iload_n dX3_readPerson_8 rfl ?_
          refine go_iload_n dX3_readPerson_9 rfl ?_
          first | refine go_iadd_n dX3_readPerson_10 ?_ | refine go_iadd dX3_readPerson_10 rfl ?_
          refine go_istore (L' := [_, _, _, _, _, _]) dX3_readPerson_11 (by decide) rfl ?_
          refine go_aload_n dX3_readPerson_13 rfl ?_
          refine go_iload dX3_readPerson_14 rfl ?_
          refine go_iconst (nI 3) dX3_readPerson_16 (by decide +kernel) ?_
          refine go_callV1 (K' := kX3_figureAt) [_, _] dX3_readPerson_17 mX3_28 lX3_figureAt rfl (by decide) rfl (by decide) rfl rfl (Nat.le_of_ble_eq_true rfl) (Nat.le_of_ble_eq_true rfl) (cf) ?_
          refine go_istore (L' := [_, _, _, _, _, _]) dX3_readPerson_20 (by decide) rfl ?_
          refine go_iload dX3_readPerson_22 rfl ?_
          refine go_if_lt 41 dX3_readPerson_24 (by decide) (fun h24 => ?_) (fun h => absurd (by decide +kernel) h)
          refine go_aload_n dX3_readPerson_41 rfl ?_
          refine go_iload dX3_readPerson_42 rfl ?_
          refine go_callV1 (K' := kX3_signAt) [_] dX3_readPerson_44 mX3_19 lX3_signAt rfl (by decide) rfl (by decide) rfl rfl (Nat.le_of_ble_eq_true rfl) (Nat.le_of_ble_eq_true rfl) (cs) ?_
          refine go_bipush (nI 45) dX3_readPerson_47 (by decide +kernel) ?_
          refine go_icmp_eq 58 dX3_readPerson_49 (by decide) (fun h49 => ?_) (fun h => absurd (congrArg nI q3) h)
          refine go_iinc_n (L' := [_, _, _, _, _, _]) dX3_readPerson_58 rfl (by decide) rfl ?_
          refine go_goto 2 dX3_readPerson_61 (by decide) ?_
          exact g1 _ _
        | some a =>
          have q1 := tx_pl_1 hp
          rw [q1] at cf
          have ha := (dg_s q1).2.1
          have cp := c_put_35 (O := O) (d := d + 1) (m := m) (p := P) (h := h) (a := a) hP (by omega) ha (hD.2.2.2.2.1 h a (by omega) ha)
          obtain ⟨m', g1, g2, g3⟩ := ih (h + 1) (tx_pt m 35 P h a (tx_gw (tx_wH w P (tx_w x L st) h) h a)) (by omega) (hX.of rfl rfl) (hD.put hP (by omega) (tx_w_of hp) ha)
          refine ⟨m', fun z1 z2 => ?_, Fr.trans (((Fr.rf _ _).up (by decide) _ _).up (by decide) _ _) g2, g3⟩
          refine go_iload_n dX3_readPerson_2 rfl ?_
          refine go_bipush (nI 6) dX3_readPerson_3 (by decide +kernel) ?_
          refine go_icmp_ge 64 dX3_readPerson_5 (by decide) (fun h => absurd h (nI_ge (by omega) (by omega))) (fun h5 => ?_)
          refine go_iload_n dX3_readPerson_8 rfl ?_
          refine go_iload_n dX3_readPerson_9 rfl ?_
          first | refine go_iadd_n dX3_readPerson_10 ?_ | refine go_iadd dX3_readPerson_10 rfl ?_
          refine go_istore (L' := [_, _, _, _, _, _]) dX3_readPerson_11 (by decide) rfl ?_
          refine go_aload_n dX3_readPerson_13 rfl ?_
          refine go_iload dX3_readPerson_14 rfl ?_
          refine go_iconst (nI 3) dX3_readPerson_16 (by decide +kernel) ?_
          refine go_callV1 (K' := kX3_figureAt) [_, _] dX3_readPerson_17 mX3_28 lX3_figureAt rfl (by decide) rfl (by decide) rfl rfl (Nat.le_of_ble_eq_true rfl) (Nat.le_of_ble_eq_true rfl) (cf) ?_
          refine go_istore (L' := [_, _, _, _, _, _]) dX3_readPerson_20 (by decide) rfl ?_
          refine go_iload dX3_readPerson_22 rfl ?_
          refine go_if_lt 41 dX3_readPerson_24 (by decide) (fun h => absurd h (nI_pos (by omega))) (fun h24 => ?_)
          refine go_aload_n dX3_readPerson_27 rfl ?_
          refine go_aload_n dX3_readPerson_28 rfl ?_
          refine go_geti dX3_readPerson_29 fX3_52 rfl (by decide) (by decide) (by decide) rfl hD.1 ?_
          refine go_iload_n dX3_readPerson_32 rfl ?_
          refine go_iload dX3_readPerson_33 rfl ?_
          refine go_callV0 (K' := kX1_put) [_, _, _] dX3_readPerson_35 mX3_64 lX1_put rfl (by decide) rfl (by decide) rfl rfl (Nat.le_of_ble_eq_true rfl) (Nat.le_of_ble_eq_true rfl) (cp) ?_
          refine go_goto 58 dX3_readPerson_38 (by decide) ?_
          refine go_iinc_n (L' := [_, _, _, _, _, _]) dX3_readPerson_58 rfl (by decide) rfl ?_
          refine go_goto 2 dX3_readPerson_61 (by decide) ?_
          exact g1 _ _
  obtain ⟨m', g1, g2, g3⟩ := key 6 0 m (by omega) hX (by rw [tx_wH_0 hw]; exact hD)
  refine ⟨m', ?_, g2, g3⟩
  show Go O (d + 2) kX3_readPerson _ _ 0 [.ref 1, .ref 35, .int (nI st), .null, .null, .null] [] m
  refine go_iconst (nI 0) dX3_readPerson_0 (by decide +kernel) ?_
  refine go_istore_n (L' := [_, _, _, _, _, _]) dX3_readPerson_1 (by decide) rfl ?_
  exact g1 _ _
theorem c_rdNews0_35 {O : gOm} {d : Nat} {m : gMem} {L st : Nat} {x : Nat → Nat} (hX : TxC m L x) (hst : st ≤ 80) (h0 : dg x L st 10 = none) : Ca O (d + 2) kX3_readNews [.ref 1, .ref 35, .int (nI st)] (some (.int (-1 - nI st))) m m := by
  have cf := c_figureAt (O := O) (d := d) (at_ := st) (b := 10) hX (by omega) (by omega)
  rw [h0] at cf
  show Go O (d + 2) kX3_readNews _ _ 0 [.ref 1, .ref 35, .int (nI st), .null, .null, .null, .null, .null, .null] [] m
  refine go_aload_n dX3_readNews_0 rfl ?_
  refine go_iload_n dX3_readNews_1 rfl ?_
  refine go_bipush (nI 10) dX3_readNews_2 (by decide +kernel) ?_
  refine go_callV1 (K' := kX3_figureAt) [_, _] dX3_readNews_4 mX3_28 lX3_figureAt rfl (by decide) rfl (by decide) rfl rfl (Nat.le_of_ble_eq_true rfl) (Nat.le_of_ble_eq_true rfl) (cf) ?_
  refine go_istore_n (L' := [_, _, _, _, _, _, _, _, _]) dX3_readNews_7 (by decide) rfl ?_
  refine go_iload_n dX3_readNews_8 rfl ?_
  refine go_if_ge 17 dX3_readNews_9 (by decide) (fun h => absurd h (by decide +kernel)) (fun h9 => ?_)
  refine go_iload_n dX3_readNews_12 rfl ?_
  refine go_callS1 (K' := kX3_faultAt) [_] dX3_readNews_13 mX3_61 lX3_faultAt rfl rfl (Nat.le_of_ble_eq_true rfl) (Nat.le_of_ble_eq_true rfl) (c_faultAt) ?_
  exact go_iret dX3_readNews_16 rfl rfl rfl
theorem c_rdNews1_35 {O : gOm} {d : Nat} {m : gMem} {L st l : Nat} {x : Nat → Nat} (hX : TxC m L x) (hst : st ≤ 80) (h0 : dg x L st 10 = some l) (h1 : dg x L (st + 1) 10 = none) : Ca O (d + 2) kX3_readNews [.ref 1, .ref 35, .int (nI st)] (some (.int (-1 - nI (st + 1)))) m m := by
  have cf := c_figureAt (O := O) (d := d) (at_ := st) (b := 10) hX (by omega) (by omega)
  have cg := c_figureAt (O := O) (d := d) (at_ := st + 1) (b := 10) hX (by omega) (by omega)
  have hl := (dg_s h0).2.1
  rw [h0] at cf
  rw [h1] at cg
  show Go O (d + 2) kX3_readNews _ _ 0 [.ref 1, .ref 35, .int (nI st), .null, .null, .null, .null, .null, .null] [] m
  refine go_aload_n dX3_readNews_0 rfl ?_
  refine go_iload_n dX3_readNews_1 rfl ?_
  refine go_bipush (nI 10) dX3_readNews_2 (by decide +kernel) ?_
  refine go_callV1 (K' := kX3_figureAt) [_, _] dX3_readNews_4 mX3_28 lX3_figureAt rfl (by decide) rfl (by decide) rfl rfl (Nat.le_of_ble_eq_true rfl) (Nat.le_of_ble_eq_true rfl) (cf) ?_
  refine go_istore_n (L' := [_, _, _, _, _, _, _, _, _]) dX3_readNews_7 (by decide) rfl ?_
  refine go_iload_n dX3_readNews_8 rfl ?_
  refine go_if_ge 17 dX3_readNews_9 (by decide) (fun h9 => ?_) (fun h => absurd (nI_pos' (by omega)) h)
  refine go_aload_n dX3_readNews_17 rfl ?_
  refine go_iload_n dX3_readNews_18 rfl ?_
  refine go_iconst (nI 1) dX3_readNews_19 (by decide +kernel) ?_
  first | refine go_iadd_n dX3_readNews_20 ?_ | refine go_iadd dX3_readNews_20 rfl ?_
  refine go_bipush (nI 10) dX3_readNews_21 (by decide +kernel) ?_
  refine go_callV1 (K' := kX3_figureAt) [_, _] dX3_readNews_23 mX3_28 lX3_figureAt rfl (by decide) rfl (by decide) rfl rfl (Nat.le_of_ble_eq_true rfl) (Nat.le_of_ble_eq_true rfl) (cg) ?_
  refine go_istore (L' := [_, _, _, _, _, _, _, _, _]) dX3_readNews_26 (by decide) rfl ?_
  refine go_iload dX3_readNews_28 rfl ?_
  refine go_if_ge 40 dX3_readNews_30 (by decide) (fun h => absurd h (by decide +kernel)) (fun h30 => ?_)
  refine go_iload_n dX3_readNews_33 rfl ?_
  refine go_iconst (nI 1) dX3_readNews_34 (by decide +kernel) ?_
  first | refine go_iadd_n dX3_readNews_35 ?_ | refine go_iadd dX3_readNews_35 rfl ?_
  refine go_callS1 (K' := kX3_faultAt) [_] dX3_readNews_36 mX3_61 lX3_faultAt rfl rfl (Nat.le_of_ble_eq_true rfl) (Nat.le_of_ble_eq_true rfl) (c_faultAt) ?_
  exact go_iret dX3_readNews_39 rfl rfl rfl
theorem c_rdNews2_35 {O : gOm} {d : Nat} {m : gMem} {L P N lw st l o : Nat} {x : Nat → Nat} {w : Nat → Nat → Option Nat} {li wo fi : Nat → Nat} (hX : TxC m L x) (hD : tx_DC m 35 lw P N w li wo fi) (hP : P ≤ 6) (hN : N < 3) (hst : st ≤ 80) (h0 : dg x L st 10 = some l) (h1 : dg x L (st + 1) 10 = some o) : Ca O (d + 2) kX3_readNews [.ref 1, .ref 35, .int (nI st)] (some (.int (nI (tx_kr x L P 6 (st + 2) 0).1))) m (tx_nw m 35 N l o (tx_kr x L P 6 (st + 2) 0).2) := by
  have cf := c_figureAt (O := O) (d := d) (at_ := st) (b := 10) hX (by omega) (by omega)
  have cg := c_figureAt (O := O) (d := d) (at_ := st + 1) (b := 10) hX (by omega) (by omega)
  have hl := (dg_s h0).2.1
  have ho := (dg_s h1).2.1
  rw [h0] at cf
  rw [h1] at cg
  have tail : ∀ at_ k i (z8 : Value), Go O (d + 2) kX3_readNews (some (.int (nI at_))) (tx_nw m 35 N l o k) 106 [.ref 1, .ref 35, .int (nI st), .int (nI l), .int (nI o), .int (nI at_), .int (nI k), .int (nI i), z8] [] m := by
    intro at_ k i z8
    refine go_aload_n dX3_readNews_106 rfl ?_
    refine go_getc dX3_readNews_107 fX3_68 rfl (by decide) (by decide) (by decide) rfl ?_
    refine go_aload_n dX3_readNews_110 rfl ?_
    refine go_geti dX3_readNews_111 fX3_45 rfl (by decide) (by decide) (by decide) rfl hD.2.1 ?_
    refine go_iload_n dX3_readNews_114 rfl ?_
    refine go_iast dX3_readNews_115 rfl (by decide) rfl (by omega) (by decide) ?_
    refine go_aload_n dX3_readNews_116 rfl ?_
    refine go_getc dX3_readNews_117 fX3_71 rfl (by decide) (by decide) (by decide) rfl ?_
    refine go_aload_n dX3_readNews_120 rfl ?_
    refine go_geti dX3_readNews_121 fX3_45 rfl (by decide) (by decide) (by decide) rfl hD.2.1 ?_
    refine go_iload dX3_readNews_124 rfl ?_
    refine go_iast dX3_readNews_126 rfl (by decide) rfl (by omega) (by decide) ?_
    refine go_aload_n dX3_readNews_127 rfl ?_
    refine go_getc dX3_readNews_128 fX3_42 rfl (by decide) (by decide) (by decide) rfl ?_
    refine go_aload_n dX3_readNews_131 rfl ?_
    refine go_geti dX3_readNews_132 fX3_45 rfl (by decide) (by decide) (by decide) rfl hD.2.1 ?_
    refine go_iload dX3_readNews_135 rfl ?_
    refine go_iast dX3_readNews_137 rfl (by decide) rfl (by omega) (by decide) ?_
    refine go_aload_n dX3_readNews_138 rfl ?_
    refine go_dup dX3_readNews_139 rfl ?_
    refine go_geti dX3_readNews_140 fX3_45 rfl (by decide) (by decide) (by decide) rfl hD.2.1 ?_
    refine go_iconst (nI 1) dX3_readNews_143 (by decide +kernel) ?_
    first | refine go_iadd_n dX3_readNews_144 ?_ | refine go_iadd dX3_readNews_144 rfl ?_
    refine go_puti dX3_readNews_145 fX3_45 rfl (by decide) (by decide) (by decide) rfl (fun _ _ _ h => by cases h; rfl) (Or.inl rfl) ?_
    refine go_iload dX3_readNews_148 rfl ?_
    exact go_iret dX3_readNews_150 rfl rfl rfl
  have key : ∀ n i at_ k (z8 : Value), i + n = 6 → k < 64 → at_ ≤ 100 → at_ + n ≤ 106 → Go O (d + 2) kX3_readNews (some (.int (nI (tx_kr x L P n at_ k).1))) (tx_nw m 35 N l o (tx_kr x L P n at_ k).2) 51 [.ref 1, .ref 35, .int (nI st), .int (nI l), .int (nI o), .int (nI at_), .int (nI k), .int (nI i), z8] [] m := by
    intro n
    induction n with
    | zero =>
      intro i at_ k z8 hi hk ha ha2
      refine go_iload dX3_readNews_51 rfl ?_
      refine go_bipush (nI 6) dX3_readNews_53 (by decide +kernel) ?_
      refine go_icmp_ge 106 dX3_readNews_55 (by decide) (fun h55 => ?_) (fun h => absurd (nI_le (by omega) (by omega)) h)
      exact tail _ _ _ _
    | succ n ih =>
      intro i at_ k z8 hi hk ha ha2
      have ck := c_figureAt (O := O) (d := d) (at_ := at_) (b := P) hX (by omega) (by omega)
      cases hd : dg x L at_ P with
      | none =>
        rw [tx_kr_n hd]
        rw [hd] at ck
        refine go_iload dX3_readNews_51 rfl ?_
        refine go_bipush (nI 6) dX3_readNews_53 (by decide +kernel) ?_
        refine go_icmp_ge 106 dX3_readNews_55 (by decide) (fun h => absurd h (nI_ge (by omega) (by omega))) (fun h55 => ?_)
        refine go_aload_n dX3_readNews_58 rfl ?_
        refine go_iload dX3_readNews_59 rfl ?_
        refine go_aload_n dX3_readNews_61 rfl ?_
        refine go_geti dX3_readNews_62 fX3_52 rfl (by decide) (by decide) (by decide) rfl hD.1 ?_
        refine go_callV1 (K' := kX3_figureAt) [_, _] dX3_readNews_65 mX3_28 lX3_figureAt rfl (by decide) rfl (by decide) rfl rfl (Nat.le_of_ble_eq_true rfl) (Nat.le_of_ble_eq_true rfl) (ck) ?_
        refine go_istore (L' := [_, _, _, _, _, _, _, _, _]) dX3_readNews_68 (by decide) rfl ?_
        refine go_iload dX3_readNews_70 rfl ?_
        refine go_if_lt 106 dX3_readNews_72 (by decide) (fun h72 => ?_) (fun h => absurd (by decide +kernel) h)
        exact tail _ _ _ _
      | some p =>
        obtain ⟨d1, d2, d3⟩ := dg_s hd
        rw [hd] at ck
        have hbit := nb_bit (a := k) (j := p) (by omega) (by omega)
        rw [nb_tb] at hbit
        by_cases hb : k.testBit p = true
        · rw [tx_kr_t hd hb]
          rw [if_pos hb] at hbit
          refine go_iload dX3_readNews_51 rfl ?_
          refine go_bipush (nI 6) dX3_readNews_53 (by decide +kernel) ?_
          refine go_icmp_ge 106 dX3_readNews_55 (by decide) (fun h => absurd h (nI_ge (by omega) (by omega))) (fun h55 => ?_)
          refine go_aload_n dX3_readNews_58 rfl ?_
          refine go_iload dX3_readNews_59 rfl ?_
          refine go_aload_n dX3_readNews_61 rfl ?_
          refine go_geti dX3_readNews_62 fX3_52 rfl (by decide) (by decide) (by decide) rfl hD.1 ?_
          refine go_callV1 (K' := kX3_figureAt) [_, _] dX3_readNews_65 mX3_28 lX3_figureAt rfl (by decide) rfl (by decide) rfl rfl (Nat.le_of_ble_eq_true rfl) (Nat.le_of_ble_eq_true rfl) (ck) ?_
          refine go_istore (L' := [_, _, _, _, _, _, _, _, _]) dX3_readNews_68 (by decide) rfl ?_
          refine go_iload dX3_readNews_70 rfl ?_
          refine go_if_lt 106 dX3_readNews_72 (by decide) (fun h => absurd h (nI_pos (by omega))) (fun h72 => ?_)
          refine go_iload dX3_readNews_75 rfl ?_
          refine go_iload dX3_readNews_77 rfl ?_
          refine go_ishr dX3_readNews_79 rfl ?_
          refine go_iconst (nI 1) dX3_readNews_80 (by decide +kernel) ?_
          refine go_iand dX3_readNews_81 hbit ?_
          refine go_if_eq 88 dX3_readNews_82 (by decide) (fun h => absurd h (by decide +kernel)) (fun h82 => ?_)
          refine go_goto 106 dX3_readNews_85 (by decide) ?_
          exact tail _ _ _ _
        · rw [tx_kr_s hd hb]
          rw [if_neg hb] at hbit
          have hL := hX.1
          have ev : nI k ||| (nI 1 <<< (nI p &&& 31)) = nI (k ||| 2 ^ p) := by rw [nb_one (by omega), nb_or]
          have q := ih (i + 1) (at_ + 1) (k ||| 2 ^ p) (.int (nI p)) (by omega) (or_lt64 hk (tx_p64 p (by omega))) (by omega) (by omega)
          refine go_iload dX3_readNews_51 rfl ?_
          refine go_bipush (nI 6) dX3_readNews_53 (by decide +kernel) ?_
          refine go_icmp_ge 106 dX3_readNews_55 (by decide) (fun h => absurd h (nI_ge (by omega) (by omega))) (fun h55 => ?_)
          refine go_aload_n dX3_readNews_58 rfl ?_
          refine go_iload dX3_readNews_59 rfl ?_
          refine go_aload_n dX3_readNews_61 rfl ?_
          refine go_geti dX3_readNews_62 fX3_52 rfl (by decide) (by decide) (by decide) rfl hD.1 ?_
          refine go_callV1 (K' := kX3_figureAt) [_, _] dX3_readNews_65 mX3_28 lX3_figureAt rfl (by decide) rfl (by decide) rfl rfl (Nat.le_of_ble_eq_true rfl) (Nat.le_of_ble_eq_true rfl) (ck) ?_
          refine go_istore (L' := [_, _, _, _, _, _, _, _, _]) dX3_readNews_68 (by decide) rfl ?_
          refine go_iload dX3_readNews_70 rfl ?_
          refine go_if_lt 106 dX3_readNews_72 (by decide) (fun h => absurd h (nI_pos (by omega))) (fun h72 => ?_)
          refine go_iload dX3_readNews_75 rfl ?_
          refine go_iload dX3_readNews_77 rfl ?_
          refine go_ishr dX3_readNews_79 rfl ?_
          refine go_iconst (nI 1) dX3_readNews_80 (by decide +kernel) ?_
          refine go_iand dX3_readNews_81 hbit ?_
          refine go_if_eq 88 dX3_readNews_82 (by decide) (fun h82 => ?_) (fun h => absurd (rfl) h)
          refine go_iload dX3_readNews_88 rfl ?_
          refine go_iconst (nI 1) dX3_readNews_90 (by decide +kernel) ?_
          refine go_iload dX3_readNews_91 rfl ?_
          refine go_ishl dX3_readNews_93 rfl ?_
          refine go_ior dX3_readNews_94 ev ?_
          refine go_istore (L' := [_, _, _, _, _, _, _, _, _]) dX3_readNews_95 (by decide) rfl ?_
          refine go_iinc_n (L' := [_, _, _, _, _, _, _, _, _]) dX3_readNews_97 rfl (by decide) rfl ?_
          refine go_iinc_n (L' := [_, _, _, _, _, _, _, _, _]) dX3_readNews_100 rfl (by decide) rfl ?_
          refine go_goto 51 dX3_readNews_103 (by decide) ?_
          exact q
  show Go O (d + 2) kX3_readNews _ _ 0 [.ref 1, .ref 35, .int (nI st), .null, .null, .null, .null, .null, .null] [] m
  refine go_aload_n dX3_readNews_0 rfl ?_
  refine go_iload_n dX3_readNews_1 rfl ?_
  refine go_bipush (nI 10) dX3_readNews_2 (by decide +kernel) ?_
  refine go_callV1 (K' := kX3_figureAt) [_, _] dX3_readNews_4 mX3_28 lX3_figureAt rfl (by decide) rfl (by decide) rfl rfl (Nat.le_of_ble_eq_true rfl) (Nat.le_of_ble_eq_true rfl) (cf) ?_
  refine go_istore_n (L' := [_, _, _, _, _, _, _, _, _]) dX3_readNews_7 (by decide) rfl ?_
  refine go_iload_n dX3_readNews_8 rfl ?_
  refine go_if_ge 17 dX3_readNews_9 (by decide) (fun h9 => ?_) (fun h => absurd (nI_pos' (by omega)) h)
  refine go_aload_n dX3_readNews_17 rfl ?_
  refine go_iload_n dX3_readNews_18 rfl ?_
  refine go_iconst (nI 1) dX3_readNews_19 (by decide +kernel) ?_
  first | refine go_iadd_n dX3_readNews_20 ?_ | refine go_iadd dX3_readNews_20 rfl ?_
  refine go_bipush (nI 10) dX3_readNews_21 (by decide +kernel) ?_
  refine go_callV1 (K' := kX3_figureAt) [_, _] dX3_readNews_23 mX3_28 lX3_figureAt rfl (by decide) rfl (by decide) rfl rfl (Nat.le_of_ble_eq_true rfl) (Nat.le_of_ble_eq_true rfl) (cg) ?_
  refine go_istore (L' := [_, _, _, _, _, _, _, _, _]) dX3_readNews_26 (by decide) rfl ?_
  refine go_iload dX3_readNews_28 rfl ?_
  refine go_if_ge 40 dX3_readNews_30 (by decide) (fun h30 => ?_) (fun h => absurd (nI_pos' (by omega)) h)
  refine go_iload_n dX3_readNews_40 rfl ?_
  refine go_iconst (nI 2) dX3_readNews_41 (by decide +kernel) ?_
  first | refine go_iadd_n dX3_readNews_42 ?_ | refine go_iadd dX3_readNews_42 rfl ?_
  refine go_istore (L' := [_, _, _, _, _, _, _, _, _]) dX3_readNews_43 (by decide) rfl ?_
  refine go_iconst (nI 0) dX3_readNews_45 (by decide +kernel) ?_
  refine go_istore (L' := [_, _, _, _, _, _, _, _, _]) dX3_readNews_46 (by decide) rfl ?_
  refine go_iconst (nI 0) dX3_readNews_48 (by decide +kernel) ?_
  refine go_istore (L' := [_, _, _, _, _, _, _, _, _]) dX3_readNews_49 (by decide) rfl ?_
  exact key 6 0 (st + 2) 0 _ (by omega) (by omega) (by omega) (by omega)
