/-! READING A TEXT: the class, part by part -/
theorem c_partP_29 {O : gOm} {d : Nat} {m : gMem} {m' : gMem} {L P at_ : Nat} {x : Nat → Nat} {v : Int32} (hX : TxC m L x) (h5 : m.1 29 5 = nI P) (hl : at_ < L) (h1 : x at_ = 80 ∧ P < 6) (hc : Ca O (d + 2) kX3_readPerson [.ref 1, .ref 29, .int (nI (at_ + 1))] (some (.int v)) m m') : Ca O (d + 3) kX3_readPart [.ref 1, .ref 29, .int (nI at_)] (some (.int v)) m m' := by
  have hL := hX.1
  have cs := c_signAt (O := O) (d := d + 2) (at_ := at_) hX (by omega)
  rw [if_pos hl, h1.1] at cs
  show Go O (d + 3) kX3_readPart _ _ 0 [.ref 1, .ref 29, .int (nI at_), .null] [] m
  refine go_aload_n dX3_readPart_0 rfl ?_
  refine go_iload_n dX3_readPart_1 rfl ?_
  refine go_callV1 (K' := kX3_signAt) [_] dX3_readPart_2 mX3_19 lX3_signAt rfl (by decide) rfl (by decide) rfl rfl (Nat.le_of_ble_eq_true rfl) (Nat.le_of_ble_eq_true rfl) (cs) ?_
  refine go_istore_n (L' := [_, _, _, _]) dX3_readPart_5 (by decide) rfl ?_
  refine go_iload_n dX3_readPart_6 rfl ?_
  refine go_bipush (nI 80) dX3_readPart_7 (by decide +kernel) ?_
  refine go_icmp_ne 30 dX3_readPart_9 (by decide) (fun h => absurd h (fun q => q rfl)) (fun h9 => ?_)
  refine go_aload_n dX3_readPart_12 rfl ?_
  refine go_geti dX3_readPart_13 fX3_52 rfl (by decide) (by decide) (by decide) rfl h5 ?_
  refine go_bipush (nI 6) dX3_readPart_16 (by decide +kernel) ?_
  refine go_icmp_ge 30 dX3_readPart_18 (by decide) (fun h => absurd h (nI_ge (by omega) (by omega))) (fun h18 => ?_)
  refine go_aload_n dX3_readPart_21 rfl ?_
  refine go_aload_n dX3_readPart_22 rfl ?_
  refine go_iload_n dX3_readPart_23 rfl ?_
  refine go_iconst (nI 1) dX3_readPart_24 (by decide +kernel) ?_
  first | refine go_iadd_n dX3_readPart_25 ?_ | refine go_iadd dX3_readPart_25 rfl ?_
  refine go_callV1 (K' := kX3_readPerson) [_, _] dX3_readPart_26 mX3_55 lX3_readPerson rfl (by decide) rfl (by decide) rfl rfl (Nat.le_of_ble_eq_true rfl) (Nat.le_of_ble_eq_true rfl) (hc) ?_
  exact go_iret dX3_readPart_29 rfl rfl rfl
theorem c_partN_29 {O : gOm} {d : Nat} {m : gMem} {m' : gMem} {L N at_ : Nat} {x : Nat → Nat} {v : Int32} (hX : TxC m L x) (h6 : m.1 29 6 = nI N) (hl : at_ < L) (h2 : x at_ = 78 ∧ N < 3) (hc : Ca O (d + 2) kX3_readNews [.ref 1, .ref 29, .int (nI (at_ + 1))] (some (.int v)) m m') : Ca O (d + 3) kX3_readPart [.ref 1, .ref 29, .int (nI at_)] (some (.int v)) m m' := by
  have hL := hX.1
  have cs := c_signAt (O := O) (d := d + 2) (at_ := at_) hX (by omega)
  rw [if_pos hl, h2.1] at cs
  show Go O (d + 3) kX3_readPart _ _ 0 [.ref 1, .ref 29, .int (nI at_), .null] [] m
  refine go_aload_n dX3_readPart_0 rfl ?_
  refine go_iload_n dX3_readPart_1 rfl ?_
  refine go_callV1 (K' := kX3_signAt) [_] dX3_readPart_2 mX3_19 lX3_signAt rfl (by decide) rfl (by decide) rfl rfl (Nat.le_of_ble_eq_true rfl) (Nat.le_of_ble_eq_true rfl) (cs) ?_
  refine go_istore_n (L' := [_, _, _, _]) dX3_readPart_5 (by decide) rfl ?_
  refine go_iload_n dX3_readPart_6 rfl ?_
  refine go_bipush (nI 80) dX3_readPart_7 (by decide +kernel) ?_
  refine go_icmp_ne 30 dX3_readPart_9 (by decide) (fun h9 => ?_) (fun h => absurd h (by decide +kernel))
  refine go_iload_n dX3_readPart_30 rfl ?_
  refine go_bipush (nI 78) dX3_readPart_31 (by decide +kernel) ?_
  refine go_icmp_ne 53 dX3_readPart_33 (by decide) (fun h => absurd h (fun q => q rfl)) (fun h33 => ?_)
  refine go_aload_n dX3_readPart_36 rfl ?_
  refine go_geti dX3_readPart_37 fX3_45 rfl (by decide) (by decide) (by decide) rfl h6 ?_
  refine go_iconst (nI 3) dX3_readPart_40 (by decide +kernel) ?_
  refine go_icmp_ge 53 dX3_readPart_41 (by decide) (fun h => absurd h (nI_ge (by omega) (by omega))) (fun h41 => ?_)
  refine go_aload_n dX3_readPart_44 rfl ?_
  refine go_aload_n dX3_readPart_45 rfl ?_
  refine go_iload_n dX3_readPart_46 rfl ?_
  refine go_iconst (nI 1) dX3_readPart_47 (by decide +kernel) ?_
  first | refine go_iadd_n dX3_readPart_48 ?_ | refine go_iadd dX3_readPart_48 rfl ?_
  refine go_callV1 (K' := kX3_readNews) [_, _] dX3_readPart_49 mX3_58 lX3_readNews rfl (by decide) rfl (by decide) rfl rfl (Nat.le_of_ble_eq_true rfl) (Nat.le_of_ble_eq_true rfl) (hc) ?_
  exact go_iret dX3_readPart_52 rfl rfl rfl
theorem c_partF_29 {O : gOm} {d : Nat} {m : gMem} {L P N at_ : Nat} {x : Nat → Nat} (hX : TxC m L x) (h5 : m.1 29 5 = nI P) (h6 : m.1 29 6 = nI N) (hP : P ≤ 6) (hN : N ≤ 3) (hl : at_ < L) (h1 : ¬ (x at_ = 80 ∧ P < 6)) (h2 : ¬ (x at_ = 78 ∧ N < 3)) : Ca O (d + 3) kX3_readPart [.ref 1, .ref 29, .int (nI at_)] (some (.int (-1 - nI at_))) m m := by
  have hL := hX.1
  have hb := (hX.2.2 _ hl).1
  have cs := c_signAt (O := O) (d := d + 2) (at_ := at_) hX (by omega)
  rw [if_pos hl] at cs
  have tail : Go O (d + 3) kX3_readPart (some (.int (-1 - nI at_))) m 30 [.ref 1, .ref 29, .int (nI at_), .int (nI (x at_))] [] m := by
    by_cases b : x at_ = 78
    · have hN3 : 3 ≤ N := Nat.le_of_not_lt (fun z => h2 ⟨b, z⟩)
      refine go_iload_n dX3_readPart_30 rfl ?_
      refine go_bipush (nI 78) dX3_readPart_31 (by decide +kernel) ?_
      refine go_icmp_ne 53 dX3_readPart_33 (by decide) (fun h => absurd h (fun q => q (congrArg nI b))) (fun h33 => ?_)
      refine go_aload_n dX3_readPart_36 rfl ?_
      refine go_geti dX3_readPart_37 fX3_45 rfl (by decide) (by decide) (by decide) rfl h6 ?_
      refine go_iconst (nI 3) dX3_readPart_40 (by decide +kernel) ?_
      refine go_icmp_ge 53 dX3_readPart_41 (by decide) (fun h41 => ?_) (fun h => absurd (nI_le (by omega) (by omega)) h)
      refine go_iload_n dX3_readPart_53 rfl ?_
      refine go_callS1 (K' := kX3_faultAt) [_] dX3_readPart_54 mX3_61 lX3_faultAt rfl rfl (Nat.le_of_ble_eq_true rfl) (Nat.le_of_ble_eq_true rfl) (c_faultAt) ?_
      exact go_iret dX3_readPart_57 rfl rfl rfl
    · skip
      refine go_iload_n dX3_readPart_30 rfl ?_
      refine go_bipush (nI 78) dX3_readPart_31 (by decide +kernel) ?_
      refine go_icmp_ne 53 dX3_readPart_33 (by decide) (fun h33 => ?_) (fun h => absurd h (fun q => b ((nI_eq (by omega) (by omega)).mp q)))
      refine go_iload_n dX3_readPart_53 rfl ?_
      refine go_callS1 (K' := kX3_faultAt) [_] dX3_readPart_54 mX3_61 lX3_faultAt rfl rfl (Nat.le_of_ble_eq_true rfl) (Nat.le_of_ble_eq_true rfl) (c_faultAt) ?_
      exact go_iret dX3_readPart_57 rfl rfl rfl
  show Go O (d + 3) kX3_readPart _ _ 0 [.ref 1, .ref 29, .int (nI at_), .null] [] m
  by_cases a : x at_ = 80
  · have hP6 : 6 ≤ P := Nat.le_of_not_lt (fun z => h1 ⟨a, z⟩)
    refine go_aload_n dX3_readPart_0 rfl ?_
    refine go_iload_n dX3_readPart_1 rfl ?_
    refine go_callV1 (K' := kX3_signAt) [_] dX3_readPart_2 mX3_19 lX3_signAt rfl (by decide) rfl (by decide) rfl rfl (Nat.le_of_ble_eq_true rfl) (Nat.le_of_ble_eq_true rfl) (cs) ?_
    refine go_istore_n (L' := [_, _, _, _]) dX3_readPart_5 (by decide) rfl ?_
    refine go_iload_n dX3_readPart_6 rfl ?_
    refine go_bipush (nI 80) dX3_readPart_7 (by decide +kernel) ?_
    refine go_icmp_ne 30 dX3_readPart_9 (by decide) (fun h => absurd h (fun q => q (congrArg nI a))) (fun h9 => ?_)
    refine go_aload_n dX3_readPart_12 rfl ?_
    refine go_geti dX3_readPart_13 fX3_52 rfl (by decide) (by decide) (by decide) rfl h5 ?_
    refine go_bipush (nI 6) dX3_readPart_16 (by decide +kernel) ?_
    refine go_icmp_ge 30 dX3_readPart_18 (by decide) (fun h18 => ?_) (fun h => absurd (nI_le (by omega) (by omega)) h)
    exact tail
  · skip
    refine go_aload_n dX3_readPart_0 rfl ?_
    refine go_iload_n dX3_readPart_1 rfl ?_
    refine go_callV1 (K' := kX3_signAt) [_] dX3_readPart_2 mX3_19 lX3_signAt rfl (by decide) rfl (by decide) rfl rfl (Nat.le_of_ble_eq_true rfl) (Nat.le_of_ble_eq_true rfl) (cs) ?_
    refine go_istore_n (L' := [_, _, _, _]) dX3_readPart_5 (by decide) rfl ?_
    refine go_iload_n dX3_readPart_6 rfl ?_
    refine go_bipush (nI 80) dX3_readPart_7 (by decide +kernel) ?_
    refine go_icmp_ne 30 dX3_readPart_9 (by decide) (fun h9 => ?_) (fun h => absurd h (fun q => a ((nI_eq (by omega) (by omega)).mp q)))
    exact tail
theorem c_rdLoop_29 {O : gOm} {d L lw : Nat} {x : Nat → Nat} : ∀ f part at_ (m : gMem) P N (w : Nat → Nat → Option Nat) (li wo fi : Nat → Nat), part + f = 72 → 2 + part ≤ at_ → at_ ≤ L → TxC m L x → tx_DC m 29 lw P N w li wo fi → tx_Ok P N w li fi → ∃ m', (∀ z4, Go O (d + 4) kX3_readInto (some (.int (tx_A (tx_prs x L f at_ P N w li wo fi)))) m' 39 [.ref 1, .ref 29, .int (nI at_), .int (nI part), z4] [] m) ∧ Fr [29, 30, 31, 32, 33, 34] m m' ∧ ∀ P' N' w' li' wo' fi', tx_prs x L f at_ P N w li wo fi = .inr (P', N', w', li', wo', fi') → tx_DC m' 29 lw P' N' w' li' wo' (tx_jh fi' N') := by
  intro f
  induction f with
  | zero =>
    intro part at_ m P N w li wo fi hf ha hL hX hD hk
    have := hX.1
    omega
  | succ f ih =>
    intro part at_ m P N w li wo fi hf ha hL hX hD hk
    have hL7 := hX.1
    by_cases hl : at_ < L
    · by_cases h1 : x at_ = 80 ∧ P < 6
      · obtain ⟨m1, c1, f1, e1⟩ := c_rdPerson_29 (O := O) (d := d) (st := at_ + 1) hX hD h1.2 (fun j => hk.2.2.1 P j (Nat.le_refl _)) (by omega)
        cases hr : tx_rp x L 6 (at_ + 1) with
        | some q =>
          rw [hr] at c1
          dsimp only at c1
          have hq := tx_rp_q 6 (at_ + 1) hr
          have cp := c_partP_29 hX hD.1 hl h1 c1
          rw [tx_P0 hl h1 hr]
          refine ⟨m1, fun z4 => ?_, f1, fun _ _ _ _ _ _ z => by cases z⟩
          refine go_iload_n dX3_readInto_39 rfl ?_
          refine go_bipush (nI 72) dX3_readInto_40 (by decide +kernel) ?_
          refine go_icmp_ge 81 dX3_readInto_42 (by decide) (fun h => absurd h (nI_ge (by omega) (by omega))) (fun h42 => ?_)
          refine go_iload_n dX3_readInto_45 rfl ?_
          refine go_aload_n dX3_readInto_46 rfl ?_
          refine go_geti dX3_readInto_47 fX3_15 rfl (by decide) (by decide) (by decide) rfl hX.2.1 ?_
          refine go_icmp_ge 81 dX3_readInto_50 (by decide) (fun h => absurd h (nI_ge (by omega) (by omega))) (fun h50 => ?_)
          refine go_aload_n dX3_readInto_53 rfl ?_
          refine go_aload_n dX3_readInto_54 rfl ?_
          refine go_iload_n dX3_readInto_55 rfl ?_
          refine go_callV1 (K' := kX3_readPart) [_, _] dX3_readInto_56 mX3_35 lX3_readPart rfl (by decide) rfl (by decide) rfl rfl (Nat.le_of_ble_eq_true rfl) (Nat.le_of_ble_eq_true rfl) (cp) ?_
          refine go_istore (L' := [_, _, _, _, _]) dX3_readInto_59 (by decide) rfl ?_
          refine go_iload dX3_readInto_61 rfl ?_
          refine go_if_ge 72 dX3_readInto_63 (by decide) (fun h => absurd h (fun zz => absurd (m1_neg (a := q) (by omega)) (Int32.not_lt.mpr zz))) (fun h63 => ?_)
          refine go_iload dX3_readInto_66 rfl ?_
          refine go_callS1 (K' := kX3_faultOf) [_] dX3_readInto_68 mX3_39 lX3_faultOf rfl rfl (Nat.le_of_ble_eq_true rfl) (Nat.le_of_ble_eq_true rfl) (c_faultOf) ?_
          exact go_iret dX3_readInto_71 rfl (congrArg (fun v => some (Value.int v)) (m1_sub _).symm) rfl
        | none =>
          rw [hr] at c1
          dsimp only at c1
          have cp := c_partP_29 hX hD.1 hl h1 c1
          have hle := tx_rp_le 6 (at_ + 1) hl hr
          rw [tx_P1 hl h1 hr]
          obtain ⟨m', g1, g2, g3⟩ := ih (part + 1) (at_ + 7) m1 (P + 1) N (tx_wH w P (tx_w x L (at_ + 1)) 6) li wo fi (by omega) (by omega) (by omega) (hX.of (f1.2 1 (by decide)) (f1.2 2 (by decide))) (e1 hr) (hk.P h1.2)
          refine ⟨m', fun z4 => ?_, f1.trans g2, g3⟩
          refine go_iload_n dX3_readInto_39 rfl ?_
          refine go_bipush (nI 72) dX3_readInto_40 (by decide +kernel) ?_
          refine go_icmp_ge 81 dX3_readInto_42 (by decide) (fun h => absurd h (nI_ge (by omega) (by omega))) (fun h42 => ?_)
          refine go_iload_n dX3_readInto_45 rfl ?_
          refine go_aload_n dX3_readInto_46 rfl ?_
          refine go_geti dX3_readInto_47 fX3_15 rfl (by decide) (by decide) (by decide) rfl hX.2.1 ?_
          refine go_icmp_ge 81 dX3_readInto_50 (by decide) (fun h => absurd h (nI_ge (by omega) (by omega))) (fun h50 => ?_)
          refine go_aload_n dX3_readInto_53 rfl ?_
          refine go_aload_n dX3_readInto_54 rfl ?_
          refine go_iload_n dX3_readInto_55 rfl ?_
          refine go_callV1 (K' := kX3_readPart) [_, _] dX3_readInto_56 mX3_35 lX3_readPart rfl (by decide) rfl (by decide) rfl rfl (Nat.le_of_ble_eq_true rfl) (Nat.le_of_ble_eq_true rfl) (cp) ?_
          refine go_istore (L' := [_, _, _, _, _]) dX3_readInto_59 (by decide) rfl ?_
          refine go_iload dX3_readInto_61 rfl ?_
          refine go_if_ge 72 dX3_readInto_63 (by decide) (fun h63 => ?_) (fun h => absurd (nI_pos' (by omega)) h)
          refine go_iload dX3_readInto_72 rfl ?_
          refine go_istore_n (L' := [_, _, _, _, _]) dX3_readInto_74 (by decide) rfl ?_
          refine go_iinc_n (L' := [_, _, _, _, _]) dX3_readInto_75 rfl (by decide) rfl ?_
          refine go_goto 39 dX3_readInto_78 (by decide) ?_
          exact g1 _
      · by_cases h2 : x at_ = 78 ∧ N < 3
        · cases hr : dg x L (at_ + 1) 10 with
          | none =>
            have cp := c_partN_29 hX hD.2.1 hl h2 (c_rdNews0_29 (O := O) (d := d) (st := at_ + 1) hX (by omega) hr)
            rw [tx_N0 hl h1 h2 hr]
            refine ⟨m, fun z4 => ?_, Fr.rf _ _, fun _ _ _ _ _ _ z => by cases z⟩
            refine go_iload_n dX3_readInto_39 rfl ?_
            refine go_bipush (nI 72) dX3_readInto_40 (by decide +kernel) ?_
            refine go_icmp_ge 81 dX3_readInto_42 (by decide) (fun h => absurd h (nI_ge (by omega) (by omega))) (fun h42 => ?_)
            refine go_iload_n dX3_readInto_45 rfl ?_
            refine go_aload_n dX3_readInto_46 rfl ?_
            refine go_geti dX3_readInto_47 fX3_15 rfl (by decide) (by decide) (by decide) rfl hX.2.1 ?_
            refine go_icmp_ge 81 dX3_readInto_50 (by decide) (fun h => absurd h (nI_ge (by omega) (by omega))) (fun h50 => ?_)
            refine go_aload_n dX3_readInto_53 rfl ?_
            refine go_aload_n dX3_readInto_54 rfl ?_
            refine go_iload_n dX3_readInto_55 rfl ?_
            refine go_callV1 (K' := kX3_readPart) [_, _] dX3_readInto_56 mX3_35 lX3_readPart rfl (by decide) rfl (by decide) rfl rfl (Nat.le_of_ble_eq_true rfl) (Nat.le_of_ble_eq_true rfl) (cp) ?_
            refine go_istore (L' := [_, _, _, _, _]) dX3_readInto_59 (by decide) rfl ?_
            refine go_iload dX3_readInto_61 rfl ?_
            refine go_if_ge 72 dX3_readInto_63 (by decide) (fun h => absurd h (fun zz => absurd (m1_neg (a := at_ + 1) (by omega)) (Int32.not_lt.mpr zz))) (fun h63 => ?_)
            refine go_iload dX3_readInto_66 rfl ?_
            refine go_callS1 (K' := kX3_faultOf) [_] dX3_readInto_68 mX3_39 lX3_faultOf rfl rfl (Nat.le_of_ble_eq_true rfl) (Nat.le_of_ble_eq_true rfl) (c_faultOf) ?_
            exact go_iret dX3_readInto_71 rfl (congrArg (fun v => some (Value.int v)) (m1_sub _).symm) rfl
          | some l =>
            cases hr2 : dg x L (at_ + 2) 10 with
            | none =>
              have cp := c_partN_29 hX hD.2.1 hl h2 (c_rdNews1_29 (O := O) (d := d) (st := at_ + 1) hX (by omega) hr hr2)
              rw [tx_N1 hl h1 h2 hr hr2]
              refine ⟨m, fun z4 => ?_, Fr.rf _ _, fun _ _ _ _ _ _ z => by cases z⟩
              refine go_iload_n dX3_readInto_39 rfl ?_
              refine go_bipush (nI 72) dX3_readInto_40 (by decide +kernel) ?_
              refine go_icmp_ge 81 dX3_readInto_42 (by decide) (fun h => absurd h (nI_ge (by omega) (by omega))) (fun h42 => ?_)
              refine go_iload_n dX3_readInto_45 rfl ?_
              refine go_aload_n dX3_readInto_46 rfl ?_
              refine go_geti dX3_readInto_47 fX3_15 rfl (by decide) (by decide) (by decide) rfl hX.2.1 ?_
              refine go_icmp_ge 81 dX3_readInto_50 (by decide) (fun h => absurd h (nI_ge (by omega) (by omega))) (fun h50 => ?_)
              refine go_aload_n dX3_readInto_53 rfl ?_
              refine go_aload_n dX3_readInto_54 rfl ?_
              refine go_iload_n dX3_readInto_55 rfl ?_
              refine go_callV1 (K' := kX3_readPart) [_, _] dX3_readInto_56 mX3_35 lX3_readPart rfl (by decide) rfl (by decide) rfl rfl (Nat.le_of_ble_eq_true rfl) (Nat.le_of_ble_eq_true rfl) (cp) ?_
              refine go_istore (L' := [_, _, _, _, _]) dX3_readInto_59 (by decide) rfl ?_
              refine go_iload dX3_readInto_61 rfl ?_
              refine go_if_ge 72 dX3_readInto_63 (by decide) (fun h => absurd h (fun zz => absurd (m1_neg (a := at_ + 1 + 1) (by omega)) (Int32.not_lt.mpr zz))) (fun h63 => ?_)
              refine go_iload dX3_readInto_66 rfl ?_
              refine go_callS1 (K' := kX3_faultOf) [_] dX3_readInto_68 mX3_39 lX3_faultOf rfl rfl (Nat.le_of_ble_eq_true rfl) (Nat.le_of_ble_eq_true rfl) (c_faultOf) ?_
              exact go_iret dX3_readInto_71 rfl (congrArg (fun v => some (Value.int v)) (m1_sub _).symm) rfl
            | some o =>
              have d1 := dg_s hr
              have d2 := dg_s hr2
              have cp := c_partN_29 hX hD.2.1 hl h2 (c_rdNews2_29 (O := O) (d := d) (st := at_ + 1) hX hD hk.1 h2.2 (by omega) hr hr2)
              rw [show at_ + 1 + 2 = at_ + 3 from rfl] at cp
              rw [tx_N2 hl h1 h2 hr hr2]
              have q := tx_kr_ok (x := x) hk.1 6 (at_ + 3) 0 d2.1 (by omega)
              obtain ⟨m', g1, g2, g3⟩ := ih (part + 1) (tx_kr x L P 6 (at_ + 3) 0).1 (tx_nw m 29 N l o (tx_kr x L P 6 (at_ + 3) 0).2) P (N + 1) w (tx_uN li N l) (tx_uN wo N o) (tx_uN fi N (tx_kr x L P 6 (at_ + 3) 0).2) (by omega) (by omega) q.2.1 (hX.of rfl rfl) hD.nw (hk.N h2.2 (by omega) q.2.2)
              refine ⟨m', fun z4 => ?_, Fr.trans (((((Fr.rf _ _).up (by decide) _ _).up (by decide) _ _).up (by decide) _ _).up (by decide) _ _) g2, g3⟩
              refine go_iload_n dX3_readInto_39 rfl ?_
              refine go_bipush (nI 72) dX3_readInto_40 (by decide +kernel) ?_
              refine go_icmp_ge 81 dX3_readInto_42 (by decide) (fun h => absurd h (nI_ge (by omega) (by omega))) (fun h42 => ?_)
              refine go_iload_n dX3_readInto_45 rfl ?_
              refine go_aload_n dX3_readInto_46 rfl ?_
              refine go_geti dX3_readInto_47 fX3_15 rfl (by decide) (by decide) (by decide) rfl hX.2.1 ?_
              refine go_icmp_ge 81 dX3_readInto_50 (by decide) (fun h => absurd h (nI_ge (by omega) (by omega))) (fun h50 => ?_)
              refine go_aload_n dX3_readInto_53 rfl ?_
              refine go_aload_n dX3_readInto_54 rfl ?_
              refine go_iload_n dX3_readInto_55 rfl ?_
              refine go_callV1 (K' := kX3_readPart) [_, _] dX3_readInto_56 mX3_35 lX3_readPart rfl (by decide) rfl (by decide) rfl rfl (Nat.le_of_ble_eq_true rfl) (Nat.le_of_ble_eq_true rfl) (cp) ?_
              refine go_istore (L' := [_, _, _, _, _]) dX3_readInto_59 (by decide) rfl ?_
              refine go_iload dX3_readInto_61 rfl ?_
              refine go_if_ge 72 dX3_readInto_63 (by decide) (fun h63 => ?_) (fun h => absurd (nI_pos' (by omega)) h)
              refine go_iload dX3_readInto_72 rfl ?_
              refine go_istore_n (L' := [_, _, _, _, _]) dX3_readInto_74 (by decide) rfl ?_
              refine go_iinc_n (L' := [_, _, _, _, _]) dX3_readInto_75 rfl (by decide) rfl ?_
              refine go_goto 39 dX3_readInto_78 (by decide) ?_
              exact g1 _
        · have cp := c_partF_29 (O := O) (d := d) hX hD.1 hD.2.1 hk.1 hk.2.1 hl h1 h2
          rw [tx_X hl h1 h2]
          refine ⟨m, fun z4 => ?_, Fr.rf _ _, fun _ _ _ _ _ _ z => by cases z⟩
          refine go_iload_n dX3_readInto_39 rfl ?_
          refine go_bipush (nI 72) dX3_readInto_40 (by decide +kernel) ?_
          refine go_icmp_ge 81 dX3_readInto_42 (by decide) (fun h => absurd h (nI_ge (by omega) (by omega))) (fun h42 => ?_)
          refine go_iload_n dX3_readInto_45 rfl ?_
          refine go_aload_n dX3_readInto_46 rfl ?_
          refine go_geti dX3_readInto_47 fX3_15 rfl (by decide) (by decide) (by decide) rfl hX.2.1 ?_
          refine go_icmp_ge 81 dX3_readInto_50 (by decide) (fun h => absurd h (nI_ge (by omega) (by omega))) (fun h50 => ?_)
          refine go_aload_n dX3_readInto_53 rfl ?_
          refine go_aload_n dX3_readInto_54 rfl ?_
          refine go_iload_n dX3_readInto_55 rfl ?_
          refine go_callV1 (K' := kX3_readPart) [_, _] dX3_readInto_56 mX3_35 lX3_readPart rfl (by decide) rfl (by decide) rfl rfl (Nat.le_of_ble_eq_true rfl) (Nat.le_of_ble_eq_true rfl) (cp) ?_
          refine go_istore (L' := [_, _, _, _, _]) dX3_readInto_59 (by decide) rfl ?_
          refine go_iload dX3_readInto_61 rfl ?_
          refine go_if_ge 72 dX3_readInto_63 (by decide) (fun h => absurd h (fun zz => absurd (m1_neg (a := at_) (by omega)) (Int32.not_lt.mpr zz))) (fun h63 => ?_)
          refine go_iload dX3_readInto_66 rfl ?_
          refine go_callS1 (K' := kX3_faultOf) [_] dX3_readInto_68 mX3_39 lX3_faultOf rfl rfl (Nat.le_of_ble_eq_true rfl) (Nat.le_of_ble_eq_true rfl) (c_faultOf) ?_
          exact go_iret dX3_readInto_71 rfl (congrArg (fun v => some (Value.int v)) (m1_sub _).symm) rfl
    · rw [tx_end hl]
      have cj := c_joinHalves_34 (O := O) (d := d + 3) (m := m) (N := N) hk.2.1
      refine ⟨gupA m 34 (jhP (m.1 34) N), fun z4 => ?_, (Fr.rf _ _).upA (by decide) _, fun P' N' w' li' wo' fi' z => ?_⟩
      · skip
        refine go_iload_n dX3_readInto_39 rfl ?_
        refine go_bipush (nI 72) dX3_readInto_40 (by decide +kernel) ?_
        refine go_icmp_ge 81 dX3_readInto_42 (by decide) (fun h => absurd h (nI_ge (by omega) (by omega))) (fun h42 => ?_)
        refine go_iload_n dX3_readInto_45 rfl ?_
        refine go_aload_n dX3_readInto_46 rfl ?_
        refine go_geti dX3_readInto_47 fX3_15 rfl (by decide) (by decide) (by decide) rfl hX.2.1 ?_
        refine go_icmp_ge 81 dX3_readInto_50 (by decide) (fun h50 => ?_) (fun h => absurd (nI_le (by omega) (by omega)) h)
        refine go_aload_n dX3_readInto_81 rfl ?_
        refine go_getc dX3_readInto_82 fX3_42 rfl (by decide) (by decide) (by decide) rfl ?_
        refine go_aload_n dX3_readInto_85 rfl ?_
        refine go_geti dX3_readInto_86 fX3_45 rfl (by decide) (by decide) (by decide) rfl hD.2.1 ?_
        refine go_callS0 (K' := kX6_joinHalves) [_, _] dX3_readInto_89 mX3_48 lX6_joinHalves rfl rfl (Nat.le_of_ble_eq_true rfl) (Nat.le_of_ble_eq_true rfl) (cj) ?_
        refine go_bipush (-9) dX3_readInto_92 (by decide +kernel) ?_
        exact go_iret dX3_readInto_94 rfl rfl rfl
      · cases z
        exact hD.jh
theorem tx_gw0 (h a : Nat) : tx_gw (fun _ _ => none) h a = 0 := by
  apply Nat.eq_of_testBit_eq
  intro i
  rw [tx_gw_bit, decide_eq_false (p := (none : Option Nat) = some a) (by intro z; cases z), Bool.and_false, Nat.zero_testBit]
theorem tx_clear_29 {m : gMem} {lw : Nat} : tx_DC (gup (clM_29 m) 29 7 (nI lw)) 29 lw 0 0 (fun _ _ => none) (fun _ => 0) (fun _ => 0) (fun _ => 0) := by
  refine ⟨rfl, rfl, gup_s _ _ _ _, fun p h hp hh => ?_, fun h a hh ha => ?_, fun n hn => ⟨?_, ?_, ?_⟩⟩
  · show flP (m.1 30) (-9) 36 (p * 6 + h) = -9
    rw [flP_at, if_pos (by omega)]
  · show flP (m.1 31) (nI 0) 18 (h * 3 + a) = nI (tx_gw (fun _ _ => none) h a)
    rw [flP_at, if_pos (by omega)]
    exact congrArg nI (tx_gw0 h a).symm
  · show flP (m.1 32) (nI 0) 3 n = nI 0
    rw [flP_at, if_pos (by omega)]
  · show flP (m.1 33) (nI 0) 3 n = nI 0
    rw [flP_at, if_pos (by omega)]
  · show flP (m.1 34) (nI 0) 3 n = nI 0
    rw [flP_at, if_pos (by omega)]
theorem tx_clF_29 (m : gMem) : Fr [29, 30, 31, 32, 33, 34] m (clM_29 m) := (((((((((Fr.rf _ _).upA (by decide) _).upA (by decide) _).upA (by decide) _).upA (by decide) _).upA (by decide) _).up (by decide) _ _).up (by decide) _ _).up (by decide) _ _)
theorem c_readInto_29 {O : gOm} {d : Nat} {m : gMem} {L : Nat} {x : Nat → Nat} (hX : TxC m L x) : ∃ m', Ca O (d + 4) kX3_readInto [.ref 1, .ref 29] (some (.int (tx_F x L))) m m' ∧ Fr [29, 30, 31, 32, 33, 34] m m' ∧ ∀ lw P' N' w' li' wo' fi', 0 < L ∧ x 0 = 68 → dg x L 1 3 = some lw → tx_0 x L = .inr (P', N', w', li', wo', fi') → tx_DC m' 29 lw P' N' w' li' wo' (tx_jh fi' N') := by
  have hL7 := hX.1
  have hXc : TxC (clM_29 m) L x := hX.of ((tx_clF_29 m).2 1 (by decide)) ((tx_clF_29 m).2 2 (by decide))
  have cc := c_clear_29 (O := O) (d := d + 2) (m := m)
  have cs := c_signAt (O := O) (d := d + 3) (at_ := 0) hXc (by omega)
  by_cases h0 : 0 < L ∧ x 0 = 68
  · rw [if_pos h0.1, h0.2] at cs
    have cf := c_figureAt (O := O) (d := d + 2) (at_ := 1) (b := 3) hXc (by omega) (by omega)
    rw [tx_F, if_pos h0]
    cases hd : dg x L 1 3 with
    | none =>
      rw [hd] at cf
      refine ⟨gup (clM_29 m) 29 7 (-1), ?_, (tx_clF_29 m).up (by decide) _ _, fun _ _ _ _ _ _ _ _ z => by cases z⟩
      show Go O (d + 4) kX3_readInto _ _ 0 [.ref 1, .ref 29, .null, .null, .null] [] m
      refine go_aload_n dX3_readInto_0 rfl ?_
      refine go_callV0 (K' := kX1_clear) [] dX3_readInto_1 mX3_23 lX1_clear rfl (by decide) rfl (by decide) rfl rfl (Nat.le_of_ble_eq_true rfl) (Nat.le_of_ble_eq_true rfl) (cc) ?_
      refine go_aload_n dX3_readInto_4 rfl ?_
      refine go_iconst (nI 0) dX3_readInto_5 (by decide +kernel) ?_
      refine go_callV1 (K' := kX3_signAt) [_] dX3_readInto_6 mX3_19 lX3_signAt rfl (by decide) rfl (by decide) rfl rfl (Nat.le_of_ble_eq_true rfl) (Nat.le_of_ble_eq_true rfl) (cs) ?_
      refine go_bipush (nI 68) dX3_readInto_9 (by decide +kernel) ?_
      refine go_icmp_eq 16 dX3_readInto_11 (by decide) (fun h11 => ?_) (fun h => absurd (rfl) h)
      refine go_aload_n dX3_readInto_16 rfl ?_
      refine go_aload_n dX3_readInto_17 rfl ?_
      refine go_iconst (nI 1) dX3_readInto_18 (by decide +kernel) ?_
      refine go_iconst (nI 3) dX3_readInto_19 (by decide +kernel) ?_
      refine go_callV1 (K' := kX3_figureAt) [_, _] dX3_readInto_20 mX3_28 lX3_figureAt rfl (by decide) rfl (by decide) rfl rfl (Nat.le_of_ble_eq_true rfl) (Nat.le_of_ble_eq_true rfl) (cf) ?_
      refine go_puti dX3_readInto_23 fX3_32 rfl (by decide) (by decide) (by decide) rfl (fun _ _ _ h => by cases h; rfl) (Or.inl rfl) ?_
      refine go_aload_n dX3_readInto_26 rfl ?_
      refine go_geti dX3_readInto_27 fX3_32 rfl (by decide) (by decide) (by decide) rfl (gup_s _ _ _ _) ?_
      refine go_if_ge 35 dX3_readInto_30 (by decide) (fun h => absurd h (by decide +kernel)) (fun h30 => ?_)
      refine go_iconst (nI 1) dX3_readInto_33 (by decide +kernel) ?_
      exact go_iret dX3_readInto_34 rfl rfl rfl
    | some lw =>
      rw [hd] at cf
      have d1 := dg_s hd
      obtain ⟨m', g1, g2, g3⟩ := c_rdLoop_29 (O := O) (d := d) (x := x) (L := L) (lw := lw) 72 0 2 (gup (clM_29 m) 29 7 (nI lw)) 0 0 (fun _ _ => none) (fun _ => 0) (fun _ => 0) (fun _ => 0) (by omega) (by omega) (by omega) (hXc.of rfl rfl) tx_clear_29 tx_Ok.st
      refine ⟨m', ?_, Fr.trans ((tx_clF_29 m).up (by decide) _ _) g2, fun lw' P' N' w' li' wo' fi' _ z1 z2 => ?_⟩
      · show Go O (d + 4) kX3_readInto _ _ 0 [.ref 1, .ref 29, .null, .null, .null] [] m
        refine go_aload_n dX3_readInto_0 rfl ?_
        refine go_callV0 (K' := kX1_clear) [] dX3_readInto_1 mX3_23 lX1_clear rfl (by decide) rfl (by decide) rfl rfl (Nat.le_of_ble_eq_true rfl) (Nat.le_of_ble_eq_true rfl) (cc) ?_
        refine go_aload_n dX3_readInto_4 rfl ?_
        refine go_iconst (nI 0) dX3_readInto_5 (by decide +kernel) ?_
        refine go_callV1 (K' := kX3_signAt) [_] dX3_readInto_6 mX3_19 lX3_signAt rfl (by decide) rfl (by decide) rfl rfl (Nat.le_of_ble_eq_true rfl) (Nat.le_of_ble_eq_true rfl) (cs) ?_
        refine go_bipush (nI 68) dX3_readInto_9 (by decide +kernel) ?_
        refine go_icmp_eq 16 dX3_readInto_11 (by decide) (fun h11 => ?_) (fun h => absurd (rfl) h)
        refine go_aload_n dX3_readInto_16 rfl ?_
        refine go_aload_n dX3_readInto_17 rfl ?_
        refine go_iconst (nI 1) dX3_readInto_18 (by decide +kernel) ?_
        refine go_iconst (nI 3) dX3_readInto_19 (by decide +kernel) ?_
        refine go_callV1 (K' := kX3_figureAt) [_, _] dX3_readInto_20 mX3_28 lX3_figureAt rfl (by decide) rfl (by decide) rfl rfl (Nat.le_of_ble_eq_true rfl) (Nat.le_of_ble_eq_true rfl) (cf) ?_
        refine go_puti dX3_readInto_23 fX3_32 rfl (by decide) (by decide) (by decide) rfl (fun _ _ _ h => by cases h; rfl) (Or.inl rfl) ?_
        refine go_aload_n dX3_readInto_26 rfl ?_
        refine go_geti dX3_readInto_27 fX3_32 rfl (by decide) (by decide) (by decide) rfl (gup_s _ _ _ _) ?_
        refine go_if_ge 35 dX3_readInto_30 (by decide) (fun h30 => ?_) (fun h => absurd (nI_pos' (by omega)) h)
        refine go_iconst (nI 2) dX3_readInto_35 (by decide +kernel) ?_
        refine go_istore_n (L' := [_, _, _, _, _]) dX3_readInto_36 (by decide) rfl ?_
        refine go_iconst (nI 0) dX3_readInto_37 (by decide +kernel) ?_
        refine go_istore_n (L' := [_, _, _, _, _]) dX3_readInto_38 (by decide) rfl ?_
        exact g1 _
      · cases z1
        exact g3 _ _ _ _ _ _ z2
  · rw [tx_F, if_neg h0]
    refine ⟨clM_29 m, ?_, tx_clF_29 m, fun _ _ _ _ _ _ _ z => absurd z h0⟩
    show Go O (d + 4) kX3_readInto _ _ 0 [.ref 1, .ref 29, .null, .null, .null] [] m
    by_cases hl : 0 < L
    · have hb := (hX.2.2 _ hl).1
      rw [if_pos hl] at cs
      refine go_aload_n dX3_readInto_0 rfl ?_
      refine go_callV0 (K' := kX1_clear) [] dX3_readInto_1 mX3_23 lX1_clear rfl (by decide) rfl (by decide) rfl rfl (Nat.le_of_ble_eq_true rfl) (Nat.le_of_ble_eq_true rfl) (cc) ?_
      refine go_aload_n dX3_readInto_4 rfl ?_
      refine go_iconst (nI 0) dX3_readInto_5 (by decide +kernel) ?_
      refine go_callV1 (K' := kX3_signAt) [_] dX3_readInto_6 mX3_19 lX3_signAt rfl (by decide) rfl (by decide) rfl rfl (Nat.le_of_ble_eq_true rfl) (Nat.le_of_ble_eq_true rfl) (cs) ?_
      refine go_bipush (nI 68) dX3_readInto_9 (by decide +kernel) ?_
      refine go_icmp_eq 16 dX3_readInto_11 (by decide) (fun h => absurd h (fun q => h0 ⟨hl, (nI_eq (by omega) (by omega)).mp q⟩)) (fun h11 => ?_)
      refine go_iconst (nI 0) dX3_readInto_14 (by decide +kernel) ?_
      exact go_iret dX3_readInto_15 rfl rfl rfl
    · rw [if_neg hl] at cs
      refine go_aload_n dX3_readInto_0 rfl ?_
      refine go_callV0 (K' := kX1_clear) [] dX3_readInto_1 mX3_23 lX1_clear rfl (by decide) rfl (by decide) rfl rfl (Nat.le_of_ble_eq_true rfl) (Nat.le_of_ble_eq_true rfl) (cc) ?_
      refine go_aload_n dX3_readInto_4 rfl ?_
      refine go_iconst (nI 0) dX3_readInto_5 (by decide +kernel) ?_
      refine go_callV1 (K' := kX3_signAt) [_] dX3_readInto_6 mX3_19 lX3_signAt rfl (by decide) rfl (by decide) rfl rfl (Nat.le_of_ble_eq_true rfl) (Nat.le_of_ble_eq_true rfl) (cs) ?_
      refine go_bipush (nI 68) dX3_readInto_9 (by decide +kernel) ?_
      refine go_icmp_eq 16 dX3_readInto_11 (by decide) (fun h => absurd h (by decide +kernel)) (fun h11 => ?_)
      refine go_iconst (nI 0) dX3_readInto_14 (by decide +kernel) ?_
      exact go_iret dX3_readInto_15 rfl rfl rfl
theorem c_partP_35 {O : gOm} {d : Nat} {m : gMem} {m' : gMem} {L P at_ : Nat} {x : Nat → Nat} {v : Int32} (hX : TxC m L x) (h5 : m.1 35 5 = nI P) (hl : at_ < L) (h1 : x at_ = 80 ∧ P < 6) (hc : Ca O (d + 2) kX3_readPerson [.ref 1, .ref 35, .int (nI (at_ + 1))] (some (.int v)) m m') : Ca O (d + 3) kX3_readPart [.ref 1, .ref 35, .int (nI at_)] (some (.int v)) m m' := by
  have hL := hX.1
  have cs := c_signAt (O := O) (d := d + 2) (at_ := at_) hX (by omega)
  rw [if_pos hl, h1.1] at cs
  show Go O (d + 3) kX3_readPart _ _ 0 [.ref 1, .ref 35, .int (nI at_), .null] [] m
  refine go_aload_n dX3_readPart_0 rfl ?_
  refine go_iload_n dX3_readPart_1 rfl ?_
  refine go_callV1 (K' := kX3_signAt) [_] dX3_readPart_2 mX3_19 lX3_signAt rfl (by decide) rfl (by decide) rfl rfl (Nat.le_of_ble_eq_true rfl) (Nat.le_of_ble_eq_true rfl) (cs) ?_
  refine go_istore_n (L' := [_, _, _, _]) dX3_readPart_5 (by decide) rfl ?_
  refine go_iload_n dX3_readPart_6 rfl ?_
  refine go_bipush (nI 80) dX3_readPart_7 (by decide +kernel) ?_
  refine go_icmp_ne 30 dX3_readPart_9 (by decide) (fun h => absurd h (fun q => q rfl)) (fun h9 => ?_)
  refine go_aload_n dX3_readPart_12 rfl ?_
  refine go_geti dX3_readPart_13 fX3_52 rfl (by decide) (by decide) (by decide) rfl h5 ?_
  refine go_bipush (nI 6) dX3_readPart_16 (by decide +kernel) ?_
  refine go_icmp_ge 30 dX3_readPart_18 (by decide) (fun h => absurd h (nI_ge (by omega) (by omega))) (fun h18 => ?_)
  refine go_aload_n dX3_readPart_21 rfl ?_
  refine go_aload_n dX3_readPart_22 rfl ?_
  refine go_iload_n dX3_readPart_23 rfl ?_
  refine go_iconst (nI 1) dX3_readPart_24 (by decide +kernel) ?_
  first | refine go_iadd_n dX3_readPart_25 ?_ | refine go_iadd dX3_readPart_25 rfl ?_
  refine go_callV1 (K' := kX3_readPerson) [_, _] dX3_readPart_26 mX3_55 lX3_readPerson rfl (by decide) rfl (by decide) rfl rfl (Nat.le_of_ble_eq_true rfl) (Nat.le_of_ble_eq_true rfl) (hc) ?_
  exact go_iret dX3_readPart_29 rfl rfl rfl
theorem c_partN_35 {O : gOm} {d : Nat} {m : gMem} {m' : gMem} {L N at_ : Nat} {x : Nat → Nat} {v : Int32} (hX : TxC m L x) (h6 : m.1 35 6 = nI N) (hl : at_ < L) (h2 : x at_ = 78 ∧ N < 3) (hc : Ca O (d + 2) kX3_readNews [.ref 1, .ref 35, .int (nI (at_ + 1))] (some (.int v)) m m') : Ca O (d + 3) kX3_readPart [.ref 1, .ref 35, .int (nI at_)] (some (.int v)) m m' := by
  have hL := hX.1
  have cs := c_signAt (O := O) (d := d + 2) (at_ := at_) hX (by omega)
  rw [if_pos hl, h2.1] at cs
  show Go O (d + 3) kX3_readPart _ _ 0 [.ref 1, .ref 35, .int (nI at_), .null] [] m
  refine go_aload_n dX3_readPart_0 rfl ?_
  refine go_iload_n dX3_readPart_1 rfl ?_
  refine go_callV1 (K' := kX3_signAt) [_] dX3_readPart_2 mX3_19 lX3_signAt rfl (by decide) rfl (by decide) rfl rfl (Nat.le_of_ble_eq_true rfl) (Nat.le_of_ble_eq_true rfl) (cs) ?_
  refine go_istore_n (L' := [_, _, _, _]) dX3_readPart_5 (by decide) rfl ?_
  refine go_iload_n dX3_readPart_6 rfl ?_
  refine go_bipush (nI 80) dX3_readPart_7 (by decide +kernel) ?_
  refine go_icmp_ne 30 dX3_readPart_9 (by decide) (fun h9 => ?_) (fun h => absurd h (by decide +kernel))
  refine go_iload_n dX3_readPart_30 rfl ?_
  refine go_bipush (nI 78) dX3_readPart_31 (by decide +kernel) ?_
  refine go_icmp_ne 53 dX3_readPart_33 (by decide) (fun h => absurd h (fun q => q rfl)) (fun h33 => ?_)
  refine go_aload_n dX3_readPart_36 rfl ?_
  refine go_geti dX3_readPart_37 fX3_45 rfl (by decide) (by decide) (by decide) rfl h6 ?_
  refine go_iconst (nI 3) dX3_readPart_40 (by decide +kernel) ?_
  refine go_icmp_ge 53 dX3_readPart_41 (by decide) (fun h => absurd h (nI_ge (by omega) (by omega))) (fun h41 => ?_)
  refine go_aload_n dX3_readPart_44 rfl ?_
  refine go_aload_n dX3_readPart_45 rfl ?_
  refine go_iload_n dX3_readPart_46 rfl ?_
  refine go_iconst (nI 1) dX3_readPart_47 (by decide +kernel) ?_
  first | refine go_iadd_n dX3_readPart_48 ?_ | refine go_iadd dX3_readPart_48 rfl ?_
  refine go_callV1 (K' := kX3_readNews) [_, _] dX3_readPart_49 mX3_58 lX3_readNews rfl (by decide) rfl (by decide) rfl rfl (Nat.le_of_ble_eq_true rfl) (Nat.le_of_ble_eq_true rfl) (hc) ?_
  exact go_iret dX3_readPart_52 rfl rfl rfl
theorem c_partF_35 {O : gOm} {d : Nat} {m : gMem} {L P N at_ : Nat} {x : Nat → Nat} (hX : TxC m L x) (h5 : m.1 35 5 = nI P) (h6 : m.1 35 6 = nI N) (hP : P ≤ 6) (hN : N ≤ 3) (hl : at_ < L) (h1 : ¬ (x at_ = 80 ∧ P < 6)) (h2 : ¬ (x at_ = 78 ∧ N < 3)) : Ca O (d + 3) kX3_readPart [.ref 1, .ref 35, .int (nI at_)] (some (.int (-1 - nI at_))) m m := by
  have hL := hX.1
  have hb := (hX.2.2 _ hl).1
  have cs := c_signAt (O := O) (d := d + 2) (at_ := at_) hX (by omega)
  rw [if_pos hl] at cs
  have tail : Go O (d + 3) kX3_readPart (some (.int (-1 - nI at_))) m 30 [.ref 1, .ref 35, .int (nI at_), .int (nI (x at_))] [] m := by
    by_cases b : x at_ = 78
    · have hN3 : 3 ≤ N := Nat.le_of_not_lt (fun z => h2 ⟨b, z⟩)
      refine go_iload_n dX3_readPart_30 rfl ?_
      refine go_bipush (nI 78) dX3_readPart_31 (by decide +kernel) ?_
      refine go_icmp_ne 53 dX3_readPart_33 (by decide) (fun h => absurd h (fun q => q (congrArg nI b))) (fun h33 => ?_)
      refine go_aload_n dX3_readPart_36 rfl ?_
      refine go_geti dX3_readPart_37 fX3_45 rfl (by decide) (by decide) (by decide) rfl h6 ?_
      refine go_iconst (nI 3) dX3_readPart_40 (by decide +kernel) ?_
      refine go_icmp_ge 53 dX3_readPart_41 (by decide) (fun h41 => ?_) (fun h => absurd (nI_le (by omega) (by omega)) h)
      refine go_iload_n dX3_readPart_53 rfl ?_
      refine go_callS1 (K' := kX3_faultAt) [_] dX3_readPart_54 mX3_61 lX3_faultAt rfl rfl (Nat.le_of_ble_eq_true rfl) (Nat.le_of_ble_eq_true rfl) (c_faultAt) ?_
      exact go_iret dX3_readPart_57 rfl rfl rfl
    · skip
      refine go_iload_n dX3_readPart_30 rfl ?_
      refine go_bipush (nI 78) dX3_readPart_31 (by decide +kernel) ?_
      refine go_icmp_ne 53 dX3_readPart_33 (by decide) (fun h33 => ?_) (fun h => absurd h (fun q => b ((nI_eq (by omega) (by omega)).mp q)))
      refine go_iload_n dX3_readPart_53 rfl ?_
      refine go_callS1 (K' := kX3_faultAt) [_] dX3_readPart_54 mX3_61 lX3_faultAt rfl rfl (Nat.le_of_ble_eq_true rfl) (Nat.le_of_ble_eq_true rfl) (c_faultAt) ?_
      exact go_iret dX3_readPart_57 rfl rfl rfl
  show Go O (d + 3) kX3_readPart _ _ 0 [.ref 1, .ref 35, .int (nI at_), .null] [] m
  by_cases a : x at_ = 80
  · have hP6 : 6 ≤ P := Nat.le_of_not_lt (fun z => h1 ⟨a, z⟩)
    refine go_aload_n dX3_readPart_0 rfl ?_
    refine go_iload_n dX3_readPart_1 rfl ?_
    refine go_callV1 (K' := kX3_signAt) [_] dX3_readPart_2 mX3_19 lX3_signAt rfl (by decide) rfl (by decide) rfl rfl (Nat.le_of_ble_eq_true rfl) (Nat.le_of_ble_eq_true rfl) (cs) ?_
    refine go_istore_n (L' := [_, _, _, _]) dX3_readPart_5 (by decide) rfl ?_
    refine go_iload_n dX3_readPart_6 rfl ?_
    refine go_bipush (nI 80) dX3_readPart_7 (by decide +kernel) ?_
    refine go_icmp_ne 30 dX3_readPart_9 (by decide) (fun h => absurd h (fun q => q (congrArg nI a))) (fun h9 => ?_)
    refine go_aload_n dX3_readPart_12 rfl ?_
    refine go_geti dX3_readPart_13 fX3_52 rfl (by decide) (by decide) (by decide) rfl h5 ?_
    refine go_bipush (nI 6) dX3_readPart_16 (by decide +kernel) ?_
    refine go_icmp_ge 30 dX3_readPart_18 (by decide) (fun h18 => ?_) (fun h => absurd (nI_le (by omega) (by omega)) h)
    exact tail
  · skip
    refine go_aload_n dX3_readPart_0 rfl ?_
    refine go_iload_n dX3_readPart_1 rfl ?_
    refine go_callV1 (K' := kX3_signAt) [_] dX3_readPart_2 mX3_19 lX3_signAt rfl (by decide) rfl (by decide) rfl rfl (Nat.le_of_ble_eq_true rfl) (Nat.le_of_ble_eq_true rfl) (cs) ?_
    refine go_istore_n (L' := [_, _, _, _]) dX3_readPart_5 (by decide) rfl ?_
    refine go_iload_n dX3_readPart_6 rfl ?_
    refine go_bipush (nI 80) dX3_readPart_7 (by decide +kernel) ?_
    refine go_icmp_ne 30 dX3_readPart_9 (by decide) (fun h9 => ?_) (fun h => absurd h (fun q => a ((nI_eq (by omega) (by omega)).mp q)))
    exact tail
theorem c_rdLoop_35 {O : gOm} {d L lw : Nat} {x : Nat → Nat} : ∀ f part at_ (m : gMem) P N (w : Nat → Nat → Option Nat) (li wo fi : Nat → Nat), part + f = 72 → 2 + part ≤ at_ → at_ ≤ L → TxC m L x → tx_DC m 35 lw P N w li wo fi → tx_Ok P N w li fi → ∃ m', (∀ z4, Go O (d + 4) kX3_readInto (some (.int (tx_A (tx_prs x L f at_ P N w li wo fi)))) m' 39 [.ref 1, .ref 35, .int (nI at_), .int (nI part), z4] [] m) ∧ Fr [35, 36, 37, 38, 39, 40] m m' ∧ ∀ P' N' w' li' wo' fi', tx_prs x L f at_ P N w li wo fi = .inr (P', N', w', li', wo', fi') → tx_DC m' 35 lw P' N' w' li' wo' (tx_jh fi' N') := by
  intro f
  induction f with
  | zero =>
    intro part at_ m P N w li wo fi hf ha hL hX hD hk
    have := hX.1
    omega
  | succ f ih =>
    intro part at_ m P N w li wo fi hf ha hL hX hD hk
    have hL7 := hX.1
    by_cases hl : at_ < L
    · by_cases h1 : x at_ = 80 ∧ P < 6
      · obtain ⟨m1, c1, f1, e1⟩ := c_rdPerson_35 (O := O) (d := d) (st := at_ + 1) hX hD h1.2 (fun j => hk.2.2.1 P j (Nat.le_refl _)) (by omega)
        cases hr : tx_rp x L 6 (at_ + 1) with
        | some q =>
          rw [hr] at c1
          dsimp only at c1
          have hq := tx_rp_q 6 (at_ + 1) hr
          have cp := c_partP_35 hX hD.1 hl h1 c1
          rw [tx_P0 hl h1 hr]
          refine ⟨m1, fun z4 => ?_, f1, fun _ _ _ _ _ _ z => by cases z⟩
          refine go_iload_n dX3_readInto_39 rfl ?_
          refine go_bipush (nI 72) dX3_readInto_40 (by decide +kernel) ?_
          refine go_icmp_ge 81 dX3_readInto_42 (by decide) (fun h => absurd h (nI_ge (by omega) (by omega))) (fun h42 => ?_)
          refine go_iload_n dX3_readInto_45 rfl ?_
          refine go_aload_n dX3_readInto_46 rfl ?_
          refine go_geti dX3_readInto_47 fX3_15 rfl (by decide) (by decide) (by decide) rfl hX.2.1 ?_
          refine go_icmp_ge 81 dX3_readInto_50 (by decide) (fun h => absurd h (nI_ge (by omega) (by omega))) (fun h50 => ?_)
          refine go_aload_n dX3_readInto_53 rfl ?_
          refine go_aload_n dX3_readInto_54 rfl ?_
          refine go_iload_n dX3_readInto_55 rfl ?_
          refine go_callV1 (K' := kX3_readPart) [_, _] dX3_readInto_56 mX3_35 lX3_readPart rfl (by decide) rfl (by decide) rfl rfl (Nat.le_of_ble_eq_true rfl) (Nat.le_of_ble_eq_true rfl) (cp) ?_
          refine go_istore (L' := [_, _, _, _, _]) dX3_readInto_59 (by decide) rfl ?_
          refine go_iload dX3_readInto_61 rfl ?_
          refine go_if_ge 72 dX3_readInto_63 (by decide) (fun h => absurd h (fun zz => absurd (m1_neg (a := q) (by omega)) (Int32.not_lt.mpr zz))) (fun h63 => ?_)
          refine go_iload dX3_readInto_66 rfl ?_
          refine go_callS1 (K' := kX3_faultOf) [_] dX3_readInto_68 mX3_39 lX3_faultOf rfl rfl (Nat.le_of_ble_eq_true rfl) (Nat.le_of_ble_eq_true rfl) (c_faultOf) ?_
          exact go_iret dX3_readInto_71 rfl (congrArg (fun v => some (Value.int v)) (m1_sub _).symm) rfl
        | none =>
          rw [hr] at c1
          dsimp only at c1
          have cp := c_partP_35 hX hD.1 hl h1 c1
          have hle := tx_rp_le 6 (at_ + 1) hl hr
          rw [tx_P1 hl h1 hr]
          obtain ⟨m', g1, g2, g3⟩ := ih (part + 1) (at_ + 7) m1 (P + 1) N (tx_wH w P (tx_w x L (at_ + 1)) 6) li wo fi (by omega) (by omega) (by omega) (hX.of (f1.2 1 (by decide)) (f1.2 2 (by decide))) (e1 hr) (hk.P h1.2)
          refine ⟨m', fun z4 => ?_, f1.trans g2, g3⟩
          refine go_iload_n dX3_readInto_39 rfl ?_
          refine go_bipush (nI 72) dX3_readInto_40 (by decide +kernel) ?_
          refine go_icmp_ge 81 dX3_readInto_42 (by decide) (fun h => absurd h (nI_ge (by omega) (by omega))) (fun h42 => ?_)
          refine go_iload_n dX3_readInto_45 rfl ?_
          refine go_aload_n dX3_readInto_46 rfl ?_
          refine go_geti dX3_readInto_47 fX3_15 rfl (by decide) (by decide) (by decide) rfl hX.2.1 ?_
          refine go_icmp_ge 81 dX3_readInto_50 (by decide) (fun h => absurd h (nI_ge (by omega) (by omega))) (fun h50 => ?_)
          refine go_aload_n dX3_readInto_53 rfl ?_
          refine go_aload_n dX3_readInto_54 rfl ?_
          refine go_iload_n dX3_readInto_55 rfl ?_
          refine go_callV1 (K' := kX3_readPart) [_, _] dX3_readInto_56 mX3_35 lX3_readPart rfl (by decide) rfl (by decide) rfl rfl (Nat.le_of_ble_eq_true rfl) (Nat.le_of_ble_eq_true rfl) (cp) ?_
          refine go_istore (L' := [_, _, _, _, _]) dX3_readInto_59 (by decide) rfl ?_
          refine go_iload dX3_readInto_61 rfl ?_
          refine go_if_ge 72 dX3_readInto_63 (by decide) (fun h63 => ?_) (fun h => absurd (nI_pos' (by omega)) h)
          refine go_iload dX3_readInto_72 rfl ?_
          refine go_istore_n (L' := [_, _, _, _, _]) dX3_readInto_74 (by decide) rfl ?_
          refine go_iinc_n (L' := [_, _, _, _, _]) dX3_readInto_75 rfl (by decide) rfl ?_
          refine go_goto 39 dX3_readInto_78 (by decide) ?_
          exact g1 _
      · by_cases h2 : x at_ = 78 ∧ N < 3
        · cases hr : dg x L (at_ + 1) 10 with
          | none =>
            have cp := c_partN_35 hX hD.2.1 hl h2 (c_rdNews0_35 (O := O) (d := d) (st := at_ + 1) hX (by omega) hr)
            rw [tx_N0 hl h1 h2 hr]
            refine ⟨m, fun z4 => ?_, Fr.rf _ _, fun _ _ _ _ _ _ z => by cases z⟩
            refine go_iload_n dX3_readInto_39 rfl ?_
            refine go_bipush (nI 72) dX3_readInto_40 (by decide +kernel) ?_
            refine go_icmp_ge 81 dX3_readInto_42 (by decide) (fun h => absurd h (nI_ge (by omega) (by omega))) (fun h42 => ?_)
            refine go_iload_n dX3_readInto_45 rfl ?_
            refine go_aload_n dX3_readInto_46 rfl ?_
            refine go_geti dX3_readInto_47 fX3_15 rfl (by decide) (by decide) (by decide) rfl hX.2.1 ?_
            refine go_icmp_ge 81 dX3_readInto_50 (by decide) (fun h => absurd h (nI_ge (by omega) (by omega))) (fun h50 => ?_)
            refine go_aload_n dX3_readInto_53 rfl ?_
            refine go_aload_n dX3_readInto_54 rfl ?_
            refine go_iload_n dX3_readInto_55 rfl ?_
            refine go_callV1 (K' := kX3_readPart) [_, _] dX3_readInto_56 mX3_35 lX3_readPart rfl (by decide) rfl (by decide) rfl rfl (Nat.le_of_ble_eq_true rfl) (Nat.le_of_ble_eq_true rfl) (cp) ?_
            refine go_istore (L' := [_, _, _, _, _]) dX3_readInto_59 (by decide) rfl ?_
            refine go_iload dX3_readInto_61 rfl ?_
            refine go_if_ge 72 dX3_readInto_63 (by decide) (fun h => absurd h (fun zz => absurd (m1_neg (a := at_ + 1) (by omega)) (Int32.not_lt.mpr zz))) (fun h63 => ?_)
            refine go_iload dX3_readInto_66 rfl ?_
            refine go_callS1 (K' := kX3_faultOf) [_] dX3_readInto_68 mX3_39 lX3_faultOf rfl rfl (Nat.le_of_ble_eq_true rfl) (Nat.le_of_ble_eq_true rfl) (c_faultOf) ?_
            exact go_iret dX3_readInto_71 rfl (congrArg (fun v => some (Value.int v)) (m1_sub _).symm) rfl
          | some l =>
            cases hr2 : dg x L (at_ + 2) 10 with
            | none =>
              have cp := c_partN_35 hX hD.2.1 hl h2 (c_rdNews1_35 (O := O) (d := d) (st := at_ + 1) hX (by omega) hr hr2)
              rw [tx_N1 hl h1 h2 hr hr2]
              refine ⟨m, fun z4 => ?_, Fr.rf _ _, fun _ _ _ _ _ _ z => by cases z⟩
              refine go_iload_n dX3_readInto_39 rfl ?_
              refine go_bipush (nI 72) dX3_readInto_40 (by decide +kernel) ?_
              refine go_icmp_ge 81 dX3_readInto_42 (by decide) (fun h => absurd h (nI_ge (by omega) (by omega))) (fun h42 => ?_)
              refine go_iload_n dX3_readInto_45 rfl ?_
              refine go_aload_n dX3_readInto_46 rfl ?_
              refine go_geti dX3_readInto_47 fX3_15 rfl (by decide) (by decide) (by decide) rfl hX.2.1 ?_
              refine go_icmp_ge 81 dX3_readInto_50 (by decide) (fun h => absurd h (nI_ge (by omega) (by omega))) (fun h50 => ?_)
              refine go_aload_n dX3_readInto_53 rfl ?_
              refine go_aload_n dX3_readInto_54 rfl ?_
              refine go_iload_n dX3_readInto_55 rfl ?_
              refine go_callV1 (K' := kX3_readPart) [_, _] dX3_readInto_56 mX3_35 lX3_readPart rfl (by decide) rfl (by decide) rfl rfl (Nat.le_of_ble_eq_true rfl) (Nat.le_of_ble_eq_true rfl) (cp) ?_
              refine go_istore (L' := [_, _, _, _, _]) dX3_readInto_59 (by decide) rfl ?_
              refine go_iload dX3_readInto_61 rfl ?_
              refine go_if_ge 72 dX3_readInto_63 (by decide) (fun h => absurd h (fun zz => absurd (m1_neg (a := at_ + 1 + 1) (by omega)) (Int32.not_lt.mpr zz))) (fun h63 => ?_)
              refine go_iload dX3_readInto_66 rfl ?_
              refine go_callS1 (K' := kX3_faultOf) [_] dX3_readInto_68 mX3_39 lX3_faultOf rfl rfl (Nat.le_of_ble_eq_true rfl) (Nat.le_of_ble_eq_true rfl) (c_faultOf) ?_
              exact go_iret dX3_readInto_71 rfl (congrArg (fun v => some (Value.int v)) (m1_sub _).symm) rfl
            | some o =>
              have d1 := dg_s hr
              have d2 := dg_s hr2
              have cp := c_partN_35 hX hD.2.1 hl h2 (c_rdNews2_35 (O := O) (d := d) (st := at_ + 1) hX hD hk.1 h2.2 (by omega) hr hr2)
              rw [show at_ + 1 + 2 = at_ + 3 from rfl] at cp
              rw [tx_N2 hl h1 h2 hr hr2]
              have q := tx_kr_ok (x := x) hk.1 6 (at_ + 3) 0 d2.1 (by omega)
              obtain ⟨m', g1, g2, g3⟩ := ih (part + 1) (tx_kr x L P 6 (at_ + 3) 0).1 (tx_nw m 35 N l o (tx_kr x L P 6 (at_ + 3) 0).2) P (N + 1) w (tx_uN li N l) (tx_uN wo N o) (tx_uN fi N (tx_kr x L P 6 (at_ + 3) 0).2) (by omega) (by omega) q.2.1 (hX.of rfl rfl) hD.nw (hk.N h2.2 (by omega) q.2.2)
              refine ⟨m', fun z4 => ?_, Fr.trans (((((Fr.rf _ _).up (by decide) _ _).up (by decide) _ _).up (by decide) _ _).up (by decide) _ _) g2, g3⟩
              refine go_iload_n dX3_readInto_39 rfl ?_
              refine go_bipush (nI 72) dX3_readInto_40 (by decide +kernel) ?_
              refine go_icmp_ge 81 dX3_readInto_42 (by decide) (fun h => absurd h (nI_ge (by omega) (by omega))) (fun h42 => ?_)
              refine go_iload_n dX3_readInto_45 rfl ?_
              refine go_aload_n dX3_readInto_46 rfl ?_
              refine go_geti dX3_readInto_47 fX3_15 rfl (by decide) (by decide) (by decide) rfl hX.2.1 ?_
              refine go_icmp_ge 81 dX3_readInto_50 (by decide) (fun h => absurd h (nI_ge (by omega) (by omega))) (fun h50 => ?_)
              refine go_aload_n dX3_readInto_53 rfl ?_
              refine go_aload_n dX3_readInto_54 rfl ?_
              refine go_iload_n dX3_readInto_55 rfl ?_
              refine go_callV1 (K' := kX3_readPart) [_, _] dX3_readInto_56 mX3_35 lX3_readPart rfl (by decide) rfl (by decide) rfl rfl (Nat.le_of_ble_eq_true rfl) (Nat.le_of_ble_eq_true rfl) (cp) ?_
              refine go_istore (L' := [_, _, _, _, _]) dX3_readInto_59 (by decide) rfl ?_
              refine go_iload dX3_readInto_61 rfl ?_
              refine go_if_ge 72 dX3_readInto_63 (by decide) (fun h63 => ?_) (fun h => absurd (nI_pos' (by omega)) h)
              refine go_iload dX3_readInto_72 rfl ?_
              refine go_istore_n (L' := [_, _, _, _, _]) dX3_readInto_74 (by decide) rfl ?_
              refine go_iinc_n (L' := [_, _, _, _, _]) dX3_readInto_75 rfl (by decide) rfl ?_
              refine go_goto 39 dX3_readInto_78 (by decide) ?_
              exact g1 _
        · have cp := c_partF_35 (O := O) (d := d) hX hD.1 hD.2.1 hk.1 hk.2.1 hl h1 h2
          rw [tx_X hl h1 h2]
          refine ⟨m, fun z4 => ?_, Fr.rf _ _, fun _ _ _ _ _ _ z => by cases z⟩
          refine go_iload_n dX3_readInto_39 rfl ?_
          refine go_bipush (nI 72) dX3_readInto_40 (by decide +kernel) ?_
          refine go_icmp_ge 81 dX3_readInto_42 (by decide) (fun h => absurd h (nI_ge (by omega) (by omega))) (fun h42 => ?_)
          refine go_iload_n dX3_readInto_45 rfl ?_
          refine go_aload_n dX3_readInto_46 rfl ?_
          refine go_geti dX3_readInto_47 fX3_15 rfl (by decide) (by decide) (by decide) rfl hX.2.1 ?_
          refine go_icmp_ge 81 dX3_readInto_50 (by decide) (fun h => absurd h (nI_ge (by omega) (by omega))) (fun h50 => ?_)
          refine go_aload_n dX3_readInto_53 rfl ?_
          refine go_aload_n dX3_readInto_54 rfl ?_
          refine go_iload_n dX3_readInto_55 rfl ?_
          refine go_callV1 (K' := kX3_readPart) [_, _] dX3_readInto_56 mX3_35 lX3_readPart rfl (by decide) rfl (by decide) rfl rfl (Nat.le_of_ble_eq_true rfl) (Nat.le_of_ble_eq_true rfl) (cp) ?_
          refine go_istore (L' := [_, _, _, _, _]) dX3_readInto_59 (by decide) rfl ?_
          refine go_iload dX3_readInto_61 rfl ?_
          refine go_if_ge 72 dX3_readInto_63 (by decide) (fun h => absurd h (fun zz => absurd (m1_neg (a := at_) (by omega)) (Int32.not_lt.mpr zz))) (fun h63 => ?_)
          refine go_iload dX3_readInto_66 rfl ?_
          refine go_callS1 (K' := kX3_faultOf) [_] dX3_readInto_68 mX3_39 lX3_faultOf rfl rfl (Nat.le_of_ble_eq_true rfl) (Nat.le_of_ble_eq_true rfl) (c_faultOf) ?_
          exact go_iret dX3_readInto_71 rfl (congrArg (fun v => some (Value.int v)) (m1_sub _).symm) rfl
    · rw [tx_end hl]
      have cj := c_joinHalves_40 (O := O) (d := d + 3) (m := m) (N := N) hk.2.1
      refine ⟨gupA m 40 (jhP (m.1 40) N), fun z4 => ?_, (Fr.rf _ _).upA (by decide) _, fun P' N' w' li' wo' fi' z => ?_⟩
      · skip
        refine go_iload_n dX3_readInto_39 rfl ?_
        refine go_bipush (nI 72) dX3_readInto_40 (by decide +kernel) ?_
        refine go_icmp_ge 81 dX3_readInto_42 (by decide) (fun h => absurd h (nI_ge (by omega) (by omega))) (fun h42 => ?_)
        refine go_iload_n dX3_readInto_45 rfl ?_
        refine go_aload_n dX3_readInto_46 rfl ?_
        refine go_geti dX3_readInto_47 fX3_15 rfl (by decide) (by decide) (by decide) rfl hX.2.1 ?_
        refine go_icmp_ge 81 dX3_readInto_50 (by decide) (fun h50 => ?_) (fun h => absurd (nI_le (by omega) (by omega)) h)
        refine go_aload_n dX3_readInto_81 rfl ?_
        refine go_getc dX3_readInto_82 fX3_42 rfl (by decide) (by decide) (by decide) rfl ?_
        refine go_aload_n dX3_readInto_85 rfl ?_
        refine go_geti dX3_readInto_86 fX3_45 rfl (by decide) (by decide) (by decide) rfl hD.2.1 ?_
        refine go_callS0 (K' := kX6_joinHalves) [_, _] dX3_readInto_89 mX3_48 lX6_joinHalves rfl rfl (Nat.le_of_ble_eq_true rfl) (Nat.le_of_ble_eq_true rfl) (cj) ?_
        refine go_bipush (-9) dX3_readInto_92 (by decide +kernel) ?_
        exact go_iret dX3_readInto_94 rfl rfl rfl
      · cases z
        exact hD.jh
theorem tx_clear_35 {m : gMem} {lw : Nat} : tx_DC (gup (clM_35 m) 35 7 (nI lw)) 35 lw 0 0 (fun _ _ => none) (fun _ => 0) (fun _ => 0) (fun _ => 0) := by
  refine ⟨rfl, rfl, gup_s _ _ _ _, fun p h hp hh => ?_, fun h a hh ha => ?_, fun n hn => ⟨?_, ?_, ?_⟩⟩
  · show flP (m.1 36) (-9) 36 (p * 6 + h) = -9
    rw [flP_at, if_pos (by omega)]
  · show flP (m.1 37) (nI 0) 18 (h * 3 + a) = nI (tx_gw (fun _ _ => none) h a)
    rw [flP_at, if_pos (by omega)]
    exact congrArg nI (tx_gw0 h a).symm
  · show flP (m.1 38) (nI 0) 3 n = nI 0
    rw [flP_at, if_pos (by omega)]
  · show flP (m.1 39) (nI 0) 3 n = nI 0
    rw [flP_at, if_pos (by omega)]
  · show flP (m.1 40) (nI 0) 3 n = nI 0
    rw [flP_at, if_pos (by omega)]
theorem tx_clF_35 (m : gMem) : Fr [35, 36, 37, 38, 39, 40] m (clM_35 m) := (((((((((Fr.rf _ _).upA (by decide) _).upA (by decide) _).upA (by decide) _).upA (by decide) _).upA (by decide) _).up (by decide) _ _).up (by decide) _ _).up (by decide) _ _)
theorem c_readInto_35 {O : gOm} {d : Nat} {m : gMem} {L : Nat} {x : Nat → Nat} (hX : TxC m L x) : ∃ m', Ca O (d + 4) kX3_readInto [.ref 1, .ref 35] (some (.int (tx_F x L))) m m' ∧ Fr [35, 36, 37, 38, 39, 40] m m' ∧ ∀ lw P' N' w' li' wo' fi', 0 < L ∧ x 0 = 68 → dg x L 1 3 = some lw → tx_0 x L = .inr (P', N', w', li', wo', fi') → tx_DC m' 35 lw P' N' w' li' wo' (tx_jh fi' N') := by
  have hL7 := hX.1
  have hXc : TxC (clM_35 m) L x := hX.of ((tx_clF_35 m).2 1 (by decide)) ((tx_clF_35 m).2 2 (by decide))
  have cc := c_clear_35 (O := O) (d := d + 2) (m := m)
  have cs := c_signAt (O := O) (d := d + 3) (at_ := 0) hXc (by omega)
  by_cases h0 : 0 < L ∧ x 0 = 68
  · rw [if_pos h0.1, h0.2] at cs
    have cf := c_figureAt (O := O) (d := d + 2) (at_ := 1) (b := 3) hXc (by omega) (by omega)
    rw [tx_F, if_pos h0]
    cases hd : dg x L 1 3 with
    | none =>
      rw [hd] at cf
      refine ⟨gup (clM_35 m) 35 7 (-1), ?_, (tx_clF_35 m).up (by decide) _ _, fun _ _ _ _ _ _ _ _ z => by cases z⟩
      show Go O (d + 4) kX3_readInto _ _ 0 [.ref 1, .ref 35, .null, .null, .null] [] m
      refine go_aload_n dX3_readInto_0 rfl ?_
      refine go_callV0 (K' := kX1_clear) [] dX3_readInto_1 mX3_23 lX1_clear rfl (by decide) rfl (by decide) rfl rfl (Nat.le_of_ble_eq_true rfl) (Nat.le_of_ble_eq_true rfl) (cc) ?_
      refine go_aload_n dX3_readInto_4 rfl ?_
      refine go_iconst (nI 0) dX3_readInto_5 (by decide +kernel) ?_
      refine go_callV1 (K' := kX3_signAt) [_] dX3_readInto_6 mX3_19 lX3_signAt rfl (by decide) rfl (by decide) rfl rfl (Nat.le_of_ble_eq_true rfl) (Nat.le_of_ble_eq_true rfl) (cs) ?_
      refine go_bipush (nI 68) dX3_readInto_9 (by decide +kernel) ?_
      refine go_icmp_eq 16 dX3_readInto_11 (by decide) (fun h11 => ?_) (fun h => absurd (rfl) h)
      refine go_aload_n dX3_readInto_16 rfl ?_
      refine go_aload_n dX3_readInto_17 rfl ?_
      refine go_iconst (nI 1) dX3_readInto_18 (by decide +kernel) ?_
      refine go_iconst (nI 3) dX3_readInto_19 (by decide +kernel) ?_
      refine go_callV1 (K' := kX3_figureAt) [_, _] dX3_readInto_20 mX3_28 lX3_figureAt rfl (by decide) rfl (by decide) rfl rfl (Nat.le_of_ble_eq_true rfl) (Nat.le_of_ble_eq_true rfl) (cf) ?_
      refine go_puti dX3_readInto_23 fX3_32 rfl (by decide) (by decide) (by decide) rfl (fun _ _ _ h => by cases h; rfl) (Or.inl rfl) ?_
      refine go_aload_n dX3_readInto_26 rfl ?_
      refine go_geti dX3_readInto_27 fX3_32 rfl (by decide) (by decide) (by decide) rfl (gup_s _ _ _ _) ?_
      refine go_if_ge 35 dX3_readInto_30 (by decide) (fun h => absurd h (by decide +kernel)) (fun h30 => ?_)
      refine go_iconst (nI 1) dX3_readInto_33 (by decide +kernel) ?_
      exact go_iret dX3_readInto_34 rfl rfl rfl
    | some lw =>
      rw [hd] at cf
      have d1 := dg_s hd
      obtain ⟨m', g1, g2, g3⟩ := c_rdLoop_35 (O := O) (d := d) (x := x) (L := L) (lw := lw) 72 0 2 (gup (clM_35 m) 35 7 (nI lw)) 0 0 (fun _ _ => none) (fun _ => 0) (fun _ => 0) (fun _ => 0) (by omega) (by omega) (by omega) (hXc.of rfl rfl) tx_clear_35 tx_Ok.st
      refine ⟨m', ?_, Fr.trans ((tx_clF_35 m).up (by decide) _ _) g2, fun lw' P' N' w' li' wo' fi' _ z1 z2 => ?_⟩
      · show Go O (d + 4) kX3_readInto _ _ 0 [.ref 1, .ref 35, .null, .null, .null] [] m
        refine go_aload_n dX3_readInto_0 rfl ?_
        refine go_callV0 (K' := kX1_clear) [] dX3_readInto_1 mX3_23 lX1_clear rfl (by decide) rfl (by decide) rfl rfl (Nat.le_of_ble_eq_true rfl) (Nat.le_of_ble_eq_true rfl) (cc) ?_
        refine go_aload_n dX3_readInto_4 rfl ?_
        refine go_iconst (nI 0) dX3_readInto_5 (by decide +kernel) ?_
        refine go_callV1 (K' := kX3_signAt) [_] dX3_readInto_6 mX3_19 lX3_signAt rfl (by decide) rfl (by decide) rfl rfl (Nat.le_of_ble_eq_true rfl) (Nat.le_of_ble_eq_true rfl) (cs) ?_
        refine go_bipush (nI 68) dX3_readInto_9 (by decide +kernel) ?_
        refine go_icmp_eq 16 dX3_readInto_11 (by decide) (fun h11 => ?_) (fun h => absurd (rfl) h)
        refine go_aload_n dX3_readInto_16 rfl ?_
        refine go_aload_n dX3_readInto_17 rfl ?_
        refine go_iconst (nI 1) dX3_readInto_18 (by decide +kernel) ?_
        refine go_iconst (nI 3) dX3_readInto_19 (by decide +kernel) ?_
        refine go_callV1 (K' := kX3_figureAt) [_, _] dX3_readInto_20 mX3_28 lX3_figureAt rfl (by decide) rfl (by decide) rfl rfl (Nat.le_of_ble_eq_true rfl) (Nat.le_of_ble_eq_true rfl) (cf) ?_
        refine go_puti dX3_readInto_23 fX3_32 rfl (by decide) (by decide) (by decide) rfl (fun _ _ _ h => by cases h; rfl) (Or.inl rfl) ?_
        refine go_aload_n dX3_readInto_26 rfl ?_
        refine go_geti dX3_readInto_27 fX3_32 rfl (by decide) (by decide) (by decide) rfl (gup_s _ _ _ _) ?_
        refine go_if_ge 35 dX3_readInto_30 (by decide) (fun h30 => ?_) (fun h => absurd (nI_pos' (by omega)) h)
        refine go_iconst (nI 2) dX3_readInto_35 (by decide +kernel) ?_
        refine go_istore_n (L' := [_, _, _, _, _]) dX3_readInto_36 (by decide) rfl ?_
        refine go_iconst (nI 0) dX3_readInto_37 (by decide +kernel) ?_
        refine go_istore_n (L' := [_, _, _, _, _]) dX3_readInto_38 (by decide) rfl ?_
        exact g1 _
      · cases z1
        exact g3 _ _ _ _ _ _ z2
  · rw [tx_F, if_neg h0]
    refine ⟨clM_35 m, ?_, tx_clF_35 m, fun _ _ _ _ _ _ _ z => absurd z h0⟩
    show Go O (d + 4) kX3_readInto _ _ 0 [.ref 1, .ref 35, .null, .null, .null] [] m
    by_cases hl : 0 < L
    · have hb := (hX.2.2 _ hl).1
      rw [if_pos hl] at cs
      refine go_aload_n dX3_readInto_0 rfl ?_
      refine go_callV0 (K' := kX1_clear) [] dX3_readInto_1 mX3_23 lX1_clear rfl (by decide) rfl (by decide) rfl rfl (Nat.le_of_ble_eq_true rfl) (Nat.le_of_ble_eq_true rfl) (cc) ?_
      refine go_aload_n dX3_readInto_4 rfl ?_
      refine go_iconst (nI 0) dX3_readInto_5 (by decide +kernel) ?_
      refine go_callV1 (K' := kX3_signAt) [_] dX3_readInto_6 mX3_19 lX3_signAt rfl (by decide) rfl (by decide) rfl rfl (Nat.le_of_ble_eq_true rfl) (Nat.le_of_ble_eq_true rfl) (cs) ?_
      refine go_bipush (nI 68) dX3_readInto_9 (by decide +kernel) ?_
      refine go_icmp_eq 16 dX3_readInto_11 (by decide) (fun h => absurd h (fun q => h0 ⟨hl, (nI_eq (by omega) (by omega)).mp q⟩)) (fun h11 => ?_)
      refine go_iconst (nI 0) dX3_readInto_14 (by decide +kernel) ?_
      exact go_iret dX3_readInto_15 rfl rfl rfl
    · rw [if_neg hl] at cs
      refine go_aload_n dX3_readInto_0 rfl ?_
      refine go_callV0 (K' := kX1_clear) [] dX3_readInto_1 mX3_23 lX1_clear rfl (by decide) rfl (by decide) rfl rfl (Nat.le_of_ble_eq_true rfl) (Nat.le_of_ble_eq_true rfl) (cc) ?_
      refine go_aload_n dX3_readInto_4 rfl ?_
      refine go_iconst (nI 0) dX3_readInto_5 (by decide +kernel) ?_
      refine go_callV1 (K' := kX3_signAt) [_] dX3_readInto_6 mX3_19 lX3_signAt rfl (by decide) rfl (by decide) rfl rfl (Nat.le_of_ble_eq_true rfl) (Nat.le_of_ble_eq_true rfl) (cs) ?_
      refine go_bipush (nI 68) dX3_readInto_9 (by decide +kernel) ?_
      refine go_icmp_eq 16 dX3_readInto_11 (by decide) (fun h => absurd h (by decide +kernel)) (fun h11 => ?_)
      refine go_iconst (nI 0) dX3_readInto_14 (by decide +kernel) ?_
      exact go_iret dX3_readInto_15 rfl rfl rfl
