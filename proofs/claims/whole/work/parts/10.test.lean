def tF (w : Nat → Int32) (at_ : Int32) (h : Nat) : Nat → Int32
  | 0 => nI 0
  | p + 1 => tF w at_ h p ||| (if w (6 * p + h) = at_ then nI 1 <<< (nI p &&& 31) else nI 0)
theorem c_those {O : gOm} {d : Nat} {m : gMem} {P h : Nat} {at_ : Int32} (hP : m.1 46 4 = nI P) (hP6 : P ≤ 6) (hh : h < 6) : Ca O d kX7_those [.ref 46, .int at_, .int (nI h)] (some (.int (tF (m.1 48) at_ h P))) m m := by
  have key : ∀ n p, p + n = P → Go O d kX7_those (some (.int (tF (m.1 48) at_ h P))) m 5 [.ref 46, .int at_, .int (nI h), .int (tF (m.1 48) at_ h p), .int (nI p)] [] m := by
    intro n
    induction n with
    | zero =>
      intro p hp
      refine go_iload dX7_those_5 rfl ?_
      refine go_aload_n dX7_those_7 rfl ?_
      refine go_geti dX7_those_8 fX7_81 rfl (by decide) (by decide) (by decide) rfl hP ?_
      refine go_icmp_ge 47 dX7_those_11 (by decide) (fun h11 => ?_) (fun h => absurd (nI_le (by omega) (by omega)) h)
      refine go_iload_n dX7_those_47 rfl ?_
      exact go_iret dX7_those_48 rfl (by rw [show p = P by omega]) rfl
    | succ n ih =>
      intro p hp
      refine go_iload dX7_those_5 rfl ?_
      refine go_aload_n dX7_those_7 rfl ?_
      refine go_geti dX7_those_8 fX7_81 rfl (by decide) (by decide) (by decide) rfl hP ?_
      refine go_icmp_ge 47 dX7_those_11 (by decide) (fun h => absurd h (nI_ge (by omega) (by omega))) (fun h11 => ?_)
      refine go_iload_n dX7_those_14 rfl ?_
      refine go_aload_n dX7_those_15 rfl ?_
      refine go_getc dX7_those_16 fX7_13 rfl (by decide) (by decide) (by decide) rfl ?_
      refine go_bipush (nI 6) dX7_those_19 (by decide +kernel) ?_
      refine go_iload dX7_those_21 rfl ?_
      first | refine go_imul_n dX7_those_23 ?_ | refine go_imul dX7_those_23 rfl ?_
      refine go_iload_n dX7_those_24 rfl ?_
      first | refine go_iadd_n dX7_those_25 ?_ | refine go_iadd dX7_those_25 rfl ?_
      refine go_iald dX7_those_26 rfl (by decide) rfl (by omega) (by decide) rfl ?_
      refine go_iload_n dX7_those_27 rfl ?_
      refine go_icmp_ne 38 dX7_those_28 (by decide) (fun h28 => ?_) (fun h28 => ?_)
      · have e : tF (m.1 48) at_ h (p + 1) = tF (m.1 48) at_ h p ||| nI 0 := by rw [tF, if_neg h28]
        refine go_iconst (nI 0) dX7_those_38 (by decide +kernel) ?_
        refine go_ior dX7_those_39 e.symm ?_
        refine go_istore_n (L' := [_, _, _, _, _]) dX7_those_40 (by decide) rfl ?_
        refine go_iinc_n (L' := [_, _, _, _, _]) dX7_those_41 rfl (by decide) rfl ?_
        refine go_goto 5 dX7_those_44 (by decide) ?_
        exact ih (p + 1) (by omega)
      · have e : tF (m.1 48) at_ h (p + 1) = tF (m.1 48) at_ h p ||| (nI 1 <<< (nI p &&& 31)) := by rw [tF, if_pos h28]
        refine go_iconst (nI 1) dX7_those_31 (by decide +kernel) ?_
        refine go_iload dX7_those_32 rfl ?_
        refine go_ishl dX7_those_34 rfl ?_
        refine go_goto 39 dX7_those_35 (by decide) ?_
        refine go_ior dX7_those_39 e.symm ?_
        refine go_istore_n (L' := [_, _, _, _, _]) dX7_those_40 (by decide) rfl ?_
        refine go_iinc_n (L' := [_, _, _, _, _]) dX7_those_41 rfl (by decide) rfl ?_
        refine go_goto 5 dX7_those_44 (by decide) ?_
        exact ih (p + 1) (by omega)
  show Go O d kX7_those _ m 0 [.ref 46, .int at_, .int (nI h), .null, .null] [] m
  refine go_iconst (nI 0) dX7_those_0 (by decide +kernel) ?_
  refine go_istore_n (L' := [_, _, _, _, _]) dX7_those_1 (by decide) rfl ?_
  refine go_iconst (nI 0) dX7_those_2 (by decide +kernel) ?_
  refine go_istore (L' := [_, _, _, _, _]) dX7_those_3 (by decide) rfl ?_
  exact key P 0 (by omega)
