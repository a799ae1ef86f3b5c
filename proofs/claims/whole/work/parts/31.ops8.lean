/-- a byte of v, by the class's shift and by the reference's -/
def wbX (v : Int64) (i : Nat) : Int32 := (v.toUInt64 >>> ((nI (8 * i)).toInt64.toUInt64 &&& Int64.toUInt64 63)).toInt64.toInt32
def wb (v : Int64) (i : Nat) : Nat := (wbX v i).toBitVec.toNat % 2 ^ 8
theorem wb_lt (v : Int64) (i : Nat) : wb v i < 256 := Nat.mod_lt _ (by decide)
theorem wb_x (v : Int64) (i : Nat) : wbX v i &&& nI 255 = nI (wb v i) := pk_and _ 8 (by decide +kernel)
theorem wb_d : ∀ i, i < 8 → (((nI (8 * i)).toInt64 &&& 63).toBitVec.smod 64).toNat = 8 * i := by decide +kernel
theorem wb_e : ∀ i, i < 8 → (((nI (8 * i)).toInt64.toUInt64 &&& Int64.toUInt64 63).toBitVec % 64).toNat = 8 * i := by decide +kernel
theorem wb_m : ∀ t, t < 32 → (nI 255).toBitVec.getLsbD t = decide (t < 8) := by decide +kernel
theorem wb_y (v : Int64) {i : Nat} (hi : i < 8) : (v >>> ((nI (8 * i)).toInt64 &&& 63)).toInt32 &&& nI 255 = nI (wb v i) := by
  rw [← wb_x]
  have e1 : (v >>> ((nI (8 * i)).toInt64 &&& 63)).toBitVec = v.toBitVec.sshiftRight (8 * i) := by
    have hD := wb_d i hi
    generalize (nI (8 * i)).toInt64 &&& 63 = D at hD ⊢
    show v.toBitVec.sshiftRight (D.toBitVec.smod 64).toNat = _
    rw [hD]
  have e2 : (v.toUInt64 >>> ((nI (8 * i)).toInt64.toUInt64 &&& Int64.toUInt64 63)).toInt64.toBitVec = v.toBitVec >>> (8 * i) := by
    have hE := wb_e i hi
    generalize (nI (8 * i)).toInt64.toUInt64 &&& Int64.toUInt64 63 = E at hE ⊢
    show (v.toUInt64 >>> E).toBitVec = _
    rw [UInt64.toBitVec_shiftRight]
    show v.toBitVec >>> (E.toBitVec % 64).toNat = _
    rw [hE]
  apply Int32.toBitVec_inj.1
  show (v >>> ((nI (8 * i)).toInt64 &&& 63)).toBitVec.signExtend 32 &&& (nI 255).toBitVec = (v.toUInt64 >>> ((nI (8 * i)).toInt64.toUInt64 &&& Int64.toUInt64 63)).toInt64.toBitVec.signExtend 32 &&& (nI 255).toBitVec
  rw [e1, e2]
  apply BitVec.eq_of_getLsbD_eq
  intro t ht
  rw [BitVec.getLsbD_and, BitVec.getLsbD_and, wb_m t ht]
  by_cases h8 : t < 8
  · have a1 : t < 64 := by omega
    have a2 : 8 * i + t < 64 := by omega
    rw [BitVec.getLsbD_signExtend, BitVec.getLsbD_signExtend, BitVec.getLsbD_sshiftRight, BitVec.getLsbD_ushiftRight, if_pos a1, if_pos a1, if_pos a2]
    have a3 : decide (64 ≤ t) = false := decide_eq_false (by omega)
    rw [a3]
    rfl
  · simp [h8]
/-- t of j bytes written behind L, into the cell c; how many stand at lc, li -/
def wrM (c lc li : Nat) (m : gMem) (v : Int64) (L j : Nat) : Nat → gMem
  | 0 => m
  | t + 1 => gup (gup (wrM c lc li m v L j t) c (L + t) (nI (wb v (j - 1 - t)))) lc li (nI (L + t + 1))
theorem wrM_l {c lc li : Nat} {m : gMem} {v : Int64} {L j : Nat} (h : m.1 lc li = nI L) : ∀ t, (wrM c lc li m v L j t).1 lc li = nI (L + t)
  | 0 => h
  | t + 1 => gup_s _ _ _ _
theorem wrM_o {c lc li k : Nat} {m : gMem} {v : Int64} {L j : Nat} (h1 : k ≠ c) (h2 : k ≠ lc) : ∀ t, (wrM c lc li m v L j t).1 k = m.1 k
  | 0 => rfl
  | t + 1 => by rw [wrM, gup_k _ _ h2, gup_k _ _ h1, wrM_o h1 h2 t]
theorem wrM_f {c lc li i : Nat} {m : gMem} {v : Int64} {L j : Nat} (hc : lc ≠ c) (h : i ≠ li) : ∀ t, (wrM c lc li m v L j t).1 lc i = m.1 lc i
  | 0 => rfl
  | t + 1 => by rw [wrM, gup_i _ _ h, gup_k _ _ hc, wrM_f hc h t]
theorem wrM_2 {c lc li : Nat} {m : gMem} {v : Int64} {L j : Nat} : ∀ t, (wrM c lc li m v L j t).2 = m.2
  | 0 => rfl
  | t + 1 => wrM_2 t
theorem wrM_at {c lc li : Nat} {m : gMem} {v : Int64} {L j : Nat} (hc : c ≠ lc) (i : Nat) : ∀ t, (wrM c lc li m v L j t).1 c i = if L ≤ i ∧ i < L + t then nI (wb v (j - 1 - (i - L))) else m.1 c i
  | 0 => by
    rw [if_neg (by omega)]
    rfl
  | t + 1 => by
    rw [wrM, gup_k _ _ hc, gup_if, wrM_at hc i t]
    by_cases h : i = L + t
    · rw [if_pos h, if_pos (by omega), show i - L = t by omega]
    · rw [if_neg h]
      by_cases h2 : L ≤ i ∧ i < L + t
      · rw [if_pos h2, if_pos (by omega)]
      · rw [if_neg h2, if_neg (by omega)]
theorem nI_m1lt (y : Nat) : nI 0 + Int32.ofInt (-1) < 0 := by decide +kernel
theorem c_appendT {O : gOm} {d : Nat} {m : gMem} {l : Nat} {x : Int32} (hl : m.1 1 1 = nI l) (hl7 : l < 72) : Ca O d kX3_append [.ref 1, .int x] none m (gup (gup m 2 l x) 1 1 (nI (l + 1))) := by
  show Go O d kX3_append none _ 0 [.ref 1, .int x] [] m
  refine go_aload_n dX3_append_0 rfl ?_
  refine go_geti dX3_append_1 fX3_15 rfl (by decide) (by decide) (by decide) rfl hl ?_
  refine go_bipush (nI 72) dX3_append_4 (by decide +kernel) ?_
  refine go_icmp_ge 29 dX3_append_6 (by decide) (fun h => absurd h (nI_ge (by omega) (by omega))) (fun h6 => ?_)
  refine go_aload_n dX3_append_9 rfl ?_
  refine go_getc dX3_append_10 fX3_9 rfl (by decide) (by decide) (by decide) rfl ?_
  refine go_aload_n dX3_append_13 rfl ?_
  refine go_geti dX3_append_14 fX3_15 rfl (by decide) (by decide) (by decide) rfl hl ?_
  refine go_iload_n dX3_append_17 rfl ?_
  refine go_iast dX3_append_18 rfl (by decide) rfl (by omega) (by decide) ?_
  refine go_aload_n dX3_append_19 rfl ?_
  refine go_dup dX3_append_20 rfl ?_
  refine go_geti dX3_append_21 fX3_15 rfl (by decide) (by decide) (by decide) rfl hl ?_
  refine go_iconst (nI 1) dX3_append_24 (by decide +kernel) ?_
  first | refine go_iadd_n dX3_append_25 ?_ | refine go_iadd dX3_append_25 rfl ?_
  refine go_puti dX3_append_26 fX3_15 rfl (by decide) (by decide) (by decide) rfl (fun _ _ _ h => by cases h; rfl) (Or.inl rfl) ?_
  exact go_vret dX3_append_29 rfl rfl rfl
theorem op_write {O : gOm} {d : Nat} {m : gMem} {n : Int32} {v : Int64} (h0 : Inv m) : OpOk O (d + 4) kX6_write kX7_write [.int n, .long v] m := by
  have hthr := h0.thr
  obtain ⟨P, N, lw, hr, a, c, L, lim, h1, h2, h3, h4, h5, h6, h7, h8⟩ := h0
  obtain ⟨x1, x2, x3, x4⟩ := id h8
  have d1 : ((1 : Int64) ≤ n.toInt64) ↔ 1 ≤ n.toInt := by
    rw [Int64.le_iff_toInt_le, Int32.toInt_toInt64]
    rfl
  have d8 : (n.toInt64 ≤ (8 : Int64)) ↔ n.toInt ≤ 8 := by
    rw [Int64.le_iff_toInt_le, Int32.toInt_toInt64]
    rfl
  have b1 : n < nI 1 ↔ n.toInt < 1 := by
    rw [Int32.lt_iff_toInt_lt, nI_toInt (by omega)]
    rfl
  have b8 : n ≤ nI 8 ↔ n.toInt ≤ 8 := by
    rw [Int32.le_iff_toInt_le, nI_toInt (by omega)]
    rfl
  by_cases hv : 1 ≤ n.toInt ∧ n.toInt ≤ 8
  · obtain ⟨j, hj, rfl⟩ : ∃ j, j < 8 ∧ n = nI (j + 1) := by
      refine ⟨n.toInt.toNat - 1, by omega, ?_⟩
      apply Int32.toInt_inj.mp
      rw [nI_toInt (by omega)]
      omega
    rcases Nat.lt_or_ge 72 (L + (j + 1)) with z | z
    · refine ⟨(-4), m, gup m 46 0 (nI 0), ?_, ?_, hthr⟩
      · show Go O (d + 4) kX6_write _ _ 0 [.ref 0, .int (nI (j + 1)), .long v, .null, .null] [] m
        refine go_iload_n dX6_write_0 rfl ?_
        refine go_iconst (nI 1) dX6_write_1 (by decide +kernel) ?_
        refine go_icmp_lt 11 dX6_write_2 (by decide) (fun h => absurd h (fun q => absurd (b1.mp q) (by omega))) (fun h2 => ?_)
        refine go_iload_n dX6_write_5 rfl ?_
        refine go_bipush (nI 8) dX6_write_6 (by decide +kernel) ?_
        refine go_icmp_le 14 dX6_write_8 (by decide) (fun h8 => ?_) (fun h => absurd (b8.mpr hv.2) h)
        refine go_aload_n dX6_write_14 rfl ?_
        refine go_getc dX6_write_15 fX6_12 rfl (by decide) (by decide) (by decide) rfl ?_
        refine go_geti dX6_write_18 fX6_63 rfl (by decide) (by decide) (by decide) rfl x2 ?_
        refine go_iload_n dX6_write_21 rfl ?_
        first | refine go_iadd_n dX6_write_22 ?_ | refine go_iadd dX6_write_22 rfl ?_
        refine go_bipush (nI 72) dX6_write_23 (by decide +kernel) ?_
        refine go_icmp_le 31 dX6_write_25 (by decide) (fun h => absurd h (nI_ge z (by omega))) (fun h25 => ?_)
        refine go_bipush (-4) dX6_write_28 (by decide +kernel) ?_
        exact go_iret dX6_write_30 rfl rfl rfl
      · show Go O (d + 4) kX7_write _ _ 0 [.ref 46, .int (nI (j + 1)), .long v, .null, .null] [] m
        refine go_aload_n dX7_write_0 rfl ?_
        refine go_iconst (nI 0) dX7_write_1 (by decide +kernel) ?_
        refine go_puti dX7_write_2 fX7_77 rfl (by decide) (by decide) (by decide) rfl (fun _ _ _ h => by cases h; rfl) (Or.inl rfl) ?_
        refine go_iload_n dX7_write_5 rfl ?_
        refine go_i2l dX7_write_6 rfl ?_
        refine go_lconst 1 dX7_write_7 (by decide +kernel) ?_
        refine go_ldc2 kcX7_91 dX7_write_8 ?_
        refine go_callS1 (K' := kX7_in) [_, _, _] dX7_write_11 mX7_84 lX7_in rfl rfl (Nat.le_of_ble_eq_true rfl) (Nat.le_of_ble_eq_true rfl) (c_in) ?_
        refine go_if_ne 20 dX7_write_14 (by decide) (fun h14 => ?_) (fun h => absurd h (bI_n0.mpr (by rw [decide_eq_true (d1.mpr hv.1), decide_eq_true (d8.mpr hv.2)]; rfl)))
        refine go_aload_n dX7_write_20 rfl ?_
        refine go_geti dX7_write_21 fX7_93 rfl (by decide) (by decide) (by decide) rfl x3 ?_
        refine go_iload_n dX7_write_24 rfl ?_
        first | refine go_iadd_n dX7_write_25 ?_ | refine go_iadd dX7_write_25 rfl ?_
        refine go_bipush (nI 72) dX7_write_26 (by decide +kernel) ?_
        refine go_icmp_le 34 dX7_write_28 (by decide) (fun h => absurd h (nI_ge z (by omega))) (fun h28 => ?_)
        refine go_bipush (-4) dX7_write_31 (by decide +kernel) ?_
        exact go_iret dX7_write_33 rfl rfl rfl
    · have e46 : ∀ i, (wrM 2 1 1 m v L (j + 1) (j + 1)).1 46 i = m.1 46 i := fun i => congrFun (wrM_o (by decide) (by decide) _) i
      have x3' : (gup (wrM 2 1 1 m v L (j + 1) (j + 1)) 46 0 (nI 0)).1 46 2 = nI L := (e46 2).trans x3
      refine ⟨(nI (L + (j + 1))), (wrM 2 1 1 m v L (j + 1) (j + 1)), (wrM 47 46 2 (gup (wrM 2 1 1 m v L (j + 1) (j + 1)) 46 0 (nI 0)) v L (j + 1) (j + 1)), ?_, ?_, ?_⟩
      · have key : ∀ y t, t + y = j + 1 → Go O (d + 4) kX6_write (some (.int (nI (L + (j + 1))))) (wrM 2 1 1 m v L (j + 1) (j + 1)) 36 [.ref 0, .int (nI (j + 1)), .long v, .null, .int (nI y + Int32.ofInt (-1))] [] (wrM 2 1 1 m v L (j + 1) t) := by
          intro y
          induction y with
          | zero =>
            intro t ht
            obtain rfl : t = j + 1 := by omega
            refine go_iload dX6_write_36 rfl ?_
            refine go_if_lt 66 dX6_write_38 (by decide) (fun h38 => ?_) (fun h => absurd (nI_m1lt 0) h)
            refine go_aload_n dX6_write_66 rfl ?_
            refine go_getc dX6_write_67 fX6_12 rfl (by decide) (by decide) (by decide) rfl ?_
            refine go_geti dX6_write_70 fX6_63 rfl (by decide) (by decide) (by decide) rfl (wrM_l x2 (j + 1)) ?_
            exact go_iret dX6_write_73 rfl rfl rfl
          | succ y ih =>
            intro t ht
            rw [nI_dec]
            have ey : y = j + 1 - 1 - t := by omega
            have ev : wbX v y &&& nI 255 = nI (wb v (j + 1 - 1 - t)) := by rw [wb_x, ey]
            refine go_iload dX6_write_36 rfl ?_
            refine go_if_lt 66 dX6_write_38 (by decide) (fun h => absurd h (nI_pos (by omega))) (fun h38 => ?_)
            refine go_aload_n dX6_write_41 rfl ?_
            refine go_getc dX6_write_42 fX6_12 rfl (by decide) (by decide) (by decide) rfl ?_
            refine go_lload_n dX6_write_45 rfl ?_
            refine go_bipush (nI 8) dX6_write_46 (by decide +kernel) ?_
            refine go_iload dX6_write_48 rfl ?_
            first | refine go_imul_n dX6_write_50 ?_ | refine go_imul dX6_write_50 rfl ?_
            refine go_lushr dX6_write_51 rfl ?_
            refine go_l2i dX6_write_52 rfl ?_
            refine go_sipush (nI 255) dX6_write_53 (by decide +kernel) ?_
            refine go_iand dX6_write_56 ev ?_
            refine go_callV0 (K' := kX3_append) [_] dX6_write_57 mX6_67 lX3_append rfl (by decide) rfl (by decide) rfl rfl (Nat.le_of_ble_eq_true rfl) (Nat.le_of_ble_eq_true rfl) (c_appendT (wrM_l x2 t) (by omega)) ?_
            refine go_iinc (L' := [_, _, _, _, _]) dX6_write_60 rfl (by decide) rfl rfl ?_
            refine go_goto 36 dX6_write_63 (by decide) ?_
            exact ih (t + 1) (by omega)
        have k0 := key (j + 1) 0 (by omega)
        rw [nI_dec] at k0
        show Go O (d + 4) kX6_write _ _ 0 [.ref 0, .int (nI (j + 1)), .long v, .null, .null] [] m
        refine go_iload_n dX6_write_0 rfl ?_
        refine go_iconst (nI 1) dX6_write_1 (by decide +kernel) ?_
        refine go_icmp_lt 11 dX6_write_2 (by decide) (fun h => absurd h (fun q => absurd (b1.mp q) (by omega))) (fun h2 => ?_)
        refine go_iload_n dX6_write_5 rfl ?_
        refine go_bipush (nI 8) dX6_write_6 (by decide +kernel) ?_
        refine go_icmp_le 14 dX6_write_8 (by decide) (fun h8 => ?_) (fun h => absurd (b8.mpr hv.2) h)
        refine go_aload_n dX6_write_14 rfl ?_
        refine go_getc dX6_write_15 fX6_12 rfl (by decide) (by decide) (by decide) rfl ?_
        refine go_geti dX6_write_18 fX6_63 rfl (by decide) (by decide) (by decide) rfl x2 ?_
        refine go_iload_n dX6_write_21 rfl ?_
        first | refine go_iadd_n dX6_write_22 ?_ | refine go_iadd dX6_write_22 rfl ?_
        refine go_bipush (nI 72) dX6_write_23 (by decide +kernel) ?_
        refine go_icmp_le 31 dX6_write_25 (by decide) (fun h25 => ?_) (fun h => absurd (nI_le z (by omega)) h)
        refine go_iload_n dX6_write_31 rfl ?_
        refine go_iconst (nI 1) dX6_write_32 (by decide +kernel) ?_
        refine go_isub dX6_write_33 (show nI (j + 1) - nI 1 = nI j from nI_pred j) ?_
        refine go_istore (L' := [_, _, _, _, _]) dX6_write_34 (by decide) rfl ?_
        exact k0
      · have key : ∀ y t, t + y = j + 1 → Go O (d + 4) kX7_write (some (.int (nI (L + (j + 1))))) (wrM 47 46 2 (gup (wrM 2 1 1 m v L (j + 1) (j + 1)) 46 0 (nI 0)) v L (j + 1) (j + 1)) 39 [.ref 46, .int (nI (j + 1)), .long v, .null, .int (nI y + Int32.ofInt (-1))] [] (wrM 47 46 2 (gup (wrM 2 1 1 m v L (j + 1) (j + 1)) 46 0 (nI 0)) v L (j + 1) t) := by
          intro y
          induction y with
          | zero =>
            intro t ht
            obtain rfl : t = j + 1 := by omega
            refine go_iload dX7_write_39 rfl ?_
            refine go_if_lt 81 dX7_write_41 (by decide) (fun h41 => ?_) (fun h => absurd (nI_m1lt 0) h)
            refine go_aload_n dX7_write_81 rfl ?_
            refine go_geti dX7_write_82 fX7_93 rfl (by decide) (by decide) (by decide) rfl (wrM_l x3' (j + 1)) ?_
            exact go_iret dX7_write_85 rfl rfl rfl
          | succ y ih =>
            intro t ht
            rw [nI_dec]
            have ey : y = j + 1 - 1 - t := by omega
            have ev : (v >>> ((nI (8 * y)).toInt64 &&& 63)).toInt32 &&& nI 255 = nI (wb v (j + 1 - 1 - t)) := by rw [wb_y v (by omega), ey]
            refine go_iload dX7_write_39 rfl ?_
            refine go_if_lt 81 dX7_write_41 (by decide) (fun h => absurd h (nI_pos (by omega))) (fun h41 => ?_)
            refine go_aload_n dX7_write_44 rfl ?_
            refine go_getc dX7_write_45 fX7_7 rfl (by decide) (by decide) (by decide) rfl ?_
            refine go_aload_n dX7_write_48 rfl ?_
            refine go_geti dX7_write_49 fX7_93 rfl (by decide) (by decide) (by decide) rfl (wrM_l x3' t) ?_
            refine go_lload_n dX7_write_52 rfl ?_
            refine go_bipush (nI 8) dX7_write_53 (by decide +kernel) ?_
            refine go_iload dX7_write_55 rfl ?_
            first | refine go_imul_n dX7_write_57 ?_ | refine go_imul dX7_write_57 rfl ?_
            refine go_lshr dX7_write_58 rfl ?_
            refine go_l2i dX7_write_59 rfl ?_
            refine go_sipush (nI 255) dX7_write_60 (by decide +kernel) ?_
            refine go_iand dX7_write_63 ev ?_
            refine go_iast dX7_write_64 rfl (by decide) rfl (by omega) (by decide) ?_
            refine go_aload_n dX7_write_65 rfl ?_
            refine go_dup dX7_write_66 rfl ?_
            refine go_geti dX7_write_67 fX7_93 rfl (by decide) (by decide) (by decide) rfl (wrM_l x3' t) ?_
            refine go_iconst (nI 1) dX7_write_70 (by decide +kernel) ?_
            first | refine go_iadd_n dX7_write_71 ?_ | refine go_iadd dX7_write_71 rfl ?_
            refine go_puti dX7_write_72 fX7_93 rfl (by decide) (by decide) (by decide) rfl (fun _ _ _ h => by cases h; rfl) (Or.inl rfl) ?_
            refine go_iinc (L' := [_, _, _, _, _]) dX7_write_75 rfl (by decide) rfl rfl ?_
            refine go_goto 39 dX7_write_78 (by decide) ?_
            exact ih (t + 1) (by omega)
        have k0 := key (j + 1) 0 (by omega)
        rw [nI_dec] at k0
        show Go O (d + 4) kX7_write _ _ 0 [.ref 46, .int (nI (j + 1)), .long v, .null, .null] [] (wrM 2 1 1 m v L (j + 1) (j + 1))
        refine go_aload_n dX7_write_0 rfl ?_
        refine go_iconst (nI 0) dX7_write_1 (by decide +kernel) ?_
        refine go_puti dX7_write_2 fX7_77 rfl (by decide) (by decide) (by decide) rfl (fun _ _ _ h => by cases h; rfl) (Or.inl rfl) ?_
        refine go_iload_n dX7_write_5 rfl ?_
        refine go_i2l dX7_write_6 rfl ?_
        refine go_lconst 1 dX7_write_7 (by decide +kernel) ?_
        refine go_ldc2 kcX7_91 dX7_write_8 ?_
        refine go_callS1 (K' := kX7_in) [_, _, _] dX7_write_11 mX7_84 lX7_in rfl rfl (Nat.le_of_ble_eq_true rfl) (Nat.le_of_ble_eq_true rfl) (c_in) ?_
        refine go_if_ne 20 dX7_write_14 (by decide) (fun h14 => ?_) (fun h => absurd h (bI_n0.mpr (by rw [decide_eq_true (d1.mpr hv.1), decide_eq_true (d8.mpr hv.2)]; rfl)))
        refine go_aload_n dX7_write_20 rfl ?_
        refine go_geti dX7_write_21 fX7_93 rfl (by decide) (by decide) (by decide) rfl x3' ?_
        refine go_iload_n dX7_write_24 rfl ?_
        first | refine go_iadd_n dX7_write_25 ?_ | refine go_iadd dX7_write_25 rfl ?_
        refine go_bipush (nI 72) dX7_write_26 (by decide +kernel) ?_
        refine go_icmp_le 34 dX7_write_28 (by decide) (fun h28 => ?_) (fun h => absurd (nI_le z (by omega)) h)
        refine go_iload_n dX7_write_34 rfl ?_
        refine go_iconst (nI 1) dX7_write_35 (by decide +kernel) ?_
        refine go_isub dX7_write_36 (show nI (j + 1) - nI 1 = nI j from nI_pred j) ?_
        refine go_istore (L' := [_, _, _, _, _]) dX7_write_37 (by decide) rfl ?_
        exact k0
      · have nk : ∀ k, k ≠ 1 → k ≠ 2 → k ≠ 46 → k ≠ 47 → (wrM 47 46 2 (gup (wrM 2 1 1 m v L (j + 1) (j + 1)) 46 0 (nI 0)) v L (j + 1) (j + 1)).1 k = m.1 k := by
          intro k z1 z2 z3 z4
          rw [wrM_o z4 z3, gup_k _ _ z3, wrM_o z2 z1]
        have nf : ∀ i, i ≠ 0 → i ≠ 2 → (wrM 47 46 2 (gup (wrM 2 1 1 m v L (j + 1) (j + 1)) 46 0 (nI 0)) v L (j + 1) (j + 1)).1 46 i = m.1 46 i := by
          intro i z1 z2
          rw [wrM_f (by decide) z2, gup_i _ _ z1]
          exact e46 i
        have n : ∀ k, (decide (k ≠ 1 ∧ k ≠ 2 ∧ k ≠ 46 ∧ k ≠ 47) = true) → (wrM 47 46 2 (gup (wrM 2 1 1 m v L (j + 1) (j + 1)) 46 0 (nI 0)) v L (j + 1) (j + 1)).1 k = m.1 k := fun k hk => by
          obtain ⟨z1, z2, z3, z4⟩ := of_decide_eq_true hk
          exact nk k z1 z2 z3 z4
        have e2 : (wrM 47 46 2 (gup (wrM 2 1 1 m v L (j + 1) (j + 1)) 46 0 (nI 0)) v L (j + 1) (j + 1)).2 = m.2 := by rw [wrM_2]; exact wrM_2 _
        obtain ⟨g1, g3⟩ := h3.all (m' := (wrM 47 46 2 (gup (wrM 2 1 1 m v L (j + 1) (j + 1)) 46 0 (nI 0)) v L (j + 1) (j + 1))) h1 e2 (fun k z1 z2 => nk k (by omega) (by omega) (by omega) (by omega)) (n 48 rfl) (n 49 rfl) (n 50 rfl) (n 51 rfl)
        refine ⟨P, N, lw, hr, a, c, L + (j + 1), lim, g1, h2.kept (nf 4 (by decide) (by decide)) (nf 5 (by decide) (by decide)) (nf 6 (by decide) (by decide)) (n 48 rfl) (n 49 rfl) (n 51 rfl), g3, h4.kept (congrFun (n 3 rfl) 4) (n 4 rfl) (n 5 rfl) (n 6 rfl) (n 7 rfl) (nf 11 (by decide) (by decide)) (n 52 rfl), h5.kept (congrFun (n 24 rfl) 1) (n 25 rfl) (nf 21 (by decide) (by decide)) (n 48 rfl) (n 52 rfl) (n 57 rfl), h6.kept (n 14 rfl) (n 15 rfl) (n 16 rfl) (n 17 rfl) (n 18 rfl) (n 19 rfl) (n 20 rfl) (n 21 rfl) (n 22 rfl) (n 23 rfl) (n 58 rfl) (n 59 rfl), h7.kept (congrFun (n 26 rfl) 2) (n 27 rfl) (n 28 rfl) (nf 25 (by decide) (by decide)) (n 61 rfl) (n 62 rfl) (n 63 rfl), by omega, ?_, wrM_l x3' (j + 1), fun i hi => ?_⟩
        · rw [wrM_o (by decide) (by decide), gup_k _ _ (by decide)]
          exact wrM_l x2 (j + 1)
        · rw [wrM_o (k := 2) (by decide) (by decide), gup_k _ _ (by decide), wrM_at (by decide) i, wrM_at (by decide) i, gup_k _ _ (by decide), wrM_o (k := 47) (by decide) (by decide)]
          by_cases hz : L ≤ i ∧ i < L + (j + 1)
          · rw [if_pos hz, if_pos hz]
            exact ⟨_, wb_lt v _, rfl, rfl⟩
          · rw [if_neg hz, if_neg hz]
            exact x4 i (by omega)
  · refine ⟨(-2), m, gup m 46 0 (nI 0), ?_, ?_, hthr⟩
    · show Go O (d + 4) kX6_write _ _ 0 [.ref 0, .int n, .long v, .null, .null] [] m
      refine go_iload_n dX6_write_0 rfl ?_
      refine go_iconst (nI 1) dX6_write_1 (by decide +kernel) ?_
      refine go_icmp_lt 11 dX6_write_2 (by decide) (fun h2 => ?_) (fun h2 => ?_)
      · refine go_bipush (-2) dX6_write_11 (by decide +kernel) ?_
        exact go_iret dX6_write_13 rfl rfl rfl
      · have y1 : ¬ n.toInt < 1 := fun w => h2 (b1.mpr w)
        refine go_iload_n dX6_write_5 rfl ?_
        refine go_bipush (nI 8) dX6_write_6 (by decide +kernel) ?_
        refine go_icmp_le 14 dX6_write_8 (by decide) (fun h => absurd h (fun q => hv ⟨by omega, b8.mp q⟩)) (fun h8 => ?_)
        refine go_bipush (-2) dX6_write_11 (by decide +kernel) ?_
        exact go_iret dX6_write_13 rfl rfl rfl
    · show Go O (d + 4) kX7_write _ _ 0 [.ref 46, .int n, .long v, .null, .null] [] m
      refine go_aload_n dX7_write_0 rfl ?_
      refine go_iconst (nI 0) dX7_write_1 (by decide +kernel) ?_
      refine go_puti dX7_write_2 fX7_77 rfl (by decide) (by decide) (by decide) rfl (fun _ _ _ h => by cases h; rfl) (Or.inl rfl) ?_
      refine go_iload_n dX7_write_5 rfl ?_
      refine go_i2l dX7_write_6 rfl ?_
      refine go_lconst 1 dX7_write_7 (by decide +kernel) ?_
      refine go_ldc2 kcX7_91 dX7_write_8 ?_
      refine go_callS1 (K' := kX7_in) [_, _, _] dX7_write_11 mX7_84 lX7_in rfl rfl (Nat.le_of_ble_eq_true rfl) (Nat.le_of_ble_eq_true rfl) (c_in) ?_
      refine go_if_ne 20 dX7_write_14 (by decide) (fun h => absurd h (fun q => q (bI_0.mpr (by rw [Bool.and_eq_false_iff, decide_eq_false_iff_not, decide_eq_false_iff_not, d1, d8]; omega)))) (fun h14 => ?_)
      refine go_bipush (-2) dX7_write_17 (by decide +kernel) ?_
      exact go_iret dX7_write_19 rfl rfl rfl
