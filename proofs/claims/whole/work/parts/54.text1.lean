/-! THE TEXT: as both sides read it -/
/-- a figure at a place -/
def dg (x : Nat → Nat) (L at_ b : Nat) : Option Nat := if at_ < L ∧ 48 ≤ x at_ ∧ x at_ < 48 + b then some (x at_ - 48) else none
theorem dg_s {x : Nat → Nat} {L at_ b v : Nat} (h : dg x L at_ b = some v) : at_ < L ∧ v < b ∧ x at_ = 48 + v := by
  unfold dg at h
  split at h
  · have := Option.some.inj h
    omega
  · cases h
theorem dg_n {x : Nat → Nat} {L at_ b : Nat} (h : dg x L at_ b = none) (hl : at_ < L) : ¬ (48 ≤ x at_ ∧ x at_ < 48 + b) := by
  unfold dg at h
  split at h
  · cases h
  · rename_i z
    exact fun q => z ⟨hl, q⟩
theorem sub_neg {a b : Nat} (h : a < b) (hb : b < 2 ^ 30) : nI a - nI b < 0 := by
  rw [Int32.lt_iff_toInt_lt, nI_subI (by omega) hb]
  show (a : Int) - b < 0
  omega
/-- the text stands in both -/
def TxC (m : gMem) (L : Nat) (x : Nat → Nat) : Prop := L ≤ 72 ∧ m.1 1 1 = nI L ∧ ∀ i, i < L → x i < 256 ∧ m.1 2 i = nI (x i)
def TxM (m : gMem) (L : Nat) (x : Nat → Nat) : Prop := L ≤ 72 ∧ m.1 46 2 = nI L ∧ ∀ i, i < L → x i < 256 ∧ m.1 47 i = nI (x i)
theorem in_fig {c k : Nat} (hc : c < 256) (hk : k < 100) : (decide ((nI 0).toInt64 ≤ (nI c - nI 48).toInt64) && decide ((nI c - nI 48).toInt64 ≤ (nI k).toInt64)) = decide (48 ≤ c ∧ c < 48 + (k + 1)) := by
  rw [Bool.eq_iff_iff]
  simp only [Bool.and_eq_true, decide_eq_true_eq, t64_le, nI_subI (show c < 2 ^ 30 by omega) (show 48 < 2 ^ 30 by omega), nI_toInt (show k < 2 ^ 31 by omega), nI_toInt (show 0 < 2 ^ 31 by omega)]
  omega
theorem in_kn {c P : Nat} (hc : c < 256) (hP : P ≤ 6) : (decide ((0 : Int64) ≤ (nI c - nI 48).toInt64) && decide ((nI c - nI 48).toInt64 ≤ (nI P - nI 1).toInt64)) = decide (48 ≤ c ∧ c < 48 + P) := by
  rw [iR_in _ (by omega), Bool.eq_iff_iff]
  simp only [iR, Bool.and_eq_true, decide_eq_true_eq, nI_subI (show c < 2 ^ 30 by omega) (show 48 < 2 ^ 30 by omega)]
  omega
theorem c_signAt {O : gOm} {d : Nat} {m : gMem} {L at_ : Nat} {x : Nat → Nat} (h : TxC m L x) (ha : at_ < 2 ^ 30) : Ca O d kX3_signAt [.ref 1, .int (nI at_)] (some (.int (if at_ < L then nI (x at_) else -1))) m m := by
  obtain ⟨h1, h2, h3⟩ := h
  show Go O d kX3_signAt _ m 0 [.ref 1, .int (nI at_)] [] m
  by_cases hl : at_ < L
  · rw [if_pos hl]
    refine go_iload_n dX3_signAt_0 rfl ?_
    refine go_if_lt 27 dX3_signAt_1 (by decide) (fun h => absurd h (nI_pos (by omega))) (fun h1 => ?_)
    refine go_iload_n dX3_signAt_4 rfl ?_
    refine go_aload_n dX3_signAt_5 rfl ?_
    refine go_geti dX3_signAt_6 fX3_15 rfl (by decide) (by decide) (by decide) rfl h2 ?_
    refine go_icmp_ge 27 dX3_signAt_9 (by decide) (fun h => absurd h (nI_ge (by omega) (by omega))) (fun h9 => ?_)
    refine go_iload_n dX3_signAt_12 rfl ?_
    refine go_bipush (nI 72) dX3_signAt_13 (by decide +kernel) ?_
    refine go_icmp_ge 27 dX3_signAt_15 (by decide) (fun h => absurd h (nI_ge (by omega) (by omega))) (fun h15 => ?_)
    refine go_aload_n dX3_signAt_18 rfl ?_
    refine go_getc dX3_signAt_19 fX3_9 rfl (by decide) (by decide) (by decide) rfl ?_
    refine go_iload_n dX3_signAt_22 rfl ?_
    refine go_iald dX3_signAt_23 rfl (by decide) rfl (by omega) (by decide) (h3 _ hl).2 ?_
    refine go_goto 28 dX3_signAt_24 (by decide) ?_
    exact go_iret dX3_signAt_28 rfl rfl rfl
  · rw [if_neg hl]
    refine go_iload_n dX3_signAt_0 rfl ?_
    refine go_if_lt 27 dX3_signAt_1 (by decide) (fun h => absurd h (nI_pos (by omega))) (fun h1 => ?_)
    refine go_iload_n dX3_signAt_4 rfl ?_
    refine go_aload_n dX3_signAt_5 rfl ?_
    refine go_geti dX3_signAt_6 fX3_15 rfl (by decide) (by decide) (by decide) rfl h2 ?_
    refine go_icmp_ge 27 dX3_signAt_9 (by decide) (fun h9 => ?_) (fun h => absurd (nI_le (by omega) (by omega)) h)
    refine go_iconst (-1) dX3_signAt_27 (by decide +kernel) ?_
    exact go_iret dX3_signAt_28 rfl rfl rfl
theorem c_figureAt {O : gOm} {d : Nat} {m : gMem} {L at_ b : Nat} {x : Nat → Nat} (h : TxC m L x) (ha : at_ < 2 ^ 30) (hb : b < 100) : Ca O (d + 1) kX3_figureAt [.ref 1, .int (nI at_), .int (nI b)] (some (.int (oI (-1) (dg x L at_ b)))) m m := by
  have cs := c_signAt (O := O) (d := d) h ha
  obtain ⟨h1, h2, h3⟩ := h
  show Go O (d + 1) kX3_figureAt _ m 0 [.ref 1, .int (nI at_), .int (nI b), .null] [] m
  by_cases hl : at_ < L
  · rw [if_pos hl] at cs
    have hx := (h3 _ hl).1
    by_cases h48 : 48 ≤ x at_
    · by_cases hxb : x at_ < 48 + b
      · rw [dg, if_pos ⟨hl, h48, hxb⟩]
        refine go_aload_n dX3_figureAt_0 rfl ?_
        refine go_iload_n dX3_figureAt_1 rfl ?_
        refine go_callV1 (K' := kX3_signAt) [_] dX3_figureAt_2 mX3_19 lX3_signAt rfl (by decide) rfl (by decide) rfl rfl (Nat.le_of_ble_eq_true rfl) (Nat.le_of_ble_eq_true rfl) (cs) ?_
        refine go_bipush (nI 48) dX3_figureAt_5 (by decide +kernel) ?_
        refine go_isub dX3_figureAt_7 (pk_sub h48) ?_
        refine go_istore_n (L' := [_, _, _, _]) dX3_figureAt_8 (by decide) rfl ?_
        refine go_iload_n dX3_figureAt_9 rfl ?_
        refine go_if_lt 22 dX3_figureAt_10 (by decide) (fun h => absurd h (nI_pos (by omega))) (fun h10 => ?_)
        refine go_iload_n dX3_figureAt_13 rfl ?_
        refine go_iload_n dX3_figureAt_14 rfl ?_
        refine go_icmp_ge 22 dX3_figureAt_15 (by decide) (fun h => absurd h (nI_ge (by omega) (by omega))) (fun h15 => ?_)
        refine go_iload_n dX3_figureAt_18 rfl ?_
        refine go_goto 23 dX3_figureAt_19 (by decide) ?_
        exact go_iret dX3_figureAt_23 rfl rfl rfl
      · rw [dg, if_neg (fun q => hxb q.2.2)]
        refine go_aload_n dX3_figureAt_0 rfl ?_
        refine go_iload_n dX3_figureAt_1 rfl ?_
        refine go_callV1 (K' := kX3_signAt) [_] dX3_figureAt_2 mX3_19 lX3_signAt rfl (by decide) rfl (by decide) rfl rfl (Nat.le_of_ble_eq_true rfl) (Nat.le_of_ble_eq_true rfl) (cs) ?_
        refine go_bipush (nI 48) dX3_figureAt_5 (by decide +kernel) ?_
        refine go_isub dX3_figureAt_7 (pk_sub h48) ?_
        refine go_istore_n (L' := [_, _, _, _]) dX3_figureAt_8 (by decide) rfl ?_
        refine go_iload_n dX3_figureAt_9 rfl ?_
        refine go_if_lt 22 dX3_figureAt_10 (by decide) (fun h => absurd h (nI_pos (by omega))) (fun h10 => ?_)
        refine go_iload_n dX3_figureAt_13 rfl ?_
        refine go_iload_n dX3_figureAt_14 rfl ?_
        refine go_icmp_ge 22 dX3_figureAt_15 (by decide) (fun h15 => ?_) (fun h => absurd (nI_le (by omega) (by omega)) h)
        refine go_iconst (-1) dX3_figureAt_22 (by decide +kernel) ?_
        exact go_iret dX3_figureAt_23 rfl rfl rfl
    · rw [dg, if_neg (fun q => h48 q.2.1)]
      refine go_aload_n dX3_figureAt_0 rfl ?_
      refine go_iload_n dX3_figureAt_1 rfl ?_
      refine go_callV1 (K' := kX3_signAt) [_] dX3_figureAt_2 mX3_19 lX3_signAt rfl (by decide) rfl (by decide) rfl rfl (Nat.le_of_ble_eq_true rfl) (Nat.le_of_ble_eq_true rfl) (cs) ?_
      refine go_bipush (nI 48) dX3_figureAt_5 (by decide +kernel) ?_
      refine go_isub dX3_figureAt_7 rfl ?_
      refine go_istore_n (L' := [_, _, _, _]) dX3_figureAt_8 (by decide) rfl ?_
      refine go_iload_n dX3_figureAt_9 rfl ?_
      refine go_if_lt 22 dX3_figureAt_10 (by decide) (fun h10 => ?_) (fun h => absurd (sub_neg (by omega) (by omega)) h)
      refine go_iconst (-1) dX3_figureAt_22 (by decide +kernel) ?_
      exact go_iret dX3_figureAt_23 rfl rfl rfl
  · rw [if_neg hl] at cs
    rw [dg, if_neg (fun q => hl q.1)]
    refine go_aload_n dX3_figureAt_0 rfl ?_
    refine go_iload_n dX3_figureAt_1 rfl ?_
    refine go_callV1 (K' := kX3_signAt) [_] dX3_figureAt_2 mX3_19 lX3_signAt rfl (by decide) rfl (by decide) rfl rfl (Nat.le_of_ble_eq_true rfl) (Nat.le_of_ble_eq_true rfl) (cs) ?_
    refine go_bipush (nI 48) dX3_figureAt_5 (by decide +kernel) ?_
    refine go_isub dX3_figureAt_7 rfl ?_
    refine go_istore_n (L' := [_, _, _, _]) dX3_figureAt_8 (by decide) rfl ?_
    refine go_iload_n dX3_figureAt_9 rfl ?_
    refine go_if_lt 22 dX3_figureAt_10 (by decide) (fun h10 => ?_) (fun h => absurd (by decide +kernel) h)
    refine go_iconst (-1) dX3_figureAt_22 (by decide +kernel) ?_
    exact go_iret dX3_figureAt_23 rfl rfl rfl
theorem m1_sub (a : Nat) : (-1 - (-1 - nI a) : Int32) = nI a := by
  apply Int32.toBitVec_inj.1
  show (-1 : Int32).toBitVec - ((-1 : Int32).toBitVec - (nI a).toBitVec) = (nI a).toBitVec
  generalize (nI a).toBitVec = b
  apply BitVec.eq_of_toNat_eq
  have hb := b.isLt
  have h1 : ((-1 : Int32).toBitVec).toNat = 4294967295 := by decide +kernel
  rw [BitVec.toNat_sub, BitVec.toNat_sub, h1]
  omega
theorem m1_neg {a : Nat} (h : a < 2 ^ 20) : (-1 - nI a : Int32) < 0 := by
  have e : (-1 - nI a : Int32) = nI 0 - nI (a + 1) := by
    rw [← nI_add a 1]
    apply Int32.toBitVec_inj.1
    show (-1 : Int32).toBitVec - (nI a).toBitVec = (nI 0).toBitVec - ((nI a).toBitVec + (nI 1).toBitVec)
    rw [BitVec.add_comm, ← BitVec.sub_sub]
    rfl
  rw [e]
  exact sub_neg (by omega) (by omega)
theorem c_faultAt {O : gOm} {d : Nat} {m : gMem} {v : Int32} : Ca O d kX3_faultAt [.int v] (some (.int (-1 - v))) m m := by
  show Go O d kX3_faultAt _ m 0 [.int v] [] m
  refine go_iconst (-1) dX3_faultAt_0 (by decide +kernel) ?_
  refine go_iload_n dX3_faultAt_1 rfl ?_
  refine go_isub dX3_faultAt_2 rfl ?_
  exact go_iret dX3_faultAt_3 rfl rfl rfl
theorem c_faultOf {O : gOm} {d : Nat} {m : gMem} {v : Int32} : Ca O d kX3_faultOf [.int v] (some (.int (-1 - v))) m m := by
  show Go O d kX3_faultOf _ m 0 [.int v] [] m
  refine go_iconst (-1) dX3_faultOf_0 (by decide +kernel) ?_
  refine go_iload_n dX3_faultOf_1 rfl ?_
  refine go_isub dX3_faultOf_2 rfl ?_
  exact go_iret dX3_faultOf_3 rfl rfl rfl
theorem c_figureM {O : gOm} {d : Nat} {m : gMem} {L at_ k : Nat} {x : Nat → Nat} (h : TxM m L x) (ha : at_ ≤ L) (h3 : m.1 46 3 = nI at_) (hk : k < 99) : Ca O (d + 1) kX7_figure [.ref 46, .int (nI 0), .int (nI k)] (some (.int (oI (-9) (dg x L at_ (k + 1))))) m (match dg x L at_ (k + 1) with | none => m | some _ => gup m 46 3 (nI (at_ + 1))) := by
  obtain ⟨h1, h2, hx⟩ := h
  show Go O (d + 1) kX7_figure _ _ 0 [.ref 46, .int (nI 0), .int (nI k)] [] m
  by_cases hl : at_ < L
  · obtain ⟨b1, b2⟩ := hx at_ hl
    have ei := in_fig (c := x at_) (k := k) b1 (by omega)
    by_cases hd : 48 ≤ x at_ ∧ x at_ < 48 + (k + 1)
    · rw [dg, if_pos ⟨hl, hd⟩]
      rw [decide_eq_true hd] at ei
      refine go_aload_n dX7_figure_0 rfl ?_
      refine go_geti dX7_figure_1 fX7_96 rfl (by decide) (by decide) (by decide) rfl h3 ?_
      refine go_aload_n dX7_figure_4 rfl ?_
      refine go_geti dX7_figure_5 fX7_93 rfl (by decide) (by decide) (by decide) rfl h2 ?_
      refine go_icmp_eq 34 dX7_figure_8 (by decide) (fun h => absurd h (fun q => absurd ((nI_eq (by omega) (by omega)).mp q) (by omega))) (fun h8 => ?_)
      refine go_aload_n dX7_figure_11 rfl ?_
      refine go_getc dX7_figure_12 fX7_7 rfl (by decide) (by decide) (by decide) rfl ?_
      refine go_aload_n dX7_figure_15 rfl ?_
      refine go_geti dX7_figure_16 fX7_96 rfl (by decide) (by decide) (by decide) rfl h3 ?_
      refine go_iald dX7_figure_19 rfl (by decide) rfl (by omega) (by decide) b2 ?_
      refine go_bipush (nI 48) dX7_figure_20 (by decide +kernel) ?_
      refine go_isub dX7_figure_22 rfl ?_
      refine go_i2l dX7_figure_23 rfl ?_
      refine go_iload_n dX7_figure_24 rfl ?_
      refine go_i2l dX7_figure_25 rfl ?_
      refine go_iload_n dX7_figure_26 rfl ?_
      refine go_i2l dX7_figure_27 rfl ?_
      refine go_callS1 (K' := kX7_in) [_, _, _] dX7_figure_28 mX7_84 lX7_in rfl rfl (Nat.le_of_ble_eq_true rfl) (Nat.le_of_ble_eq_true rfl) (c_in) ?_
      refine go_if_ne 37 dX7_figure_31 (by decide) (fun h31 => ?_) (fun h => absurd h (bI_n0.mpr ei))
      refine go_aload_n dX7_figure_37 rfl ?_
      refine go_dup dX7_figure_38 rfl ?_
      refine go_geti dX7_figure_39 fX7_96 rfl (by decide) (by decide) (by decide) rfl h3 ?_
      refine go_iconst (nI 1) dX7_figure_42 (by decide +kernel) ?_
      first | refine go_iadd_n dX7_figure_43 ?_ | refine go_iadd dX7_figure_43 rfl ?_
      refine go_puti dX7_figure_44 fX7_96 rfl (by decide) (by decide) (by decide) rfl (fun _ _ _ h => by cases h; rfl) (Or.inl rfl) ?_
      refine go_aload_n dX7_figure_47 rfl ?_
      refine go_getc dX7_figure_48 fX7_7 rfl (by decide) (by decide) (by decide) rfl ?_
      refine go_aload_n dX7_figure_51 rfl ?_
      refine go_geti dX7_figure_52 fX7_96 rfl (by decide) (by decide) (by decide) rfl (gup_s _ _ _ _) ?_
      refine go_iconst (nI 1) dX7_figure_55 (by decide +kernel) ?_
      refine go_isub dX7_figure_56 (pk_sub (by omega)) ?_
      refine go_iald dX7_figure_57 rfl (by decide) rfl (by omega) (by decide) (show m.1 47 (at_ + 1 - 1) = nI (x at_) from b2) ?_
      refine go_bipush (nI 48) dX7_figure_58 (by decide +kernel) ?_
      refine go_isub dX7_figure_60 (pk_sub hd.1) ?_
      exact go_iret dX7_figure_61 rfl rfl rfl
    · rw [dg, if_neg (fun q => hd q.2)]
      rw [decide_eq_false hd] at ei
      refine go_aload_n dX7_figure_0 rfl ?_
      refine go_geti dX7_figure_1 fX7_96 rfl (by decide) (by decide) (by decide) rfl h3 ?_
      refine go_aload_n dX7_figure_4 rfl ?_
      refine go_geti dX7_figure_5 fX7_93 rfl (by decide) (by decide) (by decide) rfl h2 ?_
      refine go_icmp_eq 34 dX7_figure_8 (by decide) (fun h => absurd h (fun q => absurd ((nI_eq (by omega) (by omega)).mp q) (by omega))) (fun h8 => ?_)
      refine go_aload_n dX7_figure_11 rfl ?_
      refine go_getc dX7_figure_12 fX7_7 rfl (by decide) (by decide) (by decide) rfl ?_
      refine go_aload_n dX7_figure_15 rfl ?_
      refine go_geti dX7_figure_16 fX7_96 rfl (by decide) (by decide) (by decide) rfl h3 ?_
      refine go_iald dX7_figure_19 rfl (by decide) rfl (by omega) (by decide) b2 ?_
      refine go_bipush (nI 48) dX7_figure_20 (by decide +kernel) ?_
      refine go_isub dX7_figure_22 rfl ?_
      refine go_i2l dX7_figure_23 rfl ?_
      refine go_iload_n dX7_figure_24 rfl ?_
      refine go_i2l dX7_figure_25 rfl ?_
      refine go_iload_n dX7_figure_26 rfl ?_
      refine go_i2l dX7_figure_27 rfl ?_
      refine go_callS1 (K' := kX7_in) [_, _, _] dX7_figure_28 mX7_84 lX7_in rfl rfl (Nat.le_of_ble_eq_true rfl) (Nat.le_of_ble_eq_true rfl) (c_in) ?_
      refine go_if_ne 37 dX7_figure_31 (by decide) (fun h => absurd h (fun q => q (bI_0.mpr ei))) (fun h31 => ?_)
      refine go_bipush (-9) dX7_figure_34 (by decide +kernel) ?_
      exact go_iret dX7_figure_36 rfl rfl rfl
  · obtain rfl : at_ = L := by omega
    rw [dg, if_neg (fun q => hl q.1)]
    refine go_aload_n dX7_figure_0 rfl ?_
    refine go_geti dX7_figure_1 fX7_96 rfl (by decide) (by decide) (by decide) rfl h3 ?_
    refine go_aload_n dX7_figure_4 rfl ?_
    refine go_geti dX7_figure_5 fX7_93 rfl (by decide) (by decide) (by decide) rfl h2 ?_
    refine go_icmp_eq 34 dX7_figure_8 (by decide) (fun h8 => ?_) (fun h => absurd (rfl) h)
    refine go_bipush (-9) dX7_figure_34 (by decide +kernel) ?_
    exact go_iret dX7_figure_36 rfl rfl rfl
def clM_29 (m : gMem) : gMem := gup (gup (gup (gupA (gupA (gupA (gupA (gupA m 30 (flP (m.1 30) (-9) 36)) 31 (flP (m.1 31) (nI 0) 18)) 32 (flP (m.1 32) (nI 0) 3)) 33 (flP (m.1 33) (nI 0) 3)) 34 (flP (m.1 34) (nI 0) 3)) 29 5 (nI 0)) 29 6 (nI 0)) 29 7 (nI 0)
theorem c_clear_29 {O : gOm} {d : Nat} {m : gMem} : Ca O (d + 1) kX1_clear [.ref 29] none m (clM_29 m) := by
  show Go O (d + 1) kX1_clear none _ 0 [.ref 29] [] m
  refine go_aload_n dX1_clear_0 rfl ?_
  refine go_getc dX1_clear_1 fX1_9 rfl (by decide) (by decide) (by decide) rfl ?_
  refine go_bipush (-9) dX1_clear_4 (by decide +kernel) ?_
  refine go_callS0 (K' := kJ7_fill_53178) [_, _] dX1_clear_6 mX1_27 lJ7_fill_53178 rfl rfl (Nat.le_of_ble_eq_true rfl) (Nat.le_of_ble_eq_true rfl) (c_fill rfl (by decide) (by decide)) ?_
  refine go_aload_n dX1_clear_9 rfl ?_
  refine go_getc dX1_clear_10 fX1_15 rfl (by decide) (by decide) (by decide) rfl ?_
  refine go_iconst (nI 0) dX1_clear_13 (by decide +kernel) ?_
  refine go_callS0 (K' := kJ7_fill_53178) [_, _] dX1_clear_14 mX1_27 lJ7_fill_53178 rfl rfl (Nat.le_of_ble_eq_true rfl) (Nat.le_of_ble_eq_true rfl) (c_fill rfl (by decide) (by decide)) ?_
  refine go_aload_n dX1_clear_17 rfl ?_
  refine go_getc dX1_clear_18 fX1_18 rfl (by decide) (by decide) (by decide) rfl ?_
  refine go_iconst (nI 0) dX1_clear_21 (by decide +kernel) ?_
  refine go_callS0 (K' := kJ7_fill_53178) [_, _] dX1_clear_22 mX1_27 lJ7_fill_53178 rfl rfl (Nat.le_of_ble_eq_true rfl) (Nat.le_of_ble_eq_true rfl) (c_fill rfl (by decide) (by decide)) ?_
  refine go_aload_n dX1_clear_25 rfl ?_
  refine go_getc dX1_clear_26 fX1_21 rfl (by decide) (by decide) (by decide) rfl ?_
  refine go_iconst (nI 0) dX1_clear_29 (by decide +kernel) ?_
  refine go_callS0 (K' := kJ7_fill_53178) [_, _] dX1_clear_30 mX1_27 lJ7_fill_53178 rfl rfl (Nat.le_of_ble_eq_true rfl) (Nat.le_of_ble_eq_true rfl) (c_fill rfl (by decide) (by decide)) ?_
  refine go_aload_n dX1_clear_33 rfl ?_
  refine go_getc dX1_clear_34 fX1_24 rfl (by decide) (by decide) (by decide) rfl ?_
  refine go_iconst (nI 0) dX1_clear_37 (by decide +kernel) ?_
  refine go_callS0 (K' := kJ7_fill_53178) [_, _] dX1_clear_38 mX1_27 lJ7_fill_53178 rfl rfl (Nat.le_of_ble_eq_true rfl) (Nat.le_of_ble_eq_true rfl) (c_fill rfl (by decide) (by decide)) ?_
  refine go_aload_n dX1_clear_41 rfl ?_
  refine go_iconst (nI 0) dX1_clear_42 (by decide +kernel) ?_
  refine go_puti dX1_clear_43 fX1_33 rfl (by decide) (by decide) (by decide) rfl (fun _ _ _ h => by cases h; rfl) (Or.inl rfl) ?_
  refine go_aload_n dX1_clear_46 rfl ?_
  refine go_iconst (nI 0) dX1_clear_47 (by decide +kernel) ?_
  refine go_puti dX1_clear_48 fX1_37 rfl (by decide) (by decide) (by decide) rfl (fun _ _ _ h => by cases h; rfl) (Or.inl rfl) ?_
  refine go_aload_n dX1_clear_51 rfl ?_
  refine go_iconst (nI 0) dX1_clear_52 (by decide +kernel) ?_
  refine go_puti dX1_clear_53 fX1_40 rfl (by decide) (by decide) (by decide) rfl (fun _ _ _ h => by cases h; rfl) (Or.inl rfl) ?_
  exact go_vret dX1_clear_56 rfl rfl rfl
def ptM_29 (m : gMem) (p h a g : Nat) : gMem := gup (gup m 30 (p * 6 + h) (nI a)) 31 (h * 3 + a) (nI (g ||| 2 ^ p))
theorem c_put_29 {O : gOm} {d : Nat} {m : gMem} {p h a g : Nat} (hp : p < 6) (hh : h < 6) (ha : a < 3) (hg : m.1 31 (h * 3 + a) = nI g) : Ca O d kX1_put [.ref 29, .int (nI p), .int (nI h), .int (nI a)] none m (ptM_29 m p h a g) := by
  show Go O d kX1_put none _ 0 [.ref 29, .int (nI p), .int (nI h), .int (nI a)] [] m
  refine go_aload_n dX1_put_0 rfl ?_
  refine go_getc dX1_put_1 fX1_9 rfl (by decide) (by decide) (by decide) rfl ?_
  refine go_iload_n dX1_put_4 rfl ?_
  refine go_bipush (nI 6) dX1_put_5 (by decide +kernel) ?_
  first | refine go_imul_n dX1_put_7 ?_ | refine go_imul dX1_put_7 rfl ?_
  refine go_iload_n dX1_put_8 rfl ?_
  first | refine go_iadd_n dX1_put_9 ?_ | refine go_iadd dX1_put_9 rfl ?_
  refine go_iload_n dX1_put_10 rfl ?_
  refine go_iast dX1_put_11 rfl (by decide) rfl (by omega) (by decide) ?_
  refine go_aload_n dX1_put_12 rfl ?_
  refine go_getc dX1_put_13 fX1_15 rfl (by decide) (by decide) (by decide) rfl ?_
  refine go_iload_n dX1_put_16 rfl ?_
  refine go_iconst (nI 3) dX1_put_17 (by decide +kernel) ?_
  first | refine go_imul_n dX1_put_18 ?_ | refine go_imul dX1_put_18 rfl ?_
  refine go_iload_n dX1_put_19 rfl ?_
  first | refine go_iadd_n dX1_put_20 ?_ | refine go_iadd dX1_put_20 rfl ?_
  refine go_dup2 dX1_put_21 rfl rfl ?_
  refine go_iald dX1_put_22 rfl (by decide) rfl (by omega) (by decide) hg ?_
  refine go_iconst (nI 1) dX1_put_23 (by decide +kernel) ?_
  refine go_iload_n dX1_put_24 rfl ?_
  refine go_ishl dX1_put_25 (nb_one (by omega)) ?_
  refine go_ior dX1_put_26 (nb_or _ _) ?_
  refine go_iast dX1_put_27 rfl (by decide) rfl (by omega) (by decide) ?_
  exact go_vret dX1_put_28 rfl rfl rfl
def clM_35 (m : gMem) : gMem := gup (gup (gup (gupA (gupA (gupA (gupA (gupA m 36 (flP (m.1 36) (-9) 36)) 37 (flP (m.1 37) (nI 0) 18)) 38 (flP (m.1 38) (nI 0) 3)) 39 (flP (m.1 39) (nI 0) 3)) 40 (flP (m.1 40) (nI 0) 3)) 35 5 (nI 0)) 35 6 (nI 0)) 35 7 (nI 0)
theorem c_clear_35 {O : gOm} {d : Nat} {m : gMem} : Ca O (d + 1) kX1_clear [.ref 35] none m (clM_35 m) := by
  show Go O (d + 1) kX1_clear none _ 0 [.ref 35] [] m
  refine go_aload_n dX1_clear_0 rfl ?_
  refine go_getc dX1_clear_1 fX1_9 rfl (by decide) (by decide) (by decide) rfl ?_
  refine go_bipush (-9) dX1_clear_4 (by decide +kernel) ?_
  refine go_callS0 (K' := kJ7_fill_53178) [_, _] dX1_clear_6 mX1_27 lJ7_fill_53178 rfl rfl (Nat.le_of_ble_eq_true rfl) (Nat.le_of_ble_eq_true rfl) (c_fill rfl (by decide) (by decide)) ?_
  refine go_aload_n dX1_clear_9 rfl ?_
  refine go_getc dX1_clear_10 fX1_15 rfl (by decide) (by decide) (by decide) rfl ?_
  refine go_iconst (nI 0) dX1_clear_13 (by decide +kernel) ?_
  refine go_callS0 (K' := kJ7_fill_53178) [_, _] dX1_clear_14 mX1_27 lJ7_fill_53178 rfl rfl (Nat.le_of_ble_eq_true rfl) (Nat.le_of_ble_eq_true rfl) (c_fill rfl (by decide) (by decide)) ?_
  refine go_aload_n dX1_clear_17 rfl ?_
  refine go_getc dX1_clear_18 fX1_18 rfl (by decide) (by decide) (by decide) rfl ?_
  refine go_iconst (nI 0) dX1_clear_21 (by decide +kernel) ?_
  refine go_callS0 (K' := kJ7_fill_53178) [_, _] dX1_clear_22 mX1_27 lJ7_fill_53178 rfl rfl (Nat.le_of_ble_eq_true rfl) (Nat.le_of_ble_eq_true rfl) (c_fill rfl (by decide) (by decide)) ?_
  refine go_aload_n dX1_clear_25 rfl ?_
  refine go_getc dX1_clear_26 fX1_21 rfl (by decide) (by decide) (by decide) rfl ?_
  refine go_iconst (nI 0) dX1_clear_29 (by decide +kernel) ?_
  refine go_callS0 (K' := kJ7_fill_53178) [_, _] dX1_clear_30 mX1_27 lJ7_fill_53178 rfl rfl (Nat.le_of_ble_eq_true rfl) (Nat.le_of_ble_eq_true rfl) (c_fill rfl (by decide) (by decide)) ?_
  refine go_aload_n dX1_clear_33 rfl ?_
  refine go_getc dX1_clear_34 fX1_24 rfl (by decide) (by decide) (by decide) rfl ?_
  refine go_iconst (nI 0) dX1_clear_37 (by decide +kernel) ?_
  refine go_callS0 (K' := kJ7_fill_53178) [_, _] dX1_clear_38 mX1_27 lJ7_fill_53178 rfl rfl (Nat.le_of_ble_eq_true rfl) (Nat.le_of_ble_eq_true rfl) (c_fill rfl (by decide) (by decide)) ?_
  refine go_aload_n dX1_clear_41 rfl ?_
  refine go_iconst (nI 0) dX1_clear_42 (by decide +kernel) ?_
  refine go_puti dX1_clear_43 fX1_33 rfl (by decide) (by decide) (by decide) rfl (fun _ _ _ h => by cases h; rfl) (Or.inl rfl) ?_
  refine go_aload_n dX1_clear_46 rfl ?_
  refine go_iconst (nI 0) dX1_clear_47 (by decide +kernel) ?_
  refine go_puti dX1_clear_48 fX1_37 rfl (by decide) (by decide) (by decide) rfl (fun _ _ _ h => by cases h; rfl) (Or.inl rfl) ?_
  refine go_aload_n dX1_clear_51 rfl ?_
  refine go_iconst (nI 0) dX1_clear_52 (by decide +kernel) ?_
  refine go_puti dX1_clear_53 fX1_40 rfl (by decide) (by decide) (by decide) rfl (fun _ _ _ h => by cases h; rfl) (Or.inl rfl) ?_
  exact go_vret dX1_clear_56 rfl rfl rfl
def ptM_35 (m : gMem) (p h a g : Nat) : gMem := gup (gup m 36 (p * 6 + h) (nI a)) 37 (h * 3 + a) (nI (g ||| 2 ^ p))
theorem c_put_35 {O : gOm} {d : Nat} {m : gMem} {p h a g : Nat} (hp : p < 6) (hh : h < 6) (ha : a < 3) (hg : m.1 37 (h * 3 + a) = nI g) : Ca O d kX1_put [.ref 35, .int (nI p), .int (nI h), .int (nI a)] none m (ptM_35 m p h a g) := by
  show Go O d kX1_put none _ 0 [.ref 35, .int (nI p), .int (nI h), .int (nI a)] [] m
  refine go_aload_n dX1_put_0 rfl ?_
  refine go_getc dX1_put_1 fX1_9 rfl (by decide) (by decide) (by decide) rfl ?_
  refine go_iload_n dX1_put_4 rfl ?_
  refine go_bipush (nI 6) dX1_put_5 (by decide +kernel) ?_
  first | refine go_imul_n dX1_put_7 ?_ | refine go_imul dX1_put_7 rfl ?_
  refine go_iload_n dX1_put_8 rfl ?_
  first | refine go_iadd_n dX1_put_9 ?_ | refine go_iadd dX1_put_9 rfl ?_
  refine go_iload_n dX1_put_10 rfl ?_
  refine go_iast dX1_put_11 rfl (by decide) rfl (by omega) (by decide) ?_
  refine go_aload_n dX1_put_12 rfl ?_
  refine go_getc dX1_put_13 fX1_15 rfl (by decide) (by decide) (by decide) rfl ?_
  refine go_iload_n dX1_put_16 rfl ?_
  refine go_iconst (nI 3) dX1_put_17 (by decide +kernel) ?_
  first | refine go_imul_n dX1_put_18 ?_ | refine go_imul dX1_put_18 rfl ?_
  refine go_iload_n dX1_put_19 rfl ?_
  first | refine go_iadd_n dX1_put_20 ?_ | refine go_iadd dX1_put_20 rfl ?_
  refine go_dup2 dX1_put_21 rfl rfl ?_
  refine go_iald dX1_put_22 rfl (by decide) rfl (by omega) (by decide) hg ?_
  refine go_iconst (nI 1) dX1_put_23 (by decide +kernel) ?_
  refine go_iload_n dX1_put_24 rfl ?_
  refine go_ishl dX1_put_25 (nb_one (by omega)) ?_
  refine go_ior dX1_put_26 (nb_or _ _) ?_
  refine go_iast dX1_put_27 rfl (by decide) rfl (by omega) (by decide) ?_
  exact go_vret dX1_put_28 rfl rfl rfl
