/-- the book, one page on -/
def shP (f : Nat → Int32) : Nat → Nat → Int32
  | 0 => f
  | k + 1 => upd (shP f k) k (shP f k (k + 58))
theorem shP_at (f : Nat → Int32) (j : Nat) : ∀ k, shP f k j = if j < k then f (j + 58) else f j
  | 0 => by rw [if_neg (by omega)]; rfl
  | k + 1 => by
    by_cases h : j = k
    · rw [if_pos (by omega), shP, h, upd_s, shP_at f (k + 58) k, if_neg (by omega)]
    · rw [shP, upd_n _ _ h, shP_at f j k]
      by_cases h2 : j < k
      · rw [if_pos h2, if_pos (by omega)]
      · rw [if_neg h2, if_neg (by omega)]
def ntM (m : gMem) (a : Nat) : gMem := if a = 16 then gup (gupA m 57 (lyP (shP (m.1 57) 870) (m.1 52) 870 (m.1 46 11))) 46 21 (nI 16) else gup (gupA m 57 (lyP (m.1 57) (m.1 52) (58 * a) (m.1 46 11))) 46 21 (nI (a + 1))
theorem nt_eq (m : gMem) (f g : Nat → Int32) (x y : Int32) : gup (gupA (gup (gupA m 57 f) 46 21 x) 57 g) 46 21 y = gup (gupA m 57 g) 46 21 y := by
  refine Prod.ext (funext fun k => funext fun i => ?_) rfl
  by_cases h : k = 46
  · subst h
    by_cases hi : i = 21
    · subst hi
      rfl
    · simp [gup, gupA, gbeq hi]
  · by_cases h2 : k = 57
    · subst h2
      rfl
    · simp [gup, gupA, gbeq h, gbeq h2]
theorem c_note {O : gOm} {d : Nat} {m : gMem} {a : Nat} (ha : m.1 46 21 = nI a) (ha16 : a ≤ 16) : Ca O (d + 1) kX7_note [.ref 46] none m (ntM m a) := by
  show Go O (d + 1) kX7_note none _ 0 [.ref 46, .null] [] m
  rcases Nat.lt_or_ge a 16 with z | z
  · rw [show ntM m a = gup (gupA m 57 (lyP (m.1 57) (m.1 52) (58 * a) (m.1 46 11))) 46 21 (nI (a + 1)) from if_neg (by omega)]
    refine go_aload_n dX7_note_0 rfl ?_
    refine go_geti dX7_note_1 fX7_140 rfl (by decide) (by decide) (by decide) rfl ha ?_
    refine go_bipush (nI 16) dX7_note_4 (by decide +kernel) ?_
    refine go_icmp_ne 49 dX7_note_6 (by decide) (fun h6 => ?_) (fun h => absurd h (fun q => absurd ((nI_eq (by omega) (by omega)).mp q) (by omega)))
    refine go_aload_n dX7_note_49 rfl ?_
    refine go_aload_n dX7_note_50 rfl ?_
    refine go_getc dX7_note_51 fX7_40 rfl (by decide) (by decide) (by decide) rfl ?_
    refine go_bipush (nI 58) dX7_note_54 (by decide +kernel) ?_
    refine go_aload_n dX7_note_56 rfl ?_
    refine go_geti dX7_note_57 fX7_140 rfl (by decide) (by decide) (by decide) rfl ha ?_
    first | refine go_imul_n dX7_note_60 ?_ | refine go_imul dX7_note_60 rfl ?_
    refine go_callV0 (K' := kX7_layPage) [_, _] dX7_note_61 mX7_165 lX7_layPage rfl (by decide) rfl (by decide) rfl rfl (Nat.le_of_ble_eq_true rfl) (Nat.le_of_ble_eq_true rfl) (c_layPage_57 (by omega)) ?_
    refine go_aload_n dX7_note_64 rfl ?_
    refine go_dup dX7_note_65 rfl ?_
    refine go_geti dX7_note_66 fX7_140 rfl (by decide) (by decide) (by decide) rfl ha ?_
    refine go_iconst (nI 1) dX7_note_69 (by decide +kernel) ?_
    first | refine go_iadd_n dX7_note_70 ?_ | refine go_iadd dX7_note_70 rfl ?_
    refine go_puti dX7_note_71 fX7_140 rfl (by decide) (by decide) (by decide) rfl (fun _ _ _ h => by cases h; rfl) (Or.inl rfl) ?_
    exact go_vret dX7_note_74 rfl rfl rfl
  · obtain rfl : a = 16 := by omega
    rw [show ntM m 16 = gup (gupA m 57 (lyP (shP (m.1 57) 870) (m.1 52) 870 (m.1 46 11))) 46 21 (nI 16) from if_pos rfl]
    have key : ∀ c k, k + c = 870 → Go O (d + 1) kX7_note none (gup (gupA m 57 (lyP (shP (m.1 57) 870) (m.1 52) 870 (m.1 46 11))) 46 21 (nI 16)) 11 [.ref 46, .int (nI k)] [] (gupA m 57 (shP (m.1 57) k)) := by
      intro c
      induction c with
      | zero =>
        intro k hk
        obtain rfl : k = 870 := by omega
        refine go_iload_n dX7_note_11 rfl ?_
        refine go_sipush (nI 870) dX7_note_12 (by decide +kernel) ?_
        refine go_icmp_ge 39 dX7_note_15 (by decide) (fun h15 => ?_) (fun h => absurd (nI_le (by omega) (by omega)) h)
        refine go_aload_n dX7_note_39 rfl ?_
        refine go_dup dX7_note_40 rfl ?_
        refine go_geti dX7_note_41 fX7_140 rfl (by decide) (by decide) (by decide) rfl ha ?_
        refine go_iconst (nI 1) dX7_note_44 (by decide +kernel) ?_
        refine go_isub dX7_note_45 (Eq.refl (nI 15)) ?_
        refine go_puti dX7_note_46 fX7_140 rfl (by decide) (by decide) (by decide) rfl (fun _ _ _ h => by cases h; rfl) (Or.inl rfl) ?_
        refine go_aload_n dX7_note_49 rfl ?_
        refine go_aload_n dX7_note_50 rfl ?_
        refine go_getc dX7_note_51 fX7_40 rfl (by decide) (by decide) (by decide) rfl ?_
        refine go_bipush (nI 58) dX7_note_54 (by decide +kernel) ?_
        refine go_aload_n dX7_note_56 rfl ?_
        refine go_geti dX7_note_57 fX7_140 rfl (by decide) (by decide) (by decide) rfl (Eq.refl (nI 15)) ?_
        first | refine go_imul_n dX7_note_60 ?_ | refine go_imul dX7_note_60 rfl ?_
        refine go_callV0 (K' := kX7_layPage) [_, _] dX7_note_61 mX7_165 lX7_layPage rfl (by decide) rfl (by decide) rfl rfl (Nat.le_of_ble_eq_true rfl) (Nat.le_of_ble_eq_true rfl) (c_layPage_57 (by decide)) ?_
        refine go_aload_n dX7_note_64 rfl ?_
        refine go_dup dX7_note_65 rfl ?_
        refine go_geti dX7_note_66 fX7_140 rfl (by decide) (by decide) (by decide) rfl (Eq.refl (nI 15)) ?_
        refine go_iconst (nI 1) dX7_note_69 (by decide +kernel) ?_
        first | refine go_iadd_n dX7_note_70 ?_ | refine go_iadd dX7_note_70 rfl ?_
        refine go_puti dX7_note_71 fX7_140 rfl (by decide) (by decide) (by decide) rfl (fun _ _ _ h => by cases h; rfl) (Or.inl rfl) ?_
        exact go_vret dX7_note_74 rfl rfl (nt_eq m _ _ _ _).symm
      | succ c ih =>
        intro k hk
        refine go_iload_n dX7_note_11 rfl ?_
        refine go_sipush (nI 870) dX7_note_12 (by decide +kernel) ?_
        refine go_icmp_ge 39 dX7_note_15 (by decide) (fun h => absurd h (nI_ge (by omega) (by omega))) (fun h15 => ?_)
        refine go_aload_n dX7_note_18 rfl ?_
        refine go_getc dX7_note_19 fX7_40 rfl (by decide) (by decide) (by decide) rfl ?_
        refine go_iload_n dX7_note_22 rfl ?_
        refine go_aload_n dX7_note_23 rfl ?_
        refine go_getc dX7_note_24 fX7_40 rfl (by decide) (by decide) (by decide) rfl ?_
        refine go_iload_n dX7_note_27 rfl ?_
        refine go_bipush (nI 58) dX7_note_28 (by decide +kernel) ?_
        first | refine go_iadd_n dX7_note_30 ?_ | refine go_iadd dX7_note_30 rfl ?_
        refine go_ialdA dX7_note_31 rfl (by decide) rfl (by omega) (by decide) rfl ?_
        refine go_iastA dX7_note_32 rfl (by decide) rfl (by omega) (by decide) ?_
        refine go_iinc_n (L' := [_, _]) dX7_note_33 rfl (by decide) rfl ?_
        refine go_goto 11 dX7_note_36 (by decide) ?_
        exact ih (k + 1) (by omega)
    refine go_aload_n dX7_note_0 rfl ?_
    refine go_geti dX7_note_1 fX7_140 rfl (by decide) (by decide) (by decide) rfl ha ?_
    refine go_bipush (nI 16) dX7_note_4 (by decide +kernel) ?_
    refine go_icmp_ne 49 dX7_note_6 (by decide) (fun h => absurd h (fun q => q rfl)) (fun h6 => ?_)
    refine go_mem (gupA_self m 57).symm ?_
    refine go_iconst (nI 0) dX7_note_9 (by decide +kernel) ?_
    refine go_istore_n (L' := [_, _]) dX7_note_10 (by decide) rfl ?_
    exact key 870 0 (by omega)
