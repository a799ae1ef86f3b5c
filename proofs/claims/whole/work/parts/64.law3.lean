/-! THE LAW'S LOOP -/
theorem law_loop {O : gOm} {p : Program} {l : Launch} {e : Env} {s : State} {mi : MethodId} {below : List Frame} {meth : Method} {c : Code} {b L : Nat} {xs : Nat → Int32} (C : LwC O p s mi meth c b L xs) (hL3 : L ≤ 3072) : ∀ n i (m : gMem), i ≤ L → L + 1 ≤ i + n → Inv m → Lw O p l e s mi below meth c b 18 [.ref 70, .ref 0, .ref 46, .int (nI i)] [] m := by
  intro n
  induction n with
  | zero =>
    intro i m h1 h2 hI
    omega
  | succ n ih =>
    intro i m h1 h2 hI
    have nxt : i + 6 ≤ L → ∀ m2, Inv m2 → Lw O p l e s mi below meth c b 926 [.ref 70, .ref 0, .ref 46, .int (nI i)] [] m2 := by
      intro h m2 q
      refine lq_iinc C (L' := [_, _, _, _]) dL_law_926 rfl (by decide) (nI_6 i) rfl ?_
      refine lq_goto C 18 dL_law_929 (by decide) ?_
      exact ih (i + 6) m2 h (by omega) q
    have hsub := nI_subI (a := L) (b := 6) (by omega) (by omega)
    refine lq_iload_n C dL_law_18 rfl ?_
    refine lq_aload_n C dL_law_19 rfl ?_
    refine lq_slen C dL_law_20 ?_
    refine lq_bipush C (nI 6) dL_law_21 (by decide +kernel) ?_
    refine lq_isub C dL_law_23 rfl ?_
    by_cases h : i + 6 ≤ L
    · refine lq_icmp_gt C 932 dL_law_24 (by decide) (fun z => absurd z ?_) (fun _ => ?_)
      · rw [Int32.lt_iff_toInt_lt, hsub, nI_toInt (by omega)]
        omega
      · refine lq_aload_n C dL_law_27 rfl ?_
        refine lq_iload_n C dL_law_28 rfl ?_
        refine lq_sld C dL_law_29 rfl (by omega) hL3 ?_
        refine lq_bipush C (nI 31) dL_law_30 (by decide +kernel) ?_
        refine lq_iand C dL_law_32 (pk_and (xs i) 5 (by decide +kernel)) ?_
        have ht : (xs i).toBitVec.toNat % 2 ^ 5 < 32 := Nat.mod_lt _ (by decide)
        generalize (xs i).toBitVec.toNat % 2 ^ 5 = t at ht ⊢
        rcases (show t = 0 ∨ t = 1 ∨ t = 2 ∨ t = 3 ∨ t = 4 ∨ t = 5 ∨ t = 6 ∨ t = 7 ∨ t = 8 ∨ t = 9 ∨ t = 10 ∨ t = 11 ∨ t = 12 ∨ t = 13 ∨ t = 14 ∨ t = 15 ∨ t = 16 ∨ t = 17 ∨ t = 18 ∨ t = 19 ∨ t = 20 ∨ t = 21 ∨ t = 22 ∨ t = 23 ∨ t = 24 ∨ 25 ≤ t by omega) with rfl | rfl | rfl | rfl | rfl | rfl | rfl | rfl | rfl | rfl | rfl | rfl | rfl | rfl | rfl | rfl | rfl | rfl | rfl | rfl | rfl | rfl | rfl | rfl | rfl | ht
        · refine lq_tableIn C (off := 115) 148 dL_law_33 (by decide +kernel) (by decide +kernel) (by decide +kernel) (by decide) ?_
          exact arm_write C hL3 h hI (nxt h)
        · refine lq_tableIn C (off := 178) 211 dL_law_33 (by decide +kernel) (by decide +kernel) (by decide +kernel) (by decide) ?_
          exact arm_wipe C hL3 h hI (nxt h)
        · refine lq_tableIn C (off := 191) 224 dL_law_33 (by decide +kernel) (by decide +kernel) (by decide +kernel) (by decide) ?_
          exact arm_fault C hL3 h hI (nxt h)
        · refine lq_tableIn C (off := 204) 237 dL_law_33 (by decide +kernel) (by decide +kernel) (by decide +kernel) (by decide) ?_
          exact arm_day C hL3 h hI (nxt h)
        · refine lq_tableIn C (off := 217) 250 dL_law_33 (by decide +kernel) (by decide +kernel) (by decide +kernel) (by decide) ?_
          exact arm_about C hL3 h hI (nxt h)
        · refine lq_tableIn C (off := 240) 273 dL_law_33 (by decide +kernel) (by decide +kernel) (by decide +kernel) (by decide) ?_
          exact arm_where C hL3 h hI (nxt h)
        · refine lq_tableIn C (off := 273) 306 dL_law_33 (by decide +kernel) (by decide +kernel) (by decide +kernel) (by decide) ?_
          exact arm_news C hL3 h hI (nxt h)
        · refine lq_tableIn C (off := 306) 339 dL_law_33 (by decide +kernel) (by decide +kernel) (by decide +kernel) (by decide) ?_
          exact arm_told C hL3 h hI (nxt h)
        · refine lq_tableIn C (off := 339) 372 dL_law_33 (by decide +kernel) (by decide +kernel) (by decide +kernel) (by decide) ?_
          exact arm_left C hL3 h hI (nxt h)
        · refine lq_tableIn C (off := 372) 405 dL_law_33 (by decide +kernel) (by decide +kernel) (by decide +kernel) (by decide) ?_
          exact arm_may C hL3 h hI (nxt h)
        · refine lq_tableIn C (off := 405) 438 dL_law_33 (by decide +kernel) (by decide +kernel) (by decide +kernel) (by decide) ?_
          exact arm_tell C hL3 h hI (nxt h)
        · refine lq_tableIn C (off := 438) 471 dL_law_33 (by decide +kernel) (by decide +kernel) (by decide +kernel) (by decide) ?_
          exact arm_hour C hL3 h hI (nxt h)
        · refine lq_tableIn C (off := 451) 484 dL_law_33 (by decide +kernel) (by decide +kernel) (by decide +kernel) (by decide) ?_
          exact arm_undo C hL3 h hI (nxt h)
        · refine lq_tableIn C (off := 464) 497 dL_law_33 (by decide +kernel) (by decide +kernel) (by decide +kernel) (by decide) ?_
          exact arm_judge C hL3 h hI (nxt h)
        · refine lq_tableIn C (off := 507) 540 dL_law_33 (by decide +kernel) (by decide +kernel) (by decide +kernel) (by decide) ?_
          exact arm_fewest C hL3 h hI (nxt h)
        · refine lq_tableIn C (off := 540) 573 dL_law_33 (by decide +kernel) (by decide +kernel) (by decide +kernel) (by decide) ?_
          exact arm_planAt C hL3 h hI (nxt h)
        · refine lq_tableIn C (off := 583) 616 dL_law_33 (by decide +kernel) (by decide +kernel) (by decide +kernel) (by decide) ?_
          exact arm_most C hL3 h hI (nxt h)
        · refine lq_tableIn C (off := 606) 639 dL_law_33 (by decide +kernel) (by decide +kernel) (by decide +kernel) (by decide) ?_
          exact arm_spent C hL3 h hI (nxt h)
        · refine lq_tableIn C (off := 639) 672 dL_law_33 (by decide +kernel) (by decide +kernel) (by decide +kernel) (by decide) ?_
          exact arm_duel C hL3 h hI (nxt h)
        · refine lq_tableIn C (off := 672) 705 dL_law_33 (by decide +kernel) (by decide +kernel) (by decide +kernel) (by decide) ?_
          exact arm_chance C hL3 h hI (nxt h)
        · refine lq_tableIn C (off := 752) 785 dL_law_33 (by decide +kernel) (by decide +kernel) (by decide +kernel) (by decide) ?_
          exact arm_sight C hL3 h hI (nxt h)
        · refine lq_tableIn C (off := 811) 844 dL_law_33 (by decide +kernel) (by decide +kernel) (by decide +kernel) (by decide) ?_
          exact arm_unsee C hL3 h hI (nxt h)
        · refine lq_tableIn C (off := 824) 857 dL_law_33 (by decide +kernel) (by decide +kernel) (by decide +kernel) (by decide) ?_
          exact arm_rows C hL3 h hI (nxt h)
        · refine lq_tableIn C (off := 847) 880 dL_law_33 (by decide +kernel) (by decide +kernel) (by decide +kernel) (by decide) ?_
          exact arm_keep C hL3 h hI (nxt h)
        · refine lq_tableIn C (off := 870) 903 dL_law_33 (by decide +kernel) (by decide +kernel) (by decide +kernel) (by decide) ?_
          exact arm_again C hL3 h hI (nxt h)
        · refine lq_tableOut C 926 dL_law_33 (Or.inr ?_) (by decide) ?_
          · rw [nI_toInt (by omega)]
            omega
          · exact nxt h m hI
    · refine lq_icmp_gt C 932 dL_law_24 (by decide) (fun _ => ?_) (fun z => absurd ?_ z)
      · refine lq_iconst C 1 dL_law_932 (by decide +kernel) ?_
        exact lq_end C dL_law_933
      · rw [Int32.lt_iff_toInt_lt, hsub, nI_toInt (by omega)]
        omega
