/-! ROWS: counting in place -/
theorem sm_mono (f : Nat → Nat) {a b : Nat} (h : a ≤ b) : sm f a ≤ sm f b := by
  obtain ⟨c, rfl⟩ := Nat.exists_eq_add_of_le h
  clear h
  induction c with
  | zero => exact Nat.le_refl _
  | succ c ih =>
    rw [← Nat.add_assoc, sm_s]
    omega
theorem sm_tail {f : Nat → Nat} {a : Nat} : ∀ c, (∀ j, a ≤ j → j < a + c → f j = 0) → sm f (a + c) = sm f a
  | 0, _ => rfl
  | c + 1, h => by
    rw [← Nat.add_assoc, sm_s, sm_tail c (fun j h1 h2 => h j h1 (by omega)), h (a + c) (by omega) (by omega)]
    rfl
theorem sm_head (f : Nat → Nat) : ∀ n, sm f (n + 1) = f 0 + sm (fun s => f (s + 1)) n
  | 0 => by simp [sm]
  | n + 1 => by
    rw [sm_s, sm_head f n, sm_s]
    omega
theorem sm_single {v : Nat → Nat} {i : Nat} : ∀ n, sm (fun j => if j = i then v j else 0) n = if i < n then v i else 0
  | 0 => by simp [sm]
  | n + 1 => by
    rw [sm_s, sm_single n]
    by_cases e : n = i
    · rw [if_pos e, if_neg (by omega), if_pos (by omega), e]
      omega
    · rw [if_neg e]
      by_cases h : i < n
      · rw [if_pos h, if_pos (by omega)]; rfl
      · rw [if_neg h, if_neg (by omega)]
/-- what one source gives to one target by one to three places -/
def phS (gr : Nat → Nat) (lim : Nat) (w : Nat) (j i : Nat) : Nat := sm (fun s => if cbI gr lim (s + 1) j = some i then w else 0) 7
theorem pc6_pos : ∀ s, s < 7 → 0 < pc6 (s + 1) := by decide +kernel
theorem cbI_gt {gr : Nat → Nat} {lim s j i : Nat} (hs : s < 7) (h : cbI gr lim (s + 1) j = some i) : j < i := by
  unfold cbI at h
  have hp := pc6_pos s hs
  cases hb : bh gr (s + 1) (j / 10) with
  | none => rw [hb] at h; cases h
  | some k =>
    rw [hb] at h
    dsimp only at h
    have := bh_ge hb
    split at h
    · have := Option.some.inj h
      omega
    · cases h
theorem phS_z {gr : Nat → Nat} {lim w j i : Nat} (h : i ≤ j) : phS gr lim w j i = 0 := by
  refine sm_zero 7 (fun s hs => ?_)
  rw [if_neg (fun q => absurd (cbI_gt hs q) (by omega))]
theorem phS_w {gr : Nat → Nat} {lim j i : Nat} : phS gr lim 0 j i = 0 := sm_zero 7 (fun s hs => by split <;> rfl)
/-- cells behind all sources from j on -/
def TC (gr : Nat → Nat) (lim : Nat) (W : Nat → Nat) (j i : Nat) : Nat := W i + (sm (fun j' => phS gr lim (W j') j' i) 640 - sm (fun j' => phS gr lim (W j') j' i) j)
theorem TC_s {gr : Nat → Nat} {lim : Nat} {W : Nat → Nat} {j i : Nat} (hj : j < 640) : TC gr lim W j i = TC gr lim W (j + 1) i + phS gr lim (W j) j i := by
  unfold TC
  have := sm_mono (fun j' => phS gr lim (W j') j' i) (show j + 1 ≤ 640 by omega)
  rw [sm_s _ j] at this ⊢
  omega
theorem TC_at {gr : Nat → Nat} {lim : Nat} {W : Nat → Nat} {j i : Nat} (hi : i ≤ j) (hj : j ≤ 640) : TC gr lim W j i = W i := by
  unfold TC
  obtain ⟨c, hc⟩ := Nat.exists_eq_add_of_le hj
  have := sm_tail (f := fun j' => phS gr lim (W j') j' i) (a := j) c (fun j' h1 h2 => phS_z (by omega))
  rw [← hc] at this
  omega
theorem TC_0 {gr : Nat → Nat} {lim : Nat} {W : Nat → Nat} {i : Nat} (hi : i < 640) (hz : ∀ j, j < 640 → lim < j % 10 → W j = 0) : TC gr lim W 0 i = gW gr lim W i := by
  have e : gW gr lim W i = sm (fun j => if cbI gr lim 0 j = some i then W j else 0) 640 + sm (fun j => phS gr lim (W j) j i) 640 := by
    rw [← sm_add]
    exact sm_congr 640 (fun j _ => sm_head _ 7)
  have e2 : sm (fun j => if cbI gr lim 0 j = some i then W j else 0) 640 = W i := by
    rw [sm_congr (g := fun j => if j = i then W j else 0) 640 (fun j hj => ?_), sm_single, if_pos hi]
    have ec : cbI gr lim 0 j = if j % 10 ≤ lim then some j else none := by
      unfold cbI
      rw [bh_0]
      dsimp only
      rw [show pc6 0 = 0 from rfl, Nat.add_zero, show 10 * (j / 10) + j % 10 = j by omega]
    rw [ec]
    by_cases h : j % 10 ≤ lim
    · rw [if_pos h]
      by_cases z : j = i
      · rw [if_pos (by rw [z]), if_pos z]
      · rw [if_neg (fun q => z (Option.some.inj q)), if_neg z]
    · rw [if_neg h, if_neg (by simp), hz j hj (by omega)]
      split <;> rfl
  rw [e, e2]
  unfold TC
  rw [show ∀ f : Nat → Nat, sm f 0 = 0 from fun _ => rfl, Nat.sub_zero]
theorem gW_z {gr : Nat → Nat} {lim : Nat} {W : Nat → Nat} {i : Nat} (hl : lim ≤ 9) (h : lim < i % 10) (hg : ∀ a, gr a < 64) : gW gr lim W i = 0 := by
  refine sm_zero 640 (fun j _ => sm_zero 8 (fun S _ => if_neg (fun q => ?_)))
  unfold cbI at q
  cases hb : bh gr S (j / 10) with
  | none => rw [hb] at q; cases q
  | some k =>
    rw [hb] at q
    dsimp only at q
    split at q
    · have := Option.some.inj q
      omega
    · cases q
theorem c_countOn {O : gOm} {d : Nat} {m : gMem} {gr T : Nat → Nat} {lim w j : Nat} {x y : Nat → Int32} (hg : ∀ a, gr a < 64) (hl9 : lim ≤ 9) (hl : m.1 41 6 = nI lim) (hj : j < 640) (hw : w < 2 ^ 31) (hx : ∀ i, i < 640 → x i = nI (T i)) (hy : ∀ S, S < 8 → y S = oI (-1) (bh gr S (j / 10))) : ∃ x' : Nat → Int32, (∀ i, i < 640 → x' i = nI (T i + phS gr lim w j i)) ∧ Ca O (d + 1) kX2_countOn [.ref 41, .int (nI w), .int (nI (j % 10))] none (mm m 44 45 x y) (mm m 44 45 x' y) := by
  by_cases hw0 : w = 0
  · refine ⟨x, fun i hi => by rw [hw0, phS_w]; exact hx i hi, ?_⟩
    show Go O (d + 1) kX2_countOn none _ 0 [.ref 41, .int (nI w), .int (nI (j % 10)), .null, .null] [] _
    refine go_iconst (nI 1) dX2_countOn_0 (by decide +kernel) ?_
    refine go_istore_n (L' := [_, _, _, _, _]) dX2_countOn_1 (by decide) rfl ?_
    refine go_iload_n dX2_countOn_2 rfl ?_
    refine go_if_eq 65 dX2_countOn_3 (by decide) (fun h3 => ?_) (fun h => absurd (by rw [hw0]; rfl) h)
    exact go_vret dX2_countOn_65 rfl rfl rfl
  · have key : ∀ q s (x : Nat → Int32), s + q = 7 → (∀ i, i < 640 → x i = nI (T i + sm (fun s => if cbI gr lim (s + 1) j = some i then w else 0) s)) → ∃ x' : Nat → Int32, (∀ i, i < 640 → x' i = nI (T i + phS gr lim w j i)) ∧ ∀ u, Go O (d + 1) kX2_countOn none (mm m 44 45 x' y) 2 [.ref 41, .int (nI w), .int (nI (j % 10)), .int (nI (s + 1)), u] [] (mm m 44 45 x y) := by
      intro q
      induction q with
      | zero =>
        intro s x hs hx
        obtain rfl : s = 7 := by omega
        refine ⟨x, hx, fun u => ?_⟩
        refine go_iload_n dX2_countOn_2 rfl ?_
        refine go_if_eq 65 dX2_countOn_3 (by decide) (fun h => absurd h (fun q => hw0 ((nI_eq (b := 0) (by omega) (by omega)).mp q))) (fun h3 => ?_)
        refine go_iload_n dX2_countOn_6 rfl ?_
        refine go_bipush (nI 8) dX2_countOn_7 (by decide +kernel) ?_
        refine go_icmp_ge 65 dX2_countOn_9 (by decide) (fun h9 => ?_) (fun h => absurd (nI_le (by omega) (by omega)) h)
        exact go_vret dX2_countOn_65 rfl rfl rfl
      | succ q ih =>
        intro s x hs hx
        have hS6 := pc6_le (s + 1)
        have hyS := hy (s + 1) (by omega)
        have eC : cbI gr lim (s + 1) j = match bh gr (s + 1) (j / 10) with
          | none => none
          | some k => if j % 10 + pc6 (s + 1) ≤ lim then some (10 * k + (j % 10 + pc6 (s + 1))) else none := rfl
        have same : cbI gr lim (s + 1) j = none → ∀ i, i < 640 → x i = nI (T i + sm (fun s => if cbI gr lim (s + 1) j = some i then w else 0) (s + 1)) := by
          intro e i hi
          rw [sm_s, e, if_neg (by simp), Nat.add_zero]
          exact hx i hi
        cases hbh : bh gr (s + 1) (j / 10) with
        | none =>
          rw [hbh] at hyS eC
          obtain ⟨x', r1, r2⟩ := ih (s + 1) x (by omega) (same eC)
          refine ⟨x', r1, fun u => ?_⟩
          refine go_iload_n dX2_countOn_2 rfl ?_
          refine go_if_eq 65 dX2_countOn_3 (by decide) (fun h => absurd h (fun q => hw0 ((nI_eq (b := 0) (by omega) (by omega)).mp q))) (fun h3 => ?_)
          refine go_iload_n dX2_countOn_6 rfl ?_
          refine go_bipush (nI 8) dX2_countOn_7 (by decide +kernel) ?_
          refine go_icmp_ge 65 dX2_countOn_9 (by decide) (fun h => absurd h (nI_ge (by omega) (by omega))) (fun h9 => ?_)
          refine go_iload_n dX2_countOn_12 rfl ?_
          refine go_iload_n dX2_countOn_13 rfl ?_
          refine go_callS1 (K' := kJ6_bitCount_0f7a4) [_] dX2_countOn_14 mX2_60 lJ6_bitCount_0f7a4 rfl rfl (Nat.le_of_ble_eq_true rfl) (Nat.le_of_ble_eq_true rfl) (c_bitCount (by omega)) ?_
          first | refine go_iadd_n dX2_countOn_17 ?_ | refine go_iadd dX2_countOn_17 rfl ?_
          refine go_istore (L' := [_, _, _, _, _]) dX2_countOn_18 (by decide) rfl ?_
          refine go_aload_n dX2_countOn_20 rfl ?_
          refine go_getc dX2_countOn_21 fX2_21 rfl (by decide) (by decide) (by decide) rfl ?_
          refine go_iload_n dX2_countOn_24 rfl ?_
          refine go_iald dX2_countOn_25 rfl (by decide) rfl (by omega) (by decide) hyS ?_
          refine go_if_lt 59 dX2_countOn_26 (by decide) (fun h26 => ?_) (fun h => absurd (by decide +kernel) h)
          refine go_iinc_n (L' := [_, _, _, _, _]) dX2_countOn_59 rfl (by decide) rfl ?_
          refine go_goto 2 dX2_countOn_62 (by decide) ?_
          exact r2 _
        | some k =>
          rw [hbh] at hyS eC
          dsimp only at eC
          have hk := bh_lt (by omega) hg hbh
          by_cases hle : j % 10 + pc6 (s + 1) ≤ lim
          · rw [if_pos hle] at eC
            have v1 := hx (10 * k + (j % 10 + pc6 (s + 1))) (by omega)
            obtain ⟨x', r1, r2⟩ := ih (s + 1) (upd x (10 * k + (j % 10 + pc6 (s + 1))) (nI (T (10 * k + (j % 10 + pc6 (s + 1))) + sm (fun s' => if cbI gr lim (s' + 1) j = some (10 * k + (j % 10 + pc6 (s + 1))) then w else 0) s + w))) (by omega) (fun i hi => by
              rw [sm_s, eC]
              by_cases e : i = 10 * k + (j % 10 + pc6 (s + 1))
              · rw [if_pos (by rw [e]), e, upd_s, Nat.add_assoc]
              · rw [if_neg (fun q => e (Option.some.inj q).symm), upd_n _ _ e, Nat.add_zero]
                exact hx i hi)
            refine ⟨x', r1, fun u => ?_⟩
            have hyk : y (s + 1) = nI k := hyS
            refine go_iload_n dX2_countOn_2 rfl ?_
            refine go_if_eq 65 dX2_countOn_3 (by decide) (fun h => absurd h (fun q => hw0 ((nI_eq (b := 0) (by omega) (by omega)).mp q))) (fun h3 => ?_)
            refine go_iload_n dX2_countOn_6 rfl ?_
            refine go_bipush (nI 8) dX2_countOn_7 (by decide +kernel) ?_
            refine go_icmp_ge 65 dX2_countOn_9 (by decide) (fun h => absurd h (nI_ge (by omega) (by omega))) (fun h9 => ?_)
            refine go_iload_n dX2_countOn_12 rfl ?_
            refine go_iload_n dX2_countOn_13 rfl ?_
            refine go_callS1 (K' := kJ6_bitCount_0f7a4) [_] dX2_countOn_14 mX2_60 lJ6_bitCount_0f7a4 rfl rfl (Nat.le_of_ble_eq_true rfl) (Nat.le_of_ble_eq_true rfl) (c_bitCount (by omega)) ?_
            first | refine go_iadd_n dX2_countOn_17 ?_ | refine go_iadd dX2_countOn_17 rfl ?_
            refine go_istore (L' := [_, _, _, _, _]) dX2_countOn_18 (by decide) rfl ?_
            refine go_aload_n dX2_countOn_20 rfl ?_
            refine go_getc dX2_countOn_21 fX2_21 rfl (by decide) (by decide) (by decide) rfl ?_
            refine go_iload_n dX2_countOn_24 rfl ?_
            refine go_iald dX2_countOn_25 rfl (by decide) rfl (by omega) (by decide) hyk ?_
            refine go_if_lt 59 dX2_countOn_26 (by decide) (fun h => absurd h (nI_pos (by omega))) (fun h26 => ?_)
            refine go_iload dX2_countOn_29 rfl ?_
            refine go_aload_n dX2_countOn_31 rfl ?_
            refine go_geti dX2_countOn_32 fX2_84 rfl (by decide) (by decide) (by decide) rfl hl ?_
            refine go_icmp_gt 59 dX2_countOn_35 (by decide) (fun h => absurd h (nI_nlt (by omega) (by omega))) (fun h35 => ?_)
            refine go_aload_n dX2_countOn_38 rfl ?_
            refine go_getc dX2_countOn_39 fX2_18 rfl (by decide) (by decide) (by decide) rfl ?_
            refine go_aload_n dX2_countOn_42 rfl ?_
            refine go_getc dX2_countOn_43 fX2_21 rfl (by decide) (by decide) (by decide) rfl ?_
            refine go_iload_n dX2_countOn_46 rfl ?_
            refine go_iald dX2_countOn_47 rfl (by decide) rfl (by omega) (by decide) hyk ?_
            refine go_bipush (nI 10) dX2_countOn_48 (by decide +kernel) ?_
            first | refine go_imul_n dX2_countOn_50 ?_ | refine go_imul dX2_countOn_50 rfl ?_
            refine go_iload dX2_countOn_51 rfl ?_
            refine go_iadd dX2_countOn_53 (show nI (k * 10) + nI (j % 10 + pc6 (s + 1)) = nI (10 * k + (j % 10 + pc6 (s + 1))) by rw [nI_add, Nat.mul_comm]) ?_
            refine go_dup2 dX2_countOn_54 rfl rfl ?_
            refine go_iald dX2_countOn_55 rfl (by decide) rfl (by omega) (by decide) v1 ?_
            refine go_iload_n dX2_countOn_56 rfl ?_
            first | refine go_iadd_n dX2_countOn_57 ?_ | refine go_iadd dX2_countOn_57 rfl ?_
            refine go_iast dX2_countOn_58 rfl (by decide) rfl (by omega) (by decide) ?_
            rw [mm_1 (by decide)]
            refine go_iinc_n (L' := [_, _, _, _, _]) dX2_countOn_59 rfl (by decide) rfl ?_
            refine go_goto 2 dX2_countOn_62 (by decide) ?_
            exact r2 _
          · rw [if_neg hle] at eC
            obtain ⟨x', r1, r2⟩ := ih (s + 1) x (by omega) (same eC)
            refine ⟨x', r1, fun u => ?_⟩
            have hyk : y (s + 1) = nI k := hyS
            refine go_iload_n dX2_countOn_2 rfl ?_
            refine go_if_eq 65 dX2_countOn_3 (by decide) (fun h => absurd h (fun q => hw0 ((nI_eq (b := 0) (by omega) (by omega)).mp q))) (fun h3 => ?_)
            refine go_iload_n dX2_countOn_6 rfl ?_
            refine go_bipush (nI 8) dX2_countOn_7 (by decide +kernel) ?_
            refine go_icmp_ge 65 dX2_countOn_9 (by decide) (fun h => absurd h (nI_ge (by omega) (by omega))) (fun h9 => ?_)
            refine go_iload_n dX2_countOn_12 rfl ?_
            refine go_iload_n dX2_countOn_13 rfl ?_
            refine go_callS1 (K' := kJ6_bitCount_0f7a4) [_] dX2_countOn_14 mX2_60 lJ6_bitCount_0f7a4 rfl rfl (Nat.le_of_ble_eq_true rfl) (Nat.le_of_ble_eq_true rfl) (c_bitCount (by omega)) ?_
            first | refine go_iadd_n dX2_countOn_17 ?_ | refine go_iadd dX2_countOn_17 rfl ?_
            refine go_istore (L' := [_, _, _, _, _]) dX2_countOn_18 (by decide) rfl ?_
            refine go_aload_n dX2_countOn_20 rfl ?_
            refine go_getc dX2_countOn_21 fX2_21 rfl (by decide) (by decide) (by decide) rfl ?_
            refine go_iload_n dX2_countOn_24 rfl ?_
            refine go_iald dX2_countOn_25 rfl (by decide) rfl (by omega) (by decide) hyk ?_
            refine go_if_lt 59 dX2_countOn_26 (by decide) (fun h => absurd h (nI_pos (by omega))) (fun h26 => ?_)
            refine go_iload dX2_countOn_29 rfl ?_
            refine go_aload_n dX2_countOn_31 rfl ?_
            refine go_geti dX2_countOn_32 fX2_84 rfl (by decide) (by decide) (by decide) rfl hl ?_
            refine go_icmp_gt 59 dX2_countOn_35 (by decide) (fun h35 => ?_) (fun h => absurd (nI_lt (by omega) (by omega)) h)
            refine go_iinc_n (L' := [_, _, _, _, _]) dX2_countOn_59 rfl (by decide) rfl ?_
            refine go_goto 2 dX2_countOn_62 (by decide) ?_
            exact r2 _
    obtain ⟨x', r1, r2⟩ := key 7 0 x (by omega) (fun i hi => hx i hi)
    refine ⟨x', r1, ?_⟩
    show Go O (d + 1) kX2_countOn none _ 0 [.ref 41, .int (nI w), .int (nI (j % 10)), .null, .null] [] _
    refine go_iconst (nI 1) dX2_countOn_0 (by decide +kernel) ?_
    refine go_istore_n (L' := [_, _, _, _, _]) dX2_countOn_1 (by decide) rfl ?_
    exact r2 _
theorem c_isReached {O : gOm} {d : Nat} {m : gMem} {W : Nat → Nat} {lim k : Nat} {b : Bool} (hl9 : lim ≤ 9) (hl : m.1 41 6 = nI lim) (hk : k < 64) (hW : ∀ t, t ≤ lim → m.1 44 (k * 10 + t) = nI (W (k * 10 + t)) ∧ W (k * 10 + t) < 2 ^ 31) (hb : b = true ↔ ∃ t, t ≤ lim ∧ W (k * 10 + t) ≠ 0) : Ca O d kX2_isReached [.ref 41, .int (nI k)] (some (.int (bI b))) m m := by
  have key : ∀ q t, t + q = lim + 1 → (∀ t', t' < t → W (k * 10 + t') = 0) → Go O d kX2_isReached (some (.int (bI b))) m 2 [.ref 41, .int (nI k), .int (nI t)] [] m := by
    intro q
    induction q with
    | zero =>
      intro t ht hno
      have eb : b = false := by
        cases hz : b with
        | false => rfl
        | true =>
          obtain ⟨t', h1, h2⟩ := hb.mp hz
          exact absurd (hno t' (by omega)) h2
      refine go_iload_n dX2_isReached_2 rfl ?_
      refine go_aload_n dX2_isReached_3 rfl ?_
      refine go_geti dX2_isReached_4 fX2_84 rfl (by decide) (by decide) (by decide) rfl hl ?_
      refine go_icmp_gt 32 dX2_isReached_7 (by decide) (fun h7 => ?_) (fun h => absurd (nI_lt (by omega) (by omega)) h)
      refine go_iconst (nI 0) dX2_isReached_32 (by decide +kernel) ?_
      exact go_zret dX2_isReached_33 rfl (by first | exact Or.inl rfl | exact Or.inr rfl) (by rw [eb]; rfl) rfl
    | succ q ih =>
      intro t ht hno
      obtain ⟨v1, v2⟩ := hW t (by omega)
      by_cases e : W (k * 10 + t) = 0
      · have hi := ih (t + 1) (by omega) (fun t' ht' => by
          by_cases z : t' = t
          · rw [z]; exact e
          · exact hno t' (by omega))
        refine go_iload_n dX2_isReached_2 rfl ?_
        refine go_aload_n dX2_isReached_3 rfl ?_
        refine go_geti dX2_isReached_4 fX2_84 rfl (by decide) (by decide) (by decide) rfl hl ?_
        refine go_icmp_gt 32 dX2_isReached_7 (by decide) (fun h => absurd h (nI_nlt (by omega) (by omega))) (fun h7 => ?_)
        refine go_aload_n dX2_isReached_10 rfl ?_
        refine go_getc dX2_isReached_11 fX2_18 rfl (by decide) (by decide) (by decide) rfl ?_
        refine go_iload_n dX2_isReached_14 rfl ?_
        refine go_bipush (nI 10) dX2_isReached_15 (by decide +kernel) ?_
        first | refine go_imul_n dX2_isReached_17 ?_ | refine go_imul dX2_isReached_17 rfl ?_
        refine go_iload_n dX2_isReached_18 rfl ?_
        first | refine go_iadd_n dX2_isReached_19 ?_ | refine go_iadd dX2_isReached_19 rfl ?_
        refine go_iald dX2_isReached_20 rfl (by decide) rfl (by omega) (by decide) v1 ?_
        refine go_if_eq 26 dX2_isReached_21 (by decide) (fun h21 => ?_) (fun h => absurd (by rw [e]; rfl) h)
        refine go_iinc_n (L' := [_, _, _]) dX2_isReached_26 rfl (by decide) rfl ?_
        refine go_goto 2 dX2_isReached_29 (by decide) ?_
        exact hi
      · have eb : b = true := hb.mpr ⟨t, by omega, e⟩
        refine go_iload_n dX2_isReached_2 rfl ?_
        refine go_aload_n dX2_isReached_3 rfl ?_
        refine go_geti dX2_isReached_4 fX2_84 rfl (by decide) (by decide) (by decide) rfl hl ?_
        refine go_icmp_gt 32 dX2_isReached_7 (by decide) (fun h => absurd h (nI_nlt (by omega) (by omega))) (fun h7 => ?_)
        refine go_aload_n dX2_isReached_10 rfl ?_
        refine go_getc dX2_isReached_11 fX2_18 rfl (by decide) (by decide) (by decide) rfl ?_
        refine go_iload_n dX2_isReached_14 rfl ?_
        refine go_bipush (nI 10) dX2_isReached_15 (by decide +kernel) ?_
        first | refine go_imul_n dX2_isReached_17 ?_ | refine go_imul dX2_isReached_17 rfl ?_
        refine go_iload_n dX2_isReached_18 rfl ?_
        first | refine go_iadd_n dX2_isReached_19 ?_ | refine go_iadd dX2_isReached_19 rfl ?_
        refine go_iald dX2_isReached_20 rfl (by decide) rfl (by omega) (by decide) v1 ?_
        refine go_if_eq 26 dX2_isReached_21 (by decide) (fun h => absurd h (fun q => e ((nI_eq (b := 0) (by omega) (by omega)).mp q))) (fun h21 => ?_)
        refine go_iconst (nI 1) dX2_isReached_24 (by decide +kernel) ?_
        exact go_zret dX2_isReached_25 rfl (by first | exact Or.inl rfl | exact Or.inr rfl) (by rw [eb]; rfl) rfl
  show Go O d kX2_isReached _ m 0 [.ref 41, .int (nI k), .null] [] m
  refine go_iconst (nI 0) dX2_isReached_0 (by decide +kernel) ?_
  refine go_istore_n (L' := [_, _, _]) dX2_isReached_1 (by decide) rfl ?_
  exact key (lim + 1) 0 (by omega) (fun t ht => absurd ht (by omega))
theorem c_counted {O : gOm} {d : Nat} {m : gMem} {W : Nat → Nat} (hW : ∀ i, i < 640 → m.1 44 i = nI (W i)) : Ca O d kX2_counted [.ref 41] (some (.int (nI (sm W 640)))) m m := by
  have key : ∀ q i, i + q = 640 → Go O d kX2_counted (some (.int (nI (sm W 640)))) m 4 [.ref 41, .int (nI (sm W i)), .int (nI i)] [] m := by
    intro q
    induction q with
    | zero =>
      intro i hi
      obtain rfl : i = 640 := by omega
      refine go_iload_n dX2_counted_4 rfl ?_
      refine go_aload_n dX2_counted_5 rfl ?_
      refine go_getc dX2_counted_6 fX2_18 rfl (by decide) (by decide) (by decide) rfl ?_
      refine go_alen dX2_counted_9 rfl (by decide) rfl ?_
      refine go_icmp_ge 28 dX2_counted_10 (by decide) (fun h10 => ?_) (fun h => absurd (nI_le (by omega) (by omega)) h)
      refine go_iload_n dX2_counted_28 rfl ?_
      exact go_iret dX2_counted_29 rfl rfl rfl
    | succ q ih =>
      intro i hi
      have hi2 := ih (i + 1) (by omega)
      rw [sm_s] at hi2
      refine go_iload_n dX2_counted_4 rfl ?_
      refine go_aload_n dX2_counted_5 rfl ?_
      refine go_getc dX2_counted_6 fX2_18 rfl (by decide) (by decide) (by decide) rfl ?_
      refine go_alen dX2_counted_9 rfl (by decide) rfl ?_
      refine go_icmp_ge 28 dX2_counted_10 (by decide) (fun h => absurd h (nI_ge (by omega) (by omega))) (fun h10 => ?_)
      refine go_iload_n dX2_counted_13 rfl ?_
      refine go_aload_n dX2_counted_14 rfl ?_
      refine go_getc dX2_counted_15 fX2_18 rfl (by decide) (by decide) (by decide) rfl ?_
      refine go_iload_n dX2_counted_18 rfl ?_
      refine go_iald dX2_counted_19 rfl (by decide) rfl (by omega) (by decide) (hW i (by omega)) ?_
      first | refine go_iadd_n dX2_counted_20 ?_ | refine go_iadd dX2_counted_20 rfl ?_
      refine go_istore_n (L' := [_, _, _]) dX2_counted_21 (by decide) rfl ?_
      refine go_iinc_n (L' := [_, _, _]) dX2_counted_22 rfl (by decide) rfl ?_
      refine go_goto 4 dX2_counted_25 (by decide) ?_
      exact hi2
  show Go O d kX2_counted _ m 0 [.ref 41, .null, .null] [] m
  refine go_iconst (nI 0) dX2_counted_0 (by decide +kernel) ?_
  refine go_istore_n (L' := [_, _, _]) dX2_counted_1 (by decide) rfl ?_
  refine go_iconst (nI 0) dX2_counted_2 (by decide +kernel) ?_
  refine go_istore_n (L' := [_, _, _]) dX2_counted_3 (by decide) rfl ?_
  exact key 640 0 (by omega)
theorem c_findNexts_29 {O : gOm} {d : Nat} {m : gMem} {h k : Nat} {gr : Nat → Nat} {x y : Nat → Int32} (hD : m.2 2 = 29) (hG : ∀ a, a < 3 → m.1 31 (h * 3 + a) = nI (gr a)) (hg : ∀ a, gr a < 64) (hh : h < 6) (hk : k < 64) : Ca O (d + 3) kX2_findNexts [.ref 41, .int (nI h), .int (nI k)] none (mm m 44 45 x y) (mm m 44 45 x (flV y (fun S => oI (-1) (bh gr S k)) 8)) := by
  have key : ∀ q S, S + q = 8 → Go O (d + 3) kX2_findNexts none (mm m 44 45 x (flV y (fun S => oI (-1) (bh gr S k)) 8)) 2 [.ref 41, .int (nI h), .int (nI k), .int (nI S)] [] (mm m 44 45 x (flV y (fun S => oI (-1) (bh gr S k)) S)) := by
    intro q
    induction q with
    | zero =>
      intro S hS
      obtain rfl : S = 8 := by omega
      refine go_iload_n dX2_findNexts_2 rfl ?_
      refine go_bipush (nI 8) dX2_findNexts_3 (by decide +kernel) ?_
      refine go_icmp_ge 27 dX2_findNexts_5 (by decide) (fun h5 => ?_) (fun h => absurd (nI_le (by omega) (by omega)) h)
      exact go_vret dX2_findNexts_27 rfl rfl rfl
    | succ q ih =>
      intro S hS
      refine go_iload_n dX2_findNexts_2 rfl ?_
      refine go_bipush (nI 8) dX2_findNexts_3 (by decide +kernel) ?_
      refine go_icmp_ge 27 dX2_findNexts_5 (by decide) (fun h => absurd h (nI_ge (by omega) (by omega))) (fun h5 => ?_)
      refine go_aload_n dX2_findNexts_8 rfl ?_
      refine go_getc dX2_findNexts_9 fX2_21 rfl (by decide) (by decide) (by decide) rfl ?_
      refine go_iload_n dX2_findNexts_12 rfl ?_
      refine go_aload_n dX2_findNexts_13 rfl ?_
      refine go_iload_n dX2_findNexts_14 rfl ?_
      refine go_iload_n dX2_findNexts_15 rfl ?_
      refine go_iload_n dX2_findNexts_16 rfl ?_
      refine go_callV1 (K' := kX2_behind) [_, _, _] dX2_findNexts_17 mX2_38 lX2_behind rfl (by decide) rfl (by decide) rfl rfl (Nat.le_of_ble_eq_true rfl) (Nat.le_of_ble_eq_true rfl) (c_obh_29 hD hG hg hh (by omega) hk) ?_
      refine go_iast dX2_findNexts_20 rfl (by decide) rfl (by omega) (by decide) ?_
      rw [mm_2]
      refine go_iinc_n (L' := [_, _, _, _]) dX2_findNexts_21 rfl (by decide) rfl ?_
      refine go_goto 2 dX2_findNexts_24 (by decide) ?_
      exact ih (S + 1) (by omega)
  show Go O (d + 3) kX2_findNexts none _ 0 [.ref 41, .int (nI h), .int (nI k), .null] [] _
  refine go_iconst (nI 0) dX2_findNexts_0 (by decide +kernel) ?_
  refine go_istore_n (L' := [_, _, _, _]) dX2_findNexts_1 (by decide) rfl ?_
  exact key 8 0 (by omega)
theorem c_countThrough_29 {O : gOm} {d : Nat} {m : gMem} {h lim : Nat} {gr W : Nat → Nat} (hD : m.2 2 = 29) (hG : ∀ a, a < 3 → m.1 31 (h * 3 + a) = nI (gr a)) (hg : ∀ a, gr a < 64) (hh : h < 6) (hl9 : lim ≤ 9) (hl : m.1 41 6 = nI lim) (hz : ∀ j, j < 640 → lim < j % 10 → W j = 0) (hW : ∀ i, i < 640 → m.1 44 i = nI (W i) ∧ W i < 2 ^ 31) : ∃ x y : Nat → Int32, (∀ i, i < 640 → x i = nI (gW gr lim W i)) ∧ Ca O (d + 4) kX2_countThrough [.ref 41, .int (nI h)] none m (mm m 44 45 x y) := by
  have inn : ∀ (k : Nat) (y : Nat → Int32), k < 64 → (∀ S, S < 8 → y S = oI (-1) (bh gr S k)) → ∀ q (x : Nat → Int32), q ≤ lim + 1 → (∀ i, i < 640 → x i = nI (TC gr lim W (k * 10 + q) i)) → ∃ x' : Nat → Int32, (∀ i, i < 640 → x' i = nI (TC gr lim W (k * 10) i)) ∧ ∀ M, (∀ u, Go O (d + 4) kX2_countThrough none M 52 [.ref 41, .int (nI h), .int (nI k), u] [] (mm m 44 45 x' y)) → Go O (d + 4) kX2_countThrough none M 26 [.ref 41, .int (nI h), .int (nI k), .int (nI q + Int32.ofInt (-1))] [] (mm m 44 45 x y) := by
    intro k y hk hy q
    induction q with
    | zero =>
      intro x hq hx
      refine ⟨x, hx, fun M kk => ?_⟩
      refine go_iload_n dX2_countThrough_26 rfl ?_
      refine go_if_lt 52 dX2_countThrough_27 (by decide) (fun h27 => ?_) (fun h => absurd (nI_m1lt 0) h)
      exact kk _
    | succ q ih =>
      intro x hq hx
      have e1 : (k * 10 + q) / 10 = k := by omega
      have e2 : (k * 10 + q) % 10 = q := by omega
      obtain ⟨x1, r1, c1⟩ := c_countOn (O := O) (d := d + 2) (m := m) (gr := gr) (T := TC gr lim W (k * 10 + (q + 1))) (lim := lim) (w := W (k * 10 + q)) (j := k * 10 + q) (x := x) (y := y) hg hl9 hl (by omega) (hW _ (by omega)).2 hx (fun S hS => by rw [e1]; exact hy S hS)
      rw [e2] at c1
      obtain ⟨x', p1, p2⟩ := ih x1 (by omega) (fun i hi => by rw [r1 i hi, TC_s (j := k * 10 + q) (by omega)]; rfl)
      refine ⟨x', p1, fun M kk => ?_⟩
      have p3 := p2 M kk
      have v1 : x (k * 10 + q) = nI (W (k * 10 + q)) := by rw [hx _ (by omega), TC_at (by omega) (by omega)]
      rw [nI_dec]
      refine go_iload_n dX2_countThrough_26 rfl ?_
      refine go_if_lt 52 dX2_countThrough_27 (by decide) (fun h => absurd h (nI_pos (by omega))) (fun h27 => ?_)
      refine go_aload_n dX2_countThrough_30 rfl ?_
      refine go_aload_n dX2_countThrough_31 rfl ?_
      refine go_getc dX2_countThrough_32 fX2_18 rfl (by decide) (by decide) (by decide) rfl ?_
      refine go_iload_n dX2_countThrough_35 rfl ?_
      refine go_bipush (nI 10) dX2_countThrough_36 (by decide +kernel) ?_
      first | refine go_imul_n dX2_countThrough_38 ?_ | refine go_imul dX2_countThrough_38 rfl ?_
      refine go_iload_n dX2_countThrough_39 rfl ?_
      first | refine go_iadd_n dX2_countThrough_40 ?_ | refine go_iadd dX2_countThrough_40 rfl ?_
      refine go_iald dX2_countThrough_41 rfl (by decide) rfl (by omega) (by decide) v1 ?_
      refine go_iload_n dX2_countThrough_42 rfl ?_
      refine go_callV0 (K' := kX2_countOn) [_, _] dX2_countThrough_43 mX2_94 lX2_countOn rfl (by decide) rfl (by decide) rfl rfl (Nat.le_of_ble_eq_true rfl) (Nat.le_of_ble_eq_true rfl) (c1) ?_
      refine go_iinc (L' := [_, _, _, _]) dX2_countThrough_46 rfl (by decide) rfl rfl ?_
      refine go_goto 26 dX2_countThrough_49 (by decide) ?_
      exact p3
  have out : ∀ n (x y : Nat → Int32), n ≤ 64 → (∀ i, i < 640 → x i = nI (TC gr lim W (n * 10) i)) → ∃ (x' y' : Nat → Int32), (∀ i, i < 640 → x' i = nI (TC gr lim W 0 i)) ∧ ∀ u, Go O (d + 4) kX2_countThrough none (mm m 44 45 x' y') 3 [.ref 41, .int (nI h), .int (nI n + Int32.ofInt (-1)), u] [] (mm m 44 45 x y) := by
    intro n
    induction n with
    | zero =>
      intro x y hn hx
      refine ⟨x, y, fun i hi => by rw [hx i hi, Nat.zero_mul], fun u => ?_⟩
      refine go_iload_n dX2_countThrough_3 rfl ?_
      refine go_if_lt 58 dX2_countThrough_4 (by decide) (fun h4 => ?_) (fun h => absurd (nI_m1lt 0) h)
      exact go_vret dX2_countThrough_58 rfl rfl rfl
    | succ k ih =>
      intro x y hn hx
      have hw : ∀ t, t ≤ lim → x (k * 10 + t) = nI (W (k * 10 + t)) ∧ W (k * 10 + t) < 2 ^ 31 := fun t ht => ⟨by rw [hx _ (by omega), TC_at (by omega) (by omega)], (hW _ (by omega)).2⟩
      have top : ∀ c, lim + 1 + c = 10 → ∀ i, TC gr lim W ((k + 1) * 10) i = TC gr lim W (k * 10 + (lim + 1)) i := by
        intro c hc i
        have g : ∀ e, e ≤ c → TC gr lim W (k * 10 + (lim + 1) + e) i = TC gr lim W (k * 10 + (lim + 1)) i := by
          intro e
          induction e with
          | zero => intro _; rfl
          | succ e ihe =>
            intro he
            have z := TC_s (gr := gr) (lim := lim) (W := W) (j := k * 10 + (lim + 1) + e) (i := i) (by omega)
            rw [hz (k * 10 + (lim + 1) + e) (by omega) (by omega), phS_w, ihe (by omega)] at z
            rw [← Nat.add_assoc]
            omega
        have z := g c (Nat.le_refl _)
        rwa [show k * 10 + (lim + 1) + c = (k + 1) * 10 by omega] at z
      rcases Classical.em (∃ t, t ≤ lim ∧ W (k * 10 + t) ≠ 0) with hq | hq
      · have cr := c_isReached (O := O) (d := d + 3) (m := mm m 44 45 x y) (W := W) (lim := lim) (k := k) (b := true) hl9 hl (by omega) hw ⟨fun _ => hq, fun _ => rfl⟩
        have cf := c_findNexts_29 (O := O) (d := d) (m := m) (h := h) (k := k) (gr := gr) (x := x) (y := y) hD hG hg hh (by omega)
        obtain ⟨x1, r1, r2⟩ := inn k (flV y (fun S => oI (-1) (bh gr S k)) 8) (by omega) (fun S hS => by rw [flV_at, if_pos hS]) (lim + 1) x (by omega) (fun i hi => by rw [hx i hi, top (9 - lim) (by omega)])
        obtain ⟨x', y', p1, p2⟩ := ih x1 (flV y (fun S => oI (-1) (bh gr S k)) 8) (by omega) r1
        refine ⟨x', y', p1, fun u => ?_⟩
        have r3 := r2 (mm m 44 45 x' y') (fun u => by
          refine go_iinc (L' := [_, _, _, _]) dX2_countThrough_52 rfl (by decide) rfl rfl ?_
          refine go_goto 3 dX2_countThrough_55 (by decide) ?_
          exact p2 _)
        rw [nI_dec] at r3 ⊢
        refine go_iload_n dX2_countThrough_3 rfl ?_
        refine go_if_lt 58 dX2_countThrough_4 (by decide) (fun h => absurd h (nI_pos (by omega))) (fun h4 => ?_)
        refine go_aload_n dX2_countThrough_7 rfl ?_
        refine go_iload_n dX2_countThrough_8 rfl ?_
        refine go_callV1 (K' := kX2_isReached) [_] dX2_countThrough_9 mX2_87 lX2_isReached rfl (by decide) rfl (by decide) rfl rfl (Nat.le_of_ble_eq_true rfl) (Nat.le_of_ble_eq_true rfl) (cr) ?_
        refine go_if_eq 52 dX2_countThrough_12 (by decide) (fun h => absurd h (by decide +kernel)) (fun h12 => ?_)
        refine go_aload_n dX2_countThrough_15 rfl ?_
        refine go_iload_n dX2_countThrough_16 rfl ?_
        refine go_iload_n dX2_countThrough_17 rfl ?_
        refine go_callV0 (K' := kX2_findNexts) [_, _] dX2_countThrough_18 mX2_90 lX2_findNexts rfl (by decide) rfl (by decide) rfl rfl (Nat.le_of_ble_eq_true rfl) (Nat.le_of_ble_eq_true rfl) (cf) ?_
        refine go_aload_n dX2_countThrough_21 rfl ?_
        refine go_geti dX2_countThrough_22 fX2_84 rfl (by decide) (by decide) (by decide) rfl hl ?_
        refine go_istore_n (L' := [_, _, _, _]) dX2_countThrough_25 (by decide) rfl ?_
        exact r3
      · have cr := c_isReached (O := O) (d := d + 3) (m := mm m 44 45 x y) (W := W) (lim := lim) (k := k) (b := false) hl9 hl (by omega) hw ⟨fun z => (by cases z), fun z => absurd z hq⟩
        have g : ∀ e, e ≤ lim + 1 → ∀ i, TC gr lim W (k * 10 + e) i = TC gr lim W (k * 10) i := by
          intro e
          induction e with
          | zero => intro _ i; rfl
          | succ e ihe =>
            intro he i
            have z := TC_s (gr := gr) (lim := lim) (W := W) (j := k * 10 + e) (i := i) (by omega)
            have wz : W (k * 10 + e) = 0 := by
              rcases Nat.eq_zero_or_pos (W (k * 10 + e)) with z | z
              · exact z
              · exact absurd ⟨e, by omega, by omega⟩ hq
            rw [wz, phS_w, ihe (by omega) i] at z
            rw [← Nat.add_assoc]
            omega
        obtain ⟨x', y', p1, p2⟩ := ih x y (by omega) (fun i hi => by rw [hx i hi, top (9 - lim) (by omega), g (lim + 1) (Nat.le_refl _)])
        refine ⟨x', y', p1, fun u => ?_⟩
        rw [nI_dec]
        refine go_iload_n dX2_countThrough_3 rfl ?_
        refine go_if_lt 58 dX2_countThrough_4 (by decide) (fun h => absurd h (nI_pos (by omega))) (fun h4 => ?_)
        refine go_aload_n dX2_countThrough_7 rfl ?_
        refine go_iload_n dX2_countThrough_8 rfl ?_
        refine go_callV1 (K' := kX2_isReached) [_] dX2_countThrough_9 mX2_87 lX2_isReached rfl (by decide) rfl (by decide) rfl rfl (Nat.le_of_ble_eq_true rfl) (Nat.le_of_ble_eq_true rfl) (cr) ?_
        refine go_if_eq 52 dX2_countThrough_12 (by decide) (fun h12 => ?_) (fun h => absurd (by decide +kernel) h)
        refine go_iinc (L' := [_, _, _, _]) dX2_countThrough_52 rfl (by decide) rfl rfl ?_
        refine go_goto 3 dX2_countThrough_55 (by decide) ?_
        exact p2 _
  obtain ⟨x', y', p1, p2⟩ := out 64 (m.1 44) (m.1 45) (Nat.le_refl _) (fun i hi => by rw [TC_at (by omega) (by omega)]; exact (hW i hi).1)
  refine ⟨x', y', fun i hi => by rw [p1 i hi, TC_0 hi hz], ?_⟩
  show Go O (d + 4) kX2_countThrough none _ 0 [.ref 41, .int (nI h), .null, .null] [] m
  refine go_mem (mm_id m 44 45).symm ?_
  refine go_bipush (nI 63) dX2_countThrough_0 (by decide +kernel) ?_
  refine go_istore_n (L' := [_, _, _, _]) dX2_countThrough_2 (by decide) rfl ?_
  exact p2 _
theorem c_findNexts_35 {O : gOm} {d : Nat} {m : gMem} {h k : Nat} {gr : Nat → Nat} {x y : Nat → Int32} (hD : m.2 2 = 35) (hG : ∀ a, a < 3 → m.1 37 (h * 3 + a) = nI (gr a)) (hg : ∀ a, gr a < 64) (hh : h < 6) (hk : k < 64) : Ca O (d + 3) kX2_findNexts [.ref 41, .int (nI h), .int (nI k)] none (mm m 44 45 x y) (mm m 44 45 x (flV y (fun S => oI (-1) (bh gr S k)) 8)) := by
  have key : ∀ q S, S + q = 8 → Go O (d + 3) kX2_findNexts none (mm m 44 45 x (flV y (fun S => oI (-1) (bh gr S k)) 8)) 2 [.ref 41, .int (nI h), .int (nI k), .int (nI S)] [] (mm m 44 45 x (flV y (fun S => oI (-1) (bh gr S k)) S)) := by
    intro q
    induction q with
    | zero =>
      intro S hS
      obtain rfl : S = 8 := by omega
      refine go_iload_n dX2_findNexts_2 rfl ?_
      refine go_bipush (nI 8) dX2_findNexts_3 (by decide +kernel) ?_
      refine go_icmp_ge 27 dX2_findNexts_5 (by decide) (fun h5 => ?_) (fun h => absurd (nI_le (by omega) (by omega)) h)
      exact go_vret dX2_findNexts_27 rfl rfl rfl
    | succ q ih =>
      intro S hS
      refine go_iload_n dX2_findNexts_2 rfl ?_
      refine go_bipush (nI 8) dX2_findNexts_3 (by decide +kernel) ?_
      refine go_icmp_ge 27 dX2_findNexts_5 (by decide) (fun h => absurd h (nI_ge (by omega) (by omega))) (fun h5 => ?_)
      refine go_aload_n dX2_findNexts_8 rfl ?_
      refine go_getc dX2_findNexts_9 fX2_21 rfl (by decide) (by decide) (by decide) rfl ?_
      refine go_iload_n dX2_findNexts_12 rfl ?_
      refine go_aload_n dX2_findNexts_13 rfl ?_
      refine go_iload_n dX2_findNexts_14 rfl ?_
      refine go_iload_n dX2_findNexts_15 rfl ?_
      refine go_iload_n dX2_findNexts_16 rfl ?_
      refine go_callV1 (K' := kX2_behind) [_, _, _] dX2_findNexts_17 mX2_38 lX2_behind rfl (by decide) rfl (by decide) rfl rfl (Nat.le_of_ble_eq_true rfl) (Nat.le_of_ble_eq_true rfl) (c_obh_35 hD hG hg hh (by omega) hk) ?_
      refine go_iast dX2_findNexts_20 rfl (by decide) rfl (by omega) (by decide) ?_
      rw [mm_2]
      refine go_iinc_n (L' := [_, _, _, _]) dX2_findNexts_21 rfl (by decide) rfl ?_
      refine go_goto 2 dX2_findNexts_24 (by decide) ?_
      exact ih (S + 1) (by omega)
  show Go O (d + 3) kX2_findNexts none _ 0 [.ref 41, .int (nI h), .int (nI k), .null] [] _
  refine go_iconst (nI 0) dX2_findNexts_0 (by decide +kernel) ?_
  refine go_istore_n (L' := [_, _, _, _]) dX2_findNexts_1 (by decide) rfl ?_
  exact key 8 0 (by omega)
theorem c_countThrough_35 {O : gOm} {d : Nat} {m : gMem} {h lim : Nat} {gr W : Nat → Nat} (hD : m.2 2 = 35) (hG : ∀ a, a < 3 → m.1 37 (h * 3 + a) = nI (gr a)) (hg : ∀ a, gr a < 64) (hh : h < 6) (hl9 : lim ≤ 9) (hl : m.1 41 6 = nI lim) (hz : ∀ j, j < 640 → lim < j % 10 → W j = 0) (hW : ∀ i, i < 640 → m.1 44 i = nI (W i) ∧ W i < 2 ^ 31) : ∃ x y : Nat → Int32, (∀ i, i < 640 → x i = nI (gW gr lim W i)) ∧ Ca O (d + 4) kX2_countThrough [.ref 41, .int (nI h)] none m (mm m 44 45 x y) := by
  have inn : ∀ (k : Nat) (y : Nat → Int32), k < 64 → (∀ S, S < 8 → y S = oI (-1) (bh gr S k)) → ∀ q (x : Nat → Int32), q ≤ lim + 1 → (∀ i, i < 640 → x i = nI (TC gr lim W (k * 10 + q) i)) → ∃ x' : Nat → Int32, (∀ i, i < 640 → x' i = nI (TC gr lim W (k * 10) i)) ∧ ∀ M, (∀ u, Go O (d + 4) kX2_countThrough none M 52 [.ref 41, .int (nI h), .int (nI k), u] [] (mm m 44 45 x' y)) → Go O (d + 4) kX2_countThrough none M 26 [.ref 41, .int (nI h), .int (nI k), .int (nI q + Int32.ofInt (-1))] [] (mm m 44 45 x y) := by
    intro k y hk hy q
    induction q with
    | zero =>
      intro x hq hx
      refine ⟨x, hx, fun M kk => ?_⟩
      refine go_iload_n dX2_countThrough_26 rfl ?_
      refine go_if_lt 52 dX2_countThrough_27 (by decide) (fun h27 => ?_) (fun h => absurd (nI_m1lt 0) h)
      exact kk _
    | succ q ih =>
      intro x hq hx
      have e1 : (k * 10 + q) / 10 = k := by omega
      have e2 : (k * 10 + q) % 10 = q := by omega
      obtain ⟨x1, r1, c1⟩ := c_countOn (O := O) (d := d + 2) (m := m) (gr := gr) (T := TC gr lim W (k * 10 + (q + 1))) (lim := lim) (w := W (k * 10 + q)) (j := k * 10 + q) (x := x) (y := y) hg hl9 hl (by omega) (hW _ (by omega)).2 hx (fun S hS => by rw [e1]; exact hy S hS)
      rw [e2] at c1
      obtain ⟨x', p1, p2⟩ := ih x1 (by omega) (fun i hi => by rw [r1 i hi, TC_s (j := k * 10 + q) (by omega)]; rfl)
      refine ⟨x', p1, fun M kk => ?_⟩
      have p3 := p2 M kk
      have v1 : x (k * 10 + q) = nI (W (k * 10 + q)) := by rw [hx _ (by omega), TC_at (by omega) (by omega)]
      rw [nI_dec]
      refine go_iload_n dX2_countThrough_26 rfl ?_
      refine go_if_lt 52 dX2_countThrough_27 (by decide) (fun h => absurd h (nI_pos (by omega))) (fun h27 => ?_)
      refine go_aload_n dX2_countThrough_30 rfl ?_
      refine go_aload_n dX2_countThrough_31 rfl ?_
      refine go_getc dX2_countThrough_32 fX2_18 rfl (by decide) (by decide) (by decide) rfl ?_
      refine go_iload_n dX2_countThrough_35 rfl ?_
      refine go_bipush (nI 10) dX2_countThrough_36 (by decide +kernel) ?_
      first | refine go_imul_n dX2_countThrough_38 ?_ | refine go_imul dX2_countThrough_38 rfl ?_
      refine go_iload_n dX2_countThrough_39 rfl ?_
      first | refine go_iadd_n dX2_countThrough_40 ?_ | refine go_iadd dX2_countThrough_40 rfl ?_
      refine go_iald dX2_countThrough_41 rfl (by decide) rfl (by omega) (by decide) v1 ?_
      refine go_iload_n dX2_countThrough_42 rfl ?_
      refine go_callV0 (K' := kX2_countOn) [_, _] dX2_countThrough_43 mX2_94 lX2_countOn rfl (by decide) rfl (by decide) rfl rfl (Nat.le_of_ble_eq_true rfl) (Nat.le_of_ble_eq_true rfl) (c1) ?_
      refine go_iinc (L' := [_, _, _, _]) dX2_countThrough_46 rfl (by decide) rfl rfl ?_
      refine go_goto 26 dX2_countThrough_49 (by decide) ?_
      exact p3
  have out : ∀ n (x y : Nat → Int32), n ≤ 64 → (∀ i, i < 640 → x i = nI (TC gr lim W (n * 10) i)) → ∃ (x' y' : Nat → Int32), (∀ i, i < 640 → x' i = nI (TC gr lim W 0 i)) ∧ ∀ u, Go O (d + 4) kX2_countThrough none (mm m 44 45 x' y') 3 [.ref 41, .int (nI h), .int (nI n + Int32.ofInt (-1)), u] [] (mm m 44 45 x y) := by
    intro n
    induction n with
    | zero =>
      intro x y hn hx
      refine ⟨x, y, fun i hi => by rw [hx i hi, Nat.zero_mul], fun u => ?_⟩
      refine go_iload_n dX2_countThrough_3 rfl ?_
      refine go_if_lt 58 dX2_countThrough_4 (by decide) (fun h4 => ?_) (fun h => absurd (nI_m1lt 0) h)
      exact go_vret dX2_countThrough_58 rfl rfl rfl
    | succ k ih =>
      intro x y hn hx
      have hw : ∀ t, t ≤ lim → x (k * 10 + t) = nI (W (k * 10 + t)) ∧ W (k * 10 + t) < 2 ^ 31 := fun t ht => ⟨by rw [hx _ (by omega), TC_at (by omega) (by omega)], (hW _ (by omega)).2⟩
      have top : ∀ c, lim + 1 + c = 10 → ∀ i, TC gr lim W ((k + 1) * 10) i = TC gr lim W (k * 10 + (lim + 1)) i := by
        intro c hc i
        have g : ∀ e, e ≤ c → TC gr lim W (k * 10 + (lim + 1) + e) i = TC gr lim W (k * 10 + (lim + 1)) i := by
          intro e
          induction e with
          | zero => intro _; rfl
          | succ e ihe =>
            intro he
            have z := TC_s (gr := gr) (lim := lim) (W := W) (j := k * 10 + (lim + 1) + e) (i := i) (by omega)
            rw [hz (k * 10 + (lim + 1) + e) (by omega) (by omega), phS_w, ihe (by omega)] at z
            rw [← Nat.add_assoc]
            omega
        have z := g c (Nat.le_refl _)
        rwa [show k * 10 + (lim + 1) + c = (k + 1) * 10 by omega] at z
      rcases Classical.em (∃ t, t ≤ lim ∧ W (k * 10 + t) ≠ 0) with hq | hq
      · have cr := c_isReached (O := O) (d := d + 3) (m := mm m 44 45 x y) (W := W) (lim := lim) (k := k) (b := true) hl9 hl (by omega) hw ⟨fun _ => hq, fun _ => rfl⟩
        have cf := c_findNexts_35 (O := O) (d := d) (m := m) (h := h) (k := k) (gr := gr) (x := x) (y := y) hD hG hg hh (by omega)
        obtain ⟨x1, r1, r2⟩ := inn k (flV y (fun S => oI (-1) (bh gr S k)) 8) (by omega) (fun S hS => by rw [flV_at, if_pos hS]) (lim + 1) x (by omega) (fun i hi => by rw [hx i hi, top (9 - lim) (by omega)])
        obtain ⟨x', y', p1, p2⟩ := ih x1 (flV y (fun S => oI (-1) (bh gr S k)) 8) (by omega) r1
        refine ⟨x', y', p1, fun u => ?_⟩
        have r3 := r2 (mm m 44 45 x' y') (fun u => by
          refine go_iinc (L' := [_, _, _, _]) dX2_countThrough_52 rfl (by decide) rfl rfl ?_
          refine go_goto 3 dX2_countThrough_55 (by decide) ?_
          exact p2 _)
        rw [nI_dec] at r3 ⊢
        refine go_iload_n dX2_countThrough_3 rfl ?_
        refine go_if_lt 58 dX2_countThrough_4 (by decide) (fun h => absurd h (nI_pos (by omega))) (fun h4 => ?_)
        refine go_aload_n dX2_countThrough_7 rfl ?_
        refine go_iload_n dX2_countThrough_8 rfl ?_
        refine go_callV1 (K' := kX2_isReached) [_] dX2_countThrough_9 mX2_87 lX2_isReached rfl (by decide) rfl (by decide) rfl rfl (Nat.le_of_ble_eq_true rfl) (Nat.le_of_ble_eq_true rfl) (cr) ?_
        refine go_if_eq 52 dX2_countThrough_12 (by decide) (fun h => absurd h (by decide +kernel)) (fun h12 => ?_)
        refine go_aload_n dX2_countThrough_15 rfl ?_
        refine go_iload_n dX2_countThrough_16 rfl ?_
        refine go_iload_n dX2_countThrough_17 rfl ?_
        refine go_callV0 (K' := kX2_findNexts) [_, _] dX2_countThrough_18 mX2_90 lX2_findNexts rfl (by decide) rfl (by decide) rfl rfl (Nat.le_of_ble_eq_true rfl) (Nat.le_of_ble_eq_true rfl) (cf) ?_
        refine go_aload_n dX2_countThrough_21 rfl ?_
        refine go_geti dX2_countThrough_22 fX2_84 rfl (by decide) (by decide) (by decide) rfl hl ?_
        refine go_istore_n (L' := [_, _, _, _]) dX2_countThrough_25 (by decide) rfl ?_
        exact r3
      · have cr := c_isReached (O := O) (d := d + 3) (m := mm m 44 45 x y) (W := W) (lim := lim) (k := k) (b := false) hl9 hl (by omega) hw ⟨fun z => (by cases z), fun z => absurd z hq⟩
        have g : ∀ e, e ≤ lim + 1 → ∀ i, TC gr lim W (k * 10 + e) i = TC gr lim W (k * 10) i := by
          intro e
          induction e with
          | zero => intro _ i; rfl
          | succ e ihe =>
            intro he i
            have z := TC_s (gr := gr) (lim := lim) (W := W) (j := k * 10 + e) (i := i) (by omega)
            have wz : W (k * 10 + e) = 0 := by
              rcases Nat.eq_zero_or_pos (W (k * 10 + e)) with z | z
              · exact z
              · exact absurd ⟨e, by omega, by omega⟩ hq
            rw [wz, phS_w, ihe (by omega) i] at z
            rw [← Nat.add_assoc]
            omega
        obtain ⟨x', y', p1, p2⟩ := ih x y (by omega) (fun i hi => by rw [hx i hi, top (9 - lim) (by omega), g (lim + 1) (Nat.le_refl _)])
        refine ⟨x', y', p1, fun u => ?_⟩
        rw [nI_dec]
        refine go_iload_n dX2_countThrough_3 rfl ?_
        refine go_if_lt 58 dX2_countThrough_4 (by decide) (fun h => absurd h (nI_pos (by omega))) (fun h4 => ?_)
        refine go_aload_n dX2_countThrough_7 rfl ?_
        refine go_iload_n dX2_countThrough_8 rfl ?_
        refine go_callV1 (K' := kX2_isReached) [_] dX2_countThrough_9 mX2_87 lX2_isReached rfl (by decide) rfl (by decide) rfl rfl (Nat.le_of_ble_eq_true rfl) (Nat.le_of_ble_eq_true rfl) (cr) ?_
        refine go_if_eq 52 dX2_countThrough_12 (by decide) (fun h12 => ?_) (fun h => absurd (by decide +kernel) h)
        refine go_iinc (L' := [_, _, _, _]) dX2_countThrough_52 rfl (by decide) rfl rfl ?_
        refine go_goto 3 dX2_countThrough_55 (by decide) ?_
        exact p2 _
  obtain ⟨x', y', p1, p2⟩ := out 64 (m.1 44) (m.1 45) (Nat.le_refl _) (fun i hi => by rw [TC_at (by omega) (by omega)]; exact (hW i hi).1)
  refine ⟨x', y', fun i hi => by rw [p1 i hi, TC_0 hi hz], ?_⟩
  show Go O (d + 4) kX2_countThrough none _ 0 [.ref 41, .int (nI h), .null, .null] [] m
  refine go_mem (mm_id m 44 45).symm ?_
  refine go_bipush (nI 63) dX2_countThrough_0 (by decide +kernel) ?_
  refine go_istore_n (L' := [_, _, _, _]) dX2_countThrough_2 (by decide) rfl ?_
  exact p2 _
