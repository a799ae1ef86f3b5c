/-! WHAT CAN BE REACHED -/
theorem bhA_ge {gr : Nat → Nat} {S k : Nat} : ∀ {j s : Nat}, bhA gr S k j = some s → k ≤ s
  | 0, s, h => by
    simp only [bhA, Option.some.injEq] at h
    omega
  | j + 1, s, h => by
    simp only [bhA] at h
    cases hb : bhA gr S k j with
    | none => rw [hb] at h; cases h
    | some z =>
      rw [hb] at h
      dsimp only at h
      have hz := bhA_ge hb
      by_cases h1 : S.testBit j = true
      · rw [if_pos h1] at h
        by_cases h2 : canB (gr j) k = true
        · rw [if_pos h2] at h
          cases h
          exact Nat.le_trans hz Nat.left_le_or
        · rw [if_neg h2] at h; cases h
      · rw [if_neg h1] at h
        cases h
        exact hz
theorem bh_ge {gr : Nat → Nat} {S k s : Nat} (h : bh gr S k = some s) : k ≤ s := bhA_ge h
/-- from hour h0 on, k0 knowing: behind c hours k can know it by t tellings, none of the barred ever -/
def Re (G : Nat → Nat → Nat) (bar h0 k0 : Nat) : Nat → Nat → Nat → Prop
  | 0, k, t => k = k0 ∧ t = 0 ∧ k0 &&& bar = 0
  | c + 1, k', t' => ∃ k t S, k < 64 ∧ S < 8 ∧ Re G bar h0 k0 c k t ∧ bh (G (h0 + c)) S k = some k' ∧ k' &&& bar = 0 ∧ t' = t + pc6 S
theorem Re_bar {G : Nat → Nat → Nat} {bar h0 k0 : Nat} : ∀ {c k t}, Re G bar h0 k0 c k t → k &&& bar = 0
  | 0, k, t, h => by rw [h.1]; exact h.2.2
  | c + 1, k, t, h => by
    obtain ⟨_, _, _, _, _, _, _, h7, _⟩ := h
    exact h7
theorem Re_le {G : Nat → Nat → Nat} {bar h0 k0 : Nat} : ∀ {c k t}, Re G bar h0 k0 c k t → t ≤ 6 * c
  | 0, k, t, h => by rw [h.2.1]; omega
  | c + 1, k, t, h => by
    obtain ⟨k1, t1, S, _, _, h5, _, _, e⟩ := h
    have := Re_le h5
    have := pc6_le S
    omega
/-- sets of what can be left, by who knows it -/
def LfOk (G : Nat → Nat → Nat) (bar h0 k0 left c : Nat) (g : Nat → Int32) : Prop := ∃ F : Nat → Nat, (∀ k, k < 64 → g k = nI (F k) ∧ F k < 1024) ∧ ∀ k, k < 64 → ∀ b, (F k).testBit b = true ↔ ∃ t, t + b = left ∧ Re G bar h0 k0 c k t
/-- one hour -/
def GtS (gr : Nat → Nat) (bar : Nat) (F F' : Nat → Nat) : Prop := ∀ i, i < 64 → ∀ b, (F' i).testBit b = true ↔ (F i).testBit b = true ∨ ∃ k S, k < 64 ∧ 1 ≤ S ∧ S < 8 ∧ bh gr S k = some i ∧ i &&& bar = 0 ∧ (F k).testBit (b + pc6 S) = true
theorem LfOk.go {G : Nat → Nat → Nat} {bar h0 k0 left c : Nat} {F F' : Nat → Nat} (hF : ∀ k, k < 64 → ∀ b, (F k).testBit b = true ↔ ∃ t, t + b = left ∧ Re G bar h0 k0 c k t) (h : GtS (G (h0 + c)) bar F F') : ∀ k, k < 64 → ∀ b, (F' k).testBit b = true ↔ ∃ t, t + b = left ∧ Re G bar h0 k0 (c + 1) k t := by
  intro i hi b
  rw [h i hi b]
  constructor
  · rintro (q | ⟨k, S, h1, h2, h3, h4, h5, h6⟩)
    · obtain ⟨t, e, hr⟩ := (hF i hi b).mp q
      exact ⟨t, e, i, t, 0, hi, by omega, hr, bh_0 _ _, Re_bar hr, rfl⟩
    · obtain ⟨t, e, hr⟩ := (hF k h1 _).mp h6
      exact ⟨t + pc6 S, by omega, k, t, S, h1, h3, hr, h4, h5, rfl⟩
  · rintro ⟨t', e, k, t, S, h1, h2, h3, h4, h5, h6⟩
    by_cases hS : S = 0
    · subst hS
      rw [bh_0] at h4
      have e4 := Option.some.inj h4
      rw [e4] at h3
      exact Or.inl ((hF i hi b).mpr ⟨t, by simp only [show pc6 0 = 0 from rfl] at h6; omega, h3⟩)
    · exact Or.inr ⟨k, S, h1, by omega, h2, h4, h5, (hF k h1 _).mpr ⟨t, by omega, h3⟩⟩
theorem LfOk.st {G : Nat → Nat → Nat} {bar h0 k0 left : Nat} {f : Nat → Int32} (hb : k0 &&& bar = 0) (hk : k0 < 64) (hl : left ≤ 9) : LfOk G bar h0 k0 left 0 (upd (flP f (nI 0) 64) k0 (nI (2 ^ left))) := by
  have h2 : 2 ^ left < 1024 := Nat.lt_of_le_of_lt (Nat.pow_le_pow_right (n := 2) (by omega) hl) (by omega)
  refine ⟨fun k => if k = k0 then 2 ^ left else 0, fun k hk' => ?_, fun k hk' b => ?_⟩ <;> dsimp only
  · by_cases e : k = k0
    · rw [e, upd_s, if_pos rfl]
      exact ⟨rfl, h2⟩
    · rw [upd_n _ _ e, if_neg e, flP_at, if_pos hk']
      exact ⟨rfl, by omega⟩
  · by_cases e : k = k0
    · rw [if_pos e]
      constructor
      · intro q
        rw [Nat.testBit_two_pow] at q
        have := of_decide_eq_true q
        exact ⟨0, by omega, e, rfl, hb⟩
      · rintro ⟨t, e1, e2, e3, -⟩
        rw [Nat.testBit_two_pow]
        exact decide_eq_true (by omega)
    · rw [if_neg e]
      constructor
      · intro q
        simp at q
      · rintro ⟨t, e1, e2, -, -⟩
        exact absurd e2 e
theorem c_goThrough_29 {O : gOm} {d : Nat} {m : gMem} {h bar : Nat} {gr F : Nat → Nat} (hD : m.2 2 = 29) (hG : ∀ a, a < 3 → m.1 31 (h * 3 + a) = nI (gr a)) (hg : ∀ a, gr a < 64) (hh : h < 6) (hb : bar < 64) (hF : ∀ k, k < 64 → m.1 43 k = nI (F k) ∧ F k < 1024) : ∃ (g' : Nat → Int32) (F' : Nat → Nat), (∀ k, k < 64 → g' k = nI (F' k) ∧ F' k < 1024) ∧ GtS gr bar F F' ∧ Ca O (d + 3) kX2_goThrough [.ref 41, .int (nI h), .int (nI bar)] none m (gupA m 43 g') := by
  -- the places
  have inn : ∀ (k L : Nat), k < 64 → L < 1024 → L ≠ 0 → ∀ n S (g : Nat → Int32) (F : Nat → Nat), S + n = 8 → (∀ i, i < 64 → g i = nI (F i) ∧ F i < 1024) → ∃ (g' : Nat → Int32) (F' : Nat → Nat), (∀ i, i < 64 → g' i = nI (F' i) ∧ F' i < 1024) ∧ (∀ i, i < 64 → ∀ b, (F' i).testBit b = true ↔ (F i).testBit b = true ∨ ∃ S', S ≤ S' ∧ S' < 8 ∧ bh gr S' k = some i ∧ i &&& bar = 0 ∧ L.testBit (b + pc6 S') = true) ∧ ∀ M, (∀ x y, Go O (d + 3) kX2_goThrough none M 76 [.ref 41, .int (nI h), .int (nI bar), .int (nI k), .int (nI L), x, y] [] (gupA m 43 g')) → ∀ x, Go O (d + 3) kX2_goThrough none M 18 [.ref 41, .int (nI h), .int (nI bar), .int (nI k), .int (nI L), .int (nI S), x] [] (gupA m 43 g) := by
    intro k L hk hL hL0 n
    induction n with
    | zero =>
      intro S g F hS hgF
      refine ⟨g, F, hgF, fun i hi b => ⟨Or.inl, fun q => q.elim id (fun ⟨S', a1, a2, _⟩ => absurd a1 (by omega))⟩, fun M kk x => ?_⟩
      refine go_iload dX2_goThrough_18 rfl ?_
      refine go_if_eq 76 dX2_goThrough_20 (by decide) (fun h => absurd h (fun q => hL0 ((nI_eq (b := 0) (by omega) (by omega)).mp q))) (fun h20 => ?_)
      refine go_iload dX2_goThrough_23 rfl ?_
      refine go_bipush (nI 8) dX2_goThrough_25 (by decide +kernel) ?_
      refine go_icmp_ge 76 dX2_goThrough_27 (by decide) (fun h27 => ?_) (fun h => absurd (nI_le (by omega) (by omega)) h)
      exact kk _ _
    | succ n ih =>
      intro S g F hS hgF
      have cb := c_obh_29 (O := O) (d := d) (m := gupA m 43 g) (k := k) (gr := gr) (S := S) (h := h) hD hG hg hh (by omega) hk
      have step : ∀ (g1 : Nat → Int32) (F1 : Nat → Nat), (∀ i, i < 64 → g1 i = nI (F1 i) ∧ F1 i < 1024) → (∀ i, i < 64 → ∀ b, (F1 i).testBit b = true ↔ (F i).testBit b = true ∨ (bh gr S k = some i ∧ i &&& bar = 0 ∧ L.testBit (b + pc6 S) = true)) → (∀ M, (∀ x, Go O (d + 3) kX2_goThrough none M 70 [.ref 41, .int (nI h), .int (nI bar), .int (nI k), .int (nI L), .int (nI S), x] [] (gupA m 43 g1)) → ∀ x, Go O (d + 3) kX2_goThrough none M 18 [.ref 41, .int (nI h), .int (nI bar), .int (nI k), .int (nI L), .int (nI S), x] [] (gupA m 43 g)) → ∃ (g' : Nat → Int32) (F' : Nat → Nat), (∀ i, i < 64 → g' i = nI (F' i) ∧ F' i < 1024) ∧ (∀ i, i < 64 → ∀ b, (F' i).testBit b = true ↔ (F i).testBit b = true ∨ ∃ S', S ≤ S' ∧ S' < 8 ∧ bh gr S' k = some i ∧ i &&& bar = 0 ∧ L.testBit (b + pc6 S') = true) ∧ ∀ M, (∀ x y, Go O (d + 3) kX2_goThrough none M 76 [.ref 41, .int (nI h), .int (nI bar), .int (nI k), .int (nI L), x, y] [] (gupA m 43 g')) → ∀ x, Go O (d + 3) kX2_goThrough none M 18 [.ref 41, .int (nI h), .int (nI bar), .int (nI k), .int (nI L), .int (nI S), x] [] (gupA m 43 g) := by
        intro g1 F1 v1 e1 hgo
        obtain ⟨g', F', q1, q2, q3⟩ := ih (S + 1) g1 F1 (by omega) v1
        refine ⟨g', F', q1, fun i hi b => ?_, fun M kk => hgo M (fun x => ?_)⟩
        · rw [q2 i hi b, e1 i hi b]
          constructor
          · rintro ((z | z) | ⟨S', a1, a2⟩)
            · exact Or.inl z
            · exact Or.inr ⟨S, Nat.le_refl _, by omega, z⟩
            · exact Or.inr ⟨S', by omega, a2⟩
          · rintro (z | ⟨S', a1, a2, a3⟩)
            · exact Or.inl (Or.inl z)
            · rcases Nat.lt_or_ge S S' with z | z
              · exact Or.inr ⟨S', z, a2, a3⟩
              · obtain rfl : S' = S := by omega
                exact Or.inl (Or.inr a3)
        · have q4 := q3 M kk
          refine go_iinc_n (L' := [_, _, _, _, _, _, _]) dX2_goThrough_70 rfl (by decide) rfl ?_
          refine go_goto 18 dX2_goThrough_73 (by decide) ?_
          exact q4 _
      cases hbh : bh gr S k with
      | none =>
        rw [hbh] at cb
        rw [hbh] at step
        refine step g F hgF (fun i hi b => ⟨Or.inl, fun q => q.elim id (fun z => by cases z.1)⟩) (fun M kk x => ?_)
        refine go_iload dX2_goThrough_18 rfl ?_
        refine go_if_eq 76 dX2_goThrough_20 (by decide) (fun h => absurd h (fun q => hL0 ((nI_eq (b := 0) (by omega) (by omega)).mp q))) (fun h20 => ?_)
        refine go_iload dX2_goThrough_23 rfl ?_
        refine go_bipush (nI 8) dX2_goThrough_25 (by decide +kernel) ?_
        refine go_icmp_ge 76 dX2_goThrough_27 (by decide) (fun h => absurd h (nI_ge (by omega) (by omega))) (fun h27 => ?_)
        refine go_aload_n dX2_goThrough_30 rfl ?_
        refine go_iload_n dX2_goThrough_31 rfl ?_
        refine go_iload dX2_goThrough_32 rfl ?_
        refine go_iload_n dX2_goThrough_34 rfl ?_
        refine go_callV1 (K' := kX2_behind) [_, _, _] dX2_goThrough_35 mX2_38 lX2_behind rfl (by decide) rfl (by decide) rfl rfl (Nat.le_of_ble_eq_true rfl) (Nat.le_of_ble_eq_true rfl) (cb) ?_
        refine go_istore (L' := [_, _, _, _, _, _, _]) dX2_goThrough_38 (by decide) rfl ?_
        refine go_iload dX2_goThrough_40 rfl ?_
        refine go_if_lt 70 dX2_goThrough_42 (by decide) (fun h42 => ?_) (fun h => absurd (by decide +kernel) h)
        exact kk _
      | some i0 =>
        rw [hbh] at cb
        rw [hbh] at step
        have hi0 := bh_lt hk hg hbh
        have hand : i0 &&& bar < 64 := Nat.and_lt_two_pow (n := 6) _ hb
        have hS6 := pc6_le S
        by_cases hbr : i0 &&& bar = 0
        · obtain ⟨v1, v2⟩ := hgF i0 hi0
          have hsh : L / 2 ^ pc6 S < 1024 := Nat.lt_of_le_of_lt (Nat.div_le_self _ _) hL
          refine step (upd g i0 (nI (F i0 ||| L / 2 ^ pc6 S))) (fun i => if i = i0 then F i ||| L / 2 ^ pc6 S else F i) (fun i hi => ?_) (fun i hi b => ?_) (fun M kk x => ?_)
          · skip
            by_cases e : i = i0
            · rw [e, upd_s, if_pos rfl]
              exact ⟨rfl, Nat.or_lt_two_pow (n := 10) v2 hsh⟩
            · rw [upd_n _ _ e, if_neg e]
              exact hgF i hi
          · skip
            by_cases e : i = i0
            · rw [if_pos e, e, Nat.testBit_or, Nat.testBit_div_two_pow]
              constructor
              · intro q
                rcases Bool.or_eq_true_iff.mp q with z | z
                · exact Or.inl z
                · exact Or.inr ⟨rfl, hbr, by rw [Nat.add_comm]; first | exact z | (rw [Nat.add_comm]; exact z)⟩
              · rintro (z | ⟨-, -, z⟩)
                · rw [z]; rfl
                · rw [Bool.or_eq_true]
                  exact Or.inr (by first | exact z | (rw [Nat.add_comm]; exact z))
            · rw [if_neg e]
              exact ⟨Or.inl, fun q => q.elim id (fun z => absurd (Option.some.inj z.1).symm e)⟩
          · have ev : nI (F i0) ||| nI L >>> (nI (pc6 S) &&& 31) = nI (F i0 ||| L / 2 ^ pc6 S) := by rw [nb_shr (by omega) (by omega), nb_or]
            refine go_iload dX2_goThrough_18 rfl ?_
            refine go_if_eq 76 dX2_goThrough_20 (by decide) (fun h => absurd h (fun q => hL0 ((nI_eq (b := 0) (by omega) (by omega)).mp q))) (fun h20 => ?_)
            refine go_iload dX2_goThrough_23 rfl ?_
            refine go_bipush (nI 8) dX2_goThrough_25 (by decide +kernel) ?_
            refine go_icmp_ge 76 dX2_goThrough_27 (by decide) (fun h => absurd h (nI_ge (by omega) (by omega))) (fun h27 => ?_)
            refine go_aload_n dX2_goThrough_30 rfl ?_
            refine go_iload_n dX2_goThrough_31 rfl ?_
            refine go_iload dX2_goThrough_32 rfl ?_
            refine go_iload_n dX2_goThrough_34 rfl ?_
            refine go_callV1 (K' := kX2_behind) [_, _, _] dX2_goThrough_35 mX2_38 lX2_behind rfl (by decide) rfl (by decide) rfl rfl (Nat.le_of_ble_eq_true rfl) (Nat.le_of_ble_eq_true rfl) (cb) ?_
            refine go_istore (L' := [_, _, _, _, _, _, _]) dX2_goThrough_38 (by decide) rfl ?_
            refine go_iload dX2_goThrough_40 rfl ?_
            refine go_if_lt 70 dX2_goThrough_42 (by decide) (fun h => absurd h (nI_pos (by omega))) (fun h42 => ?_)
            refine go_iload dX2_goThrough_45 rfl ?_
            refine go_iload_n dX2_goThrough_47 rfl ?_
            refine go_iand dX2_goThrough_48 (nb_and _ _) ?_
            refine go_if_ne 70 dX2_goThrough_49 (by decide) (fun h => absurd h (fun q => q (by rw [hbr]; rfl))) (fun h49 => ?_)
            refine go_aload_n dX2_goThrough_52 rfl ?_
            refine go_getc dX2_goThrough_53 fX2_15 rfl (by decide) (by decide) (by decide) rfl ?_
            refine go_iload dX2_goThrough_56 rfl ?_
            refine go_dup2 dX2_goThrough_58 rfl rfl ?_
            refine go_ialdA dX2_goThrough_59 rfl (by decide) rfl (by omega) (by decide) v1 ?_
            refine go_iload dX2_goThrough_60 rfl ?_
            refine go_iload dX2_goThrough_62 rfl ?_
            refine go_callS1 (K' := kJ6_bitCount_0f7a4) [_] dX2_goThrough_64 mX2_60 lJ6_bitCount_0f7a4 rfl rfl (Nat.le_of_ble_eq_true rfl) (Nat.le_of_ble_eq_true rfl) (c_bitCount (by omega)) ?_
            refine go_ishr dX2_goThrough_67 rfl ?_
            refine go_ior dX2_goThrough_68 ev ?_
            refine go_iastA dX2_goThrough_69 rfl (by decide) rfl (by omega) (by decide) ?_
            exact kk _
        · refine step g F hgF (fun i hi b => ⟨Or.inl, fun q => q.elim id (fun z => absurd z.2.1 (by rw [← Option.some.inj z.1]; exact hbr))⟩) (fun M kk x => ?_)
          refine go_iload dX2_goThrough_18 rfl ?_
          refine go_if_eq 76 dX2_goThrough_20 (by decide) (fun h => absurd h (fun q => hL0 ((nI_eq (b := 0) (by omega) (by omega)).mp q))) (fun h20 => ?_)
          refine go_iload dX2_goThrough_23 rfl ?_
          refine go_bipush (nI 8) dX2_goThrough_25 (by decide +kernel) ?_
          refine go_icmp_ge 76 dX2_goThrough_27 (by decide) (fun h => absurd h (nI_ge (by omega) (by omega))) (fun h27 => ?_)
          refine go_aload_n dX2_goThrough_30 rfl ?_
          refine go_iload_n dX2_goThrough_31 rfl ?_
          refine go_iload dX2_goThrough_32 rfl ?_
          refine go_iload_n dX2_goThrough_34 rfl ?_
          refine go_callV1 (K' := kX2_behind) [_, _, _] dX2_goThrough_35 mX2_38 lX2_behind rfl (by decide) rfl (by decide) rfl rfl (Nat.le_of_ble_eq_true rfl) (Nat.le_of_ble_eq_true rfl) (cb) ?_
          refine go_istore (L' := [_, _, _, _, _, _, _]) dX2_goThrough_38 (by decide) rfl ?_
          refine go_iload dX2_goThrough_40 rfl ?_
          refine go_if_lt 70 dX2_goThrough_42 (by decide) (fun h => absurd h (nI_pos (by omega))) (fun h42 => ?_)
          refine go_iload dX2_goThrough_45 rfl ?_
          refine go_iload_n dX2_goThrough_47 rfl ?_
          refine go_iand dX2_goThrough_48 (nb_and _ _) ?_
          refine go_if_ne 70 dX2_goThrough_49 (by decide) (fun h49 => ?_) (fun h => absurd h (fun q => hbr ((nI_eq (b := 0) (by omega) (by omega)).mp q)))
          exact kk _
  -- the sets
  have out : ∀ n (g : Nat → Int32) (F : Nat → Nat), n ≤ 64 → (∀ i, i < 64 → g i = nI (F i) ∧ F i < 1024) → ∃ (g' : Nat → Int32) (F' : Nat → Nat), (∀ i, i < 64 → g' i = nI (F' i) ∧ F' i < 1024) ∧ (∀ i, i < 64 → ∀ b, (F' i).testBit b = true ↔ (F i).testBit b = true ∨ ∃ k S, k < n ∧ 1 ≤ S ∧ S < 8 ∧ bh gr S k = some i ∧ i &&& bar = 0 ∧ (F k).testBit (b + pc6 S) = true) ∧ ∀ x y z, Go O (d + 3) kX2_goThrough none (gupA m 43 g') 3 [.ref 41, .int (nI h), .int (nI bar), .int (nI n + Int32.ofInt (-1)), x, y, z] [] (gupA m 43 g) := by
    intro n
    induction n with
    | zero =>
      intro g F hn hgF
      refine ⟨g, F, hgF, fun i hi b => ⟨Or.inl, fun q => q.elim id (fun ⟨_, _, a1, _⟩ => absurd a1 (by omega))⟩, fun x y z => ?_⟩
      refine go_iload_n dX2_goThrough_3 rfl ?_
      refine go_if_lt 82 dX2_goThrough_4 (by decide) (fun h4 => ?_) (fun h => absurd (nI_m1lt 0) h)
      exact go_vret dX2_goThrough_82 rfl rfl rfl
    | succ n ih =>
      intro g F hn hgF
      obtain ⟨v1, v2⟩ := hgF n (by omega)
      by_cases hL0 : F n = 0
      · obtain ⟨g', F', q1, q2, q3⟩ := ih g F (by omega) hgF
        refine ⟨g', F', q1, fun i hi b => ?_, fun x y z => ?_⟩
        · rw [q2 i hi b]
          constructor
          · rintro (z | ⟨k, S, a1, a2⟩)
            · exact Or.inl z
            · exact Or.inr ⟨k, S, by omega, a2⟩
          · rintro (z | ⟨k, S, a1, a2, a3, a4, a5, a6⟩)
            · exact Or.inl z
            · refine Or.inr ⟨k, S, ?_, a2, a3, a4, a5, a6⟩
              rcases Nat.lt_or_ge k n with z | z
              · exact z
              · obtain rfl : k = n := by omega
                rw [hL0] at a6
                simp at a6
        · rw [nI_dec]
          refine go_iload_n dX2_goThrough_3 rfl ?_
          refine go_if_lt 82 dX2_goThrough_4 (by decide) (fun h => absurd h (nI_pos (by omega))) (fun h4 => ?_)
          refine go_aload_n dX2_goThrough_7 rfl ?_
          refine go_getc dX2_goThrough_8 fX2_15 rfl (by decide) (by decide) (by decide) rfl ?_
          refine go_iload_n dX2_goThrough_11 rfl ?_
          refine go_ialdA dX2_goThrough_12 rfl (by decide) rfl (by omega) (by decide) v1 ?_
          refine go_istore (L' := [_, _, _, _, _, _, _]) dX2_goThrough_13 (by decide) rfl ?_
          refine go_iconst (nI 1) dX2_goThrough_15 (by decide +kernel) ?_
          refine go_istore (L' := [_, _, _, _, _, _, _]) dX2_goThrough_16 (by decide) rfl ?_
          refine go_iload dX2_goThrough_18 rfl ?_
          refine go_if_eq 76 dX2_goThrough_20 (by decide) (fun h20 => ?_) (fun h => absurd (by rw [hL0]; rfl) h)
          refine go_iinc (L' := [_, _, _, _, _, _, _]) dX2_goThrough_76 rfl (by decide) rfl rfl ?_
          refine go_goto 3 dX2_goThrough_79 (by decide) ?_
          exact q3 _ _ _
      · obtain ⟨g1, F1, p1, p2, p3⟩ := inn n (F n) (by omega) v2 hL0 7 1 g F (by omega) hgF
        obtain ⟨g', F', q1, q2, q3⟩ := ih g1 F1 (by omega) p1
        have same : ∀ k, k < n → ∀ b, (F1 k).testBit b = true ↔ (F k).testBit b = true := by
          intro k hk b
          rw [p2 k (by omega) b]
          exact ⟨fun q => q.elim id (fun ⟨S', _, _, a3, _⟩ => absurd (bh_ge a3) (by omega)), Or.inl⟩
        refine ⟨g', F', q1, fun i hi b => ?_, fun x y z => ?_⟩
        · rw [q2 i hi b, p2 i hi b]
          constructor
          · rintro ((z | ⟨S, a1, a2, a3⟩) | ⟨k, S, a1, a2, a3, a4, a5, a6⟩)
            · exact Or.inl z
            · exact Or.inr ⟨n, S, by omega, a1, a2, a3⟩
            · exact Or.inr ⟨k, S, by omega, a2, a3, a4, a5, (same k a1 _).mp a6⟩
          · rintro (z | ⟨k, S, a1, a2, a3, a4, a5, a6⟩)
            · exact Or.inl (Or.inl z)
            · rcases Nat.lt_or_ge k n with z | z
              · exact Or.inr ⟨k, S, z, a2, a3, a4, a5, (same k z _).mpr a6⟩
              · obtain rfl : k = n := by omega
                exact Or.inl (Or.inr ⟨S, a2, a3, a4, a5, a6⟩)
        · rw [nI_dec]
          have fin : ∀ x y, Go O (d + 3) kX2_goThrough none (gupA m 43 g') 76 [.ref 41, .int (nI h), .int (nI bar), .int (nI n), .int (nI (F n)), x, y] [] (gupA m 43 g1) := by
            intro x y
            refine go_iinc (L' := [_, _, _, _, _, _, _]) dX2_goThrough_76 rfl (by decide) rfl rfl ?_
            refine go_goto 3 dX2_goThrough_79 (by decide) ?_
            exact q3 _ _ _
          have p4 := p3 _ fin
          refine go_iload_n dX2_goThrough_3 rfl ?_
          refine go_if_lt 82 dX2_goThrough_4 (by decide) (fun h => absurd h (nI_pos (by omega))) (fun h4 => ?_)
          refine go_aload_n dX2_goThrough_7 rfl ?_
          refine go_getc dX2_goThrough_8 fX2_15 rfl (by decide) (by decide) (by decide) rfl ?_
          refine go_iload_n dX2_goThrough_11 rfl ?_
          refine go_ialdA dX2_goThrough_12 rfl (by decide) rfl (by omega) (by decide) v1 ?_
          refine go_istore (L' := [_, _, _, _, _, _, _]) dX2_goThrough_13 (by decide) rfl ?_
          refine go_iconst (nI 1) dX2_goThrough_15 (by decide +kernel) ?_
          refine go_istore (L' := [_, _, _, _, _, _, _]) dX2_goThrough_16 (by decide) rfl ?_
          exact p4 _
  obtain ⟨g', F', q1, q2, q3⟩ := out 64 (m.1 43) F (Nat.le_refl _) hF
  refine ⟨g', F', q1, q2, ?_⟩
  show Go O (d + 3) kX2_goThrough none _ 0 [.ref 41, .int (nI h), .int (nI bar), .null, .null, .null, .null] [] m
  refine go_mem (gupA_self m 43).symm ?_
  refine go_bipush (nI 63) dX2_goThrough_0 (by decide +kernel) ?_
  refine go_istore_n (L' := [_, _, _, _, _, _, _]) dX2_goThrough_2 (by decide) rfl ?_
  exact q3 _ _ _
theorem c_goThrough_35 {O : gOm} {d : Nat} {m : gMem} {h bar : Nat} {gr F : Nat → Nat} (hD : m.2 2 = 35) (hG : ∀ a, a < 3 → m.1 37 (h * 3 + a) = nI (gr a)) (hg : ∀ a, gr a < 64) (hh : h < 6) (hb : bar < 64) (hF : ∀ k, k < 64 → m.1 43 k = nI (F k) ∧ F k < 1024) : ∃ (g' : Nat → Int32) (F' : Nat → Nat), (∀ k, k < 64 → g' k = nI (F' k) ∧ F' k < 1024) ∧ GtS gr bar F F' ∧ Ca O (d + 3) kX2_goThrough [.ref 41, .int (nI h), .int (nI bar)] none m (gupA m 43 g') := by
  -- the places
  have inn : ∀ (k L : Nat), k < 64 → L < 1024 → L ≠ 0 → ∀ n S (g : Nat → Int32) (F : Nat → Nat), S + n = 8 → (∀ i, i < 64 → g i = nI (F i) ∧ F i < 1024) → ∃ (g' : Nat → Int32) (F' : Nat → Nat), (∀ i, i < 64 → g' i = nI (F' i) ∧ F' i < 1024) ∧ (∀ i, i < 64 → ∀ b, (F' i).testBit b = true ↔ (F i).testBit b = true ∨ ∃ S', S ≤ S' ∧ S' < 8 ∧ bh gr S' k = some i ∧ i &&& bar = 0 ∧ L.testBit (b + pc6 S') = true) ∧ ∀ M, (∀ x y, Go O (d + 3) kX2_goThrough none M 76 [.ref 41, .int (nI h), .int (nI bar), .int (nI k), .int (nI L), x, y] [] (gupA m 43 g')) → ∀ x, Go O (d + 3) kX2_goThrough none M 18 [.ref 41, .int (nI h), .int (nI bar), .int (nI k), .int (nI L), .int (nI S), x] [] (gupA m 43 g) := by
    intro k L hk hL hL0 n
    induction n with
    | zero =>
      intro S g F hS hgF
      refine ⟨g, F, hgF, fun i hi b => ⟨Or.inl, fun q => q.elim id (fun ⟨S', a1, a2, _⟩ => absurd a1 (by omega))⟩, fun M kk x => ?_⟩
      refine go_iload dX2_goThrough_18 rfl ?_
      refine go_if_eq 76 dX2_goThrough_20 (by decide) (fun h => absurd h (fun q => hL0 ((nI_eq (b := 0) (by omega) (by omega)).mp q))) (fun h20 => ?_)
      refine go_iload dX2_goThrough_23 rfl ?_
      refine go_bipush (nI 8) dX2_goThrough_25 (by decide +kernel) ?_
      refine go_icmp_ge 76 dX2_goThrough_27 (by decide) (fun h27 => ?_) (fun h => absurd (nI_le (by omega) (by omega)) h)
      exact kk _ _
    | succ n ih =>
      intro S g F hS hgF
      have cb := c_obh_35 (O := O) (d := d) (m := gupA m 43 g) (k := k) (gr := gr) (S := S) (h := h) hD hG hg hh (by omega) hk
      have step : ∀ (g1 : Nat → Int32) (F1 : Nat → Nat), (∀ i, i < 64 → g1 i = nI (F1 i) ∧ F1 i < 1024) → (∀ i, i < 64 → ∀ b, (F1 i).testBit b = true ↔ (F i).testBit b = true ∨ (bh gr S k = some i ∧ i &&& bar = 0 ∧ L.testBit (b + pc6 S) = true)) → (∀ M, (∀ x, Go O (d + 3) kX2_goThrough none M 70 [.ref 41, .int (nI h), .int (nI bar), .int (nI k), .int (nI L), .int (nI S), x] [] (gupA m 43 g1)) → ∀ x, Go O (d + 3) kX2_goThrough none M 18 [.ref 41, .int (nI h), .int (nI bar), .int (nI k), .int (nI L), .int (nI S), x] [] (gupA m 43 g)) → ∃ (g' : Nat → Int32) (F' : Nat → Nat), (∀ i, i < 64 → g' i = nI (F' i) ∧ F' i < 1024) ∧ (∀ i, i < 64 → ∀ b, (F' i).testBit b = true ↔ (F i).testBit b = true ∨ ∃ S', S ≤ S' ∧ S' < 8 ∧ bh gr S' k = some i ∧ i &&& bar = 0 ∧ L.testBit (b + pc6 S') = true) ∧ ∀ M, (∀ x y, Go O (d + 3) kX2_goThrough none M 76 [.ref 41, .int (nI h), .int (nI bar), .int (nI k), .int (nI L), x, y] [] (gupA m 43 g')) → ∀ x, Go O (d + 3) kX2_goThrough none M 18 [.ref 41, .int (nI h), .int (nI bar), .int (nI k), .int (nI L), .int (nI S), x] [] (gupA m 43 g) := by
        intro g1 F1 v1 e1 hgo
        obtain ⟨g', F', q1, q2, q3⟩ := ih (S + 1) g1 F1 (by omega) v1
        refine ⟨g', F', q1, fun i hi b => ?_, fun M kk => hgo M (fun x => ?_)⟩
        · rw [q2 i hi b, e1 i hi b]
          constructor
          · rintro ((z | z) | ⟨S', a1, a2⟩)
            · exact Or.inl z
            · exact Or.inr ⟨S, Nat.le_refl _, by omega, z⟩
            · exact Or.inr ⟨S', by omega, a2⟩
          · rintro (z | ⟨S', a1, a2, a3⟩)
            · exact Or.inl (Or.inl z)
            · rcases Nat.lt_or_ge S S' with z | z
              · exact Or.inr ⟨S', z, a2, a3⟩
              · obtain rfl : S' = S := by omega
                exact Or.inl (Or.inr a3)
        · have q4 := q3 M kk
          refine go_iinc_n (L' := [_, _, _, _, _, _, _]) dX2_goThrough_70 rfl (by decide) rfl ?_
          refine go_goto 18 dX2_goThrough_73 (by decide) ?_
          exact q4 _
      cases hbh : bh gr S k with
      | none =>
        rw [hbh] at cb
        rw [hbh] at step
        refine step g F hgF (fun i hi b => ⟨Or.inl, fun q => q.elim id (fun z => by cases z.1)⟩) (fun M kk x => ?_)
        refine go_iload dX2_goThrough_18 rfl ?_
        refine go_if_eq 76 dX2_goThrough_20 (by decide) (fun h => absurd h (fun q => hL0 ((nI_eq (b := 0) (by omega) (by omega)).mp q))) (fun h20 => ?_)
        refine go_iload dX2_goThrough_23 rfl ?_
        refine go_bipush (nI 8) dX2_goThrough_25 (by decide +kernel) ?_
        refine go_icmp_ge 76 dX2_goThrough_27 (by decide) (fun h => absurd h (nI_ge (by omega) (by omega))) (fun h27 => ?_)
        refine go_aload_n dX2_goThrough_30 rfl ?_
        refine go_iload_n dX2_goThrough_31 rfl ?_
        refine go_iload dX2_goThrough_32 rfl ?_
        refine go_iload_n dX2_goThrough_34 rfl ?_
        refine go_callV1 (K' := kX2_behind) [_, _, _] dX2_goThrough_35 mX2_38 lX2_behind rfl (by decide) rfl (by decide) rfl rfl (Nat.le_of_ble_eq_true rfl) (Nat.le_of_ble_eq_true rfl) (cb) ?_
        refine go_istore (L' := [_, _, _, _, _, _, _]) dX2_goThrough_38 (by decide) rfl ?_
        refine go_iload dX2_goThrough_40 rfl ?_
        refine go_if_lt 70 dX2_goThrough_42 (by decide) (fun h42 => ?_) (fun h => absurd (by decide +kernel) h)
        exact kk _
      | some i0 =>
        rw [hbh] at cb
        rw [hbh] at step
        have hi0 := bh_lt hk hg hbh
        have hand : i0 &&& bar < 64 := Nat.and_lt_two_pow (n := 6) _ hb
        have hS6 := pc6_le S
        by_cases hbr : i0 &&& bar = 0
        · obtain ⟨v1, v2⟩ := hgF i0 hi0
          have hsh : L / 2 ^ pc6 S < 1024 := Nat.lt_of_le_of_lt (Nat.div_le_self _ _) hL
          refine step (upd g i0 (nI (F i0 ||| L / 2 ^ pc6 S))) (fun i => if i = i0 then F i ||| L / 2 ^ pc6 S else F i) (fun i hi => ?_) (fun i hi b => ?_) (fun M kk x => ?_)
          · skip
            by_cases e : i = i0
            · rw [e, upd_s, if_pos rfl]
              exact ⟨rfl, Nat.or_lt_two_pow (n := 10) v2 hsh⟩
            · rw [upd_n _ _ e, if_neg e]
              exact hgF i hi
          · skip
            by_cases e : i = i0
            · rw [if_pos e, e, Nat.testBit_or, Nat.testBit_div_two_pow]
              constructor
              · intro q
                rcases Bool.or_eq_true_iff.mp q with z | z
                · exact Or.inl z
                · exact Or.inr ⟨rfl, hbr, by rw [Nat.add_comm]; first | exact z | (rw [Nat.add_comm]; exact z)⟩
              · rintro (z | ⟨-, -, z⟩)
                · rw [z]; rfl
                · rw [Bool.or_eq_true]
                  exact Or.inr (by first | exact z | (rw [Nat.add_comm]; exact z))
            · rw [if_neg e]
              exact ⟨Or.inl, fun q => q.elim id (fun z => absurd (Option.some.inj z.1).symm e)⟩
          · have ev : nI (F i0) ||| nI L >>> (nI (pc6 S) &&& 31) = nI (F i0 ||| L / 2 ^ pc6 S) := by rw [nb_shr (by omega) (by omega), nb_or]
            refine go_iload dX2_goThrough_18 rfl ?_
            refine go_if_eq 76 dX2_goThrough_20 (by decide) (fun h => absurd h (fun q => hL0 ((nI_eq (b := 0) (by omega) (by omega)).mp q))) (fun h20 => ?_)
            refine go_iload dX2_goThrough_23 rfl ?_
            refine go_bipush (nI 8) dX2_goThrough_25 (by decide +kernel) ?_
            refine go_icmp_ge 76 dX2_goThrough_27 (by decide) (fun h => absurd h (nI_ge (by omega) (by omega))) (fun h27 => ?_)
            refine go_aload_n dX2_goThrough_30 rfl ?_
            refine go_iload_n dX2_goThrough_31 rfl ?_
            refine go_iload dX2_goThrough_32 rfl ?_
            refine go_iload_n dX2_goThrough_34 rfl ?_
            refine go_callV1 (K' := kX2_behind) [_, _, _] dX2_goThrough_35 mX2_38 lX2_behind rfl (by decide) rfl (by decide) rfl rfl (Nat.le_of_ble_eq_true rfl) (Nat.le_of_ble_eq_true rfl) (cb) ?_
            refine go_istore (L' := [_, _, _, _, _, _, _]) dX2_goThrough_38 (by decide) rfl ?_
            refine go_iload dX2_goThrough_40 rfl ?_
            refine go_if_lt 70 dX2_goThrough_42 (by decide) (fun h => absurd h (nI_pos (by omega))) (fun h42 => ?_)
            refine go_iload dX2_goThrough_45 rfl ?_
            refine go_iload_n dX2_goThrough_47 rfl ?_
            refine go_iand dX2_goThrough_48 (nb_and _ _) ?_
            refine go_if_ne 70 dX2_goThrough_49 (by decide) (fun h => absurd h (fun q => q (by rw [hbr]; rfl))) (fun h49 => ?_)
            refine go_aload_n dX2_goThrough_52 rfl ?_
            refine go_getc dX2_goThrough_53 fX2_15 rfl (by decide) (by decide) (by decide) rfl ?_
            refine go_iload dX2_goThrough_56 rfl ?_
            refine go_dup2 dX2_goThrough_58 rfl rfl ?_
            refine go_ialdA dX2_goThrough_59 rfl (by decide) rfl (by omega) (by decide) v1 ?_
            refine go_iload dX2_goThrough_60 rfl ?_
            refine go_iload dX2_goThrough_62 rfl ?_
            refine go_callS1 (K' := kJ6_bitCount_0f7a4) [_] dX2_goThrough_64 mX2_60 lJ6_bitCount_0f7a4 rfl rfl (Nat.le_of_ble_eq_true rfl) (Nat.le_of_ble_eq_true rfl) (c_bitCount (by omega)) ?_
            refine go_ishr dX2_goThrough_67 rfl ?_
            refine go_ior dX2_goThrough_68 ev ?_
            refine go_iastA dX2_goThrough_69 rfl (by decide) rfl (by omega) (by decide) ?_
            exact kk _
        · refine step g F hgF (fun i hi b => ⟨Or.inl, fun q => q.elim id (fun z => absurd z.2.1 (by rw [← Option.some.inj z.1]; exact hbr))⟩) (fun M kk x => ?_)
          refine go_iload dX2_goThrough_18 rfl ?_
          refine go_if_eq 76 dX2_goThrough_20 (by decide) (fun h => absurd h (fun q => hL0 ((nI_eq (b := 0) (by omega) (by omega)).mp q))) (fun h20 => ?_)
          refine go_iload dX2_goThrough_23 rfl ?_
          refine go_bipush (nI 8) dX2_goThrough_25 (by decide +kernel) ?_
          refine go_icmp_ge 76 dX2_goThrough_27 (by decide) (fun h => absurd h (nI_ge (by omega) (by omega))) (fun h27 => ?_)
          refine go_aload_n dX2_goThrough_30 rfl ?_
          refine go_iload_n dX2_goThrough_31 rfl ?_
          refine go_iload dX2_goThrough_32 rfl ?_
          refine go_iload_n dX2_goThrough_34 rfl ?_
          refine go_callV1 (K' := kX2_behind) [_, _, _] dX2_goThrough_35 mX2_38 lX2_behind rfl (by decide) rfl (by decide) rfl rfl (Nat.le_of_ble_eq_true rfl) (Nat.le_of_ble_eq_true rfl) (cb) ?_
          refine go_istore (L' := [_, _, _, _, _, _, _]) dX2_goThrough_38 (by decide) rfl ?_
          refine go_iload dX2_goThrough_40 rfl ?_
          refine go_if_lt 70 dX2_goThrough_42 (by decide) (fun h => absurd h (nI_pos (by omega))) (fun h42 => ?_)
          refine go_iload dX2_goThrough_45 rfl ?_
          refine go_iload_n dX2_goThrough_47 rfl ?_
          refine go_iand dX2_goThrough_48 (nb_and _ _) ?_
          refine go_if_ne 70 dX2_goThrough_49 (by decide) (fun h49 => ?_) (fun h => absurd h (fun q => hbr ((nI_eq (b := 0) (by omega) (by omega)).mp q)))
          exact kk _
  -- the sets
  have out : ∀ n (g : Nat → Int32) (F : Nat → Nat), n ≤ 64 → (∀ i, i < 64 → g i = nI (F i) ∧ F i < 1024) → ∃ (g' : Nat → Int32) (F' : Nat → Nat), (∀ i, i < 64 → g' i = nI (F' i) ∧ F' i < 1024) ∧ (∀ i, i < 64 → ∀ b, (F' i).testBit b = true ↔ (F i).testBit b = true ∨ ∃ k S, k < n ∧ 1 ≤ S ∧ S < 8 ∧ bh gr S k = some i ∧ i &&& bar = 0 ∧ (F k).testBit (b + pc6 S) = true) ∧ ∀ x y z, Go O (d + 3) kX2_goThrough none (gupA m 43 g') 3 [.ref 41, .int (nI h), .int (nI bar), .int (nI n + Int32.ofInt (-1)), x, y, z] [] (gupA m 43 g) := by
    intro n
    induction n with
    | zero =>
      intro g F hn hgF
      refine ⟨g, F, hgF, fun i hi b => ⟨Or.inl, fun q => q.elim id (fun ⟨_, _, a1, _⟩ => absurd a1 (by omega))⟩, fun x y z => ?_⟩
      refine go_iload_n dX2_goThrough_3 rfl ?_
      refine go_if_lt 82 dX2_goThrough_4 (by decide) (fun h4 => ?_) (fun h => absurd (nI_m1lt 0) h)
      exact go_vret dX2_goThrough_82 rfl rfl rfl
    | succ n ih =>
      intro g F hn hgF
      obtain ⟨v1, v2⟩ := hgF n (by omega)
      by_cases hL0 : F n = 0
      · obtain ⟨g', F', q1, q2, q3⟩ := ih g F (by omega) hgF
        refine ⟨g', F', q1, fun i hi b => ?_, fun x y z => ?_⟩
        · rw [q2 i hi b]
          constructor
          · rintro (z | ⟨k, S, a1, a2⟩)
            · exact Or.inl z
            · exact Or.inr ⟨k, S, by omega, a2⟩
          · rintro (z | ⟨k, S, a1, a2, a3, a4, a5, a6⟩)
            · exact Or.inl z
            · refine Or.inr ⟨k, S, ?_, a2, a3, a4, a5, a6⟩
              rcases Nat.lt_or_ge k n with z | z
              · exact z
              · obtain rfl : k = n := by omega
                rw [hL0] at a6
                simp at a6
        · rw [nI_dec]
          refine go_iload_n dX2_goThrough_3 rfl ?_
          refine go_if_lt 82 dX2_goThrough_4 (by decide) (fun h => absurd h (nI_pos (by omega))) (fun h4 => ?_)
          refine go_aload_n dX2_goThrough_7 rfl ?_
          refine go_getc dX2_goThrough_8 fX2_15 rfl (by decide) (by decide) (by decide) rfl ?_
          refine go_iload_n dX2_goThrough_11 rfl ?_
          refine go_ialdA dX2_goThrough_12 rfl (by decide) rfl (by omega) (by decide) v1 ?_
          refine go_istore (L' := [_, _, _, _, _, _, _]) dX2_goThrough_13 (by decide) rfl ?_
          refine go_iconst (nI 1) dX2_goThrough_15 (by decide +kernel) ?_
          refine go_istore (L' := [_, _, _, _, _, _, _]) dX2_goThrough_16 (by decide) rfl ?_
          refine go_iload dX2_goThrough_18 rfl ?_
          refine go_if_eq 76 dX2_goThrough_20 (by decide) (fun h20 => ?_) (fun h => absurd (by rw [hL0]; rfl) h)
          refine go_iinc (L' := [_, _, _, _, _, _, _]) dX2_goThrough_76 rfl (by decide) rfl rfl ?_
          refine go_goto 3 dX2_goThrough_79 (by decide) ?_
          exact q3 _ _ _
      · obtain ⟨g1, F1, p1, p2, p3⟩ := inn n (F n) (by omega) v2 hL0 7 1 g F (by omega) hgF
        obtain ⟨g', F', q1, q2, q3⟩ := ih g1 F1 (by omega) p1
        have same : ∀ k, k < n → ∀ b, (F1 k).testBit b = true ↔ (F k).testBit b = true := by
          intro k hk b
          rw [p2 k (by omega) b]
          exact ⟨fun q => q.elim id (fun ⟨S', _, _, a3, _⟩ => absurd (bh_ge a3) (by omega)), Or.inl⟩
        refine ⟨g', F', q1, fun i hi b => ?_, fun x y z => ?_⟩
        · rw [q2 i hi b, p2 i hi b]
          constructor
          · rintro ((z | ⟨S, a1, a2, a3⟩) | ⟨k, S, a1, a2, a3, a4, a5, a6⟩)
            · exact Or.inl z
            · exact Or.inr ⟨n, S, by omega, a1, a2, a3⟩
            · exact Or.inr ⟨k, S, by omega, a2, a3, a4, a5, (same k a1 _).mp a6⟩
          · rintro (z | ⟨k, S, a1, a2, a3, a4, a5, a6⟩)
            · exact Or.inl (Or.inl z)
            · rcases Nat.lt_or_ge k n with z | z
              · exact Or.inr ⟨k, S, z, a2, a3, a4, a5, (same k z _).mpr a6⟩
              · obtain rfl : k = n := by omega
                exact Or.inl (Or.inr ⟨S, a2, a3, a4, a5, a6⟩)
        · rw [nI_dec]
          have fin : ∀ x y, Go O (d + 3) kX2_goThrough none (gupA m 43 g') 76 [.ref 41, .int (nI h), .int (nI bar), .int (nI n), .int (nI (F n)), x, y] [] (gupA m 43 g1) := by
            intro x y
            refine go_iinc (L' := [_, _, _, _, _, _, _]) dX2_goThrough_76 rfl (by decide) rfl rfl ?_
            refine go_goto 3 dX2_goThrough_79 (by decide) ?_
            exact q3 _ _ _
          have p4 := p3 _ fin
          refine go_iload_n dX2_goThrough_3 rfl ?_
          refine go_if_lt 82 dX2_goThrough_4 (by decide) (fun h => absurd h (nI_pos (by omega))) (fun h4 => ?_)
          refine go_aload_n dX2_goThrough_7 rfl ?_
          refine go_getc dX2_goThrough_8 fX2_15 rfl (by decide) (by decide) (by decide) rfl ?_
          refine go_iload_n dX2_goThrough_11 rfl ?_
          refine go_ialdA dX2_goThrough_12 rfl (by decide) rfl (by omega) (by decide) v1 ?_
          refine go_istore (L' := [_, _, _, _, _, _, _]) dX2_goThrough_13 (by decide) rfl ?_
          refine go_iconst (nI 1) dX2_goThrough_15 (by decide +kernel) ?_
          refine go_istore (L' := [_, _, _, _, _, _, _]) dX2_goThrough_16 (by decide) rfl ?_
          exact p4 _
  obtain ⟨g', F', q1, q2, q3⟩ := out 64 (m.1 43) F (Nat.le_refl _) hF
  refine ⟨g', F', q1, q2, ?_⟩
  show Go O (d + 3) kX2_goThrough none _ 0 [.ref 41, .int (nI h), .int (nI bar), .null, .null, .null, .null] [] m
  refine go_mem (gupA_self m 43).symm ?_
  refine go_bipush (nI 63) dX2_goThrough_0 (by decide +kernel) ?_
  refine go_istore_n (L' := [_, _, _, _, _, _, _]) dX2_goThrough_2 (by decide) rfl ?_
  exact q3 _ _ _
def mxA (p : Nat → Prop) [DecidablePred p] : Nat → Nat
  | 0 => 0
  | k + 1 => if p k then max (mxA p k) (pc6 k) else mxA p k
theorem mxA_le (p : Nat → Prop) [DecidablePred p] : ∀ n, mxA p n ≤ 6
  | 0 => by simp [mxA]
  | n + 1 => by
    have := mxA_le p n
    have := pc6_le n
    simp only [mxA]
    split <;> omega
theorem mxA_congr {p q : Nat → Prop} [DecidablePred p] [DecidablePred q] : ∀ n, (∀ k, k < n → (p k ↔ q k)) → mxA p n = mxA q n
  | 0, _ => rfl
  | n + 1, h => by
    simp only [mxA]
    rw [mxA_congr n (fun k hk => h k (by omega))]
    by_cases e : p n
    · rw [if_pos e, if_pos ((h n (by omega)).mp e)]
    · rw [if_neg e, if_neg (fun z => e ((h n (by omega)).mpr z))]
theorem c_mostKnowing {O : gOm} {d : Nat} {m : gMem} {F : Nat → Nat} (hF : ∀ k, k < 64 → m.1 43 k = nI (F k) ∧ F k < 1024) : Ca O (d + 1) kX2_mostKnowing [.ref 41] (some (.int (nI (mxA (fun k => F k ≠ 0) 64)))) m m := by
  have key : ∀ n k, k + n = 64 → Go O (d + 1) kX2_mostKnowing (some (.int (nI (mxA (fun k => F k ≠ 0) 64)))) m 4 [.ref 41, .int (nI (mxA (fun k => F k ≠ 0) k)), .int (nI k)] [] m := by
    intro n
    induction n with
    | zero =>
      intro k hk
      obtain rfl : k = 64 := by omega
      refine go_iload_n dX2_mostKnowing_4 rfl ?_
      refine go_bipush (nI 64) dX2_mostKnowing_5 (by decide +kernel) ?_
      refine go_icmp_ge 34 dX2_mostKnowing_7 (by decide) (fun h7 => ?_) (fun h => absurd (nI_le (by omega) (by omega)) h)
      refine go_iload_n dX2_mostKnowing_34 rfl ?_
      exact go_iret dX2_mostKnowing_35 rfl rfl rfl
    | succ n ih =>
      intro k hk
      obtain ⟨v1, v2⟩ := hF k (by omega)
      have hm := mxA_le (fun k => F k ≠ 0) k
      have hp := pc6_le k
      have hi := ih (k + 1) (by omega)
      by_cases e : F k = 0
      · rw [show mxA (fun k => F k ≠ 0) (k + 1) = mxA (fun k => F k ≠ 0) k by rw [mxA, if_neg (fun q => q e)]] at hi
        refine go_iload_n dX2_mostKnowing_4 rfl ?_
        refine go_bipush (nI 64) dX2_mostKnowing_5 (by decide +kernel) ?_
        refine go_icmp_ge 34 dX2_mostKnowing_7 (by decide) (fun h => absurd h (nI_ge (by omega) (by omega))) (fun h7 => ?_)
        refine go_aload_n dX2_mostKnowing_10 rfl ?_
        refine go_getc dX2_mostKnowing_11 fX2_15 rfl (by decide) (by decide) (by decide) rfl ?_
        refine go_iload_n dX2_mostKnowing_14 rfl ?_
        refine go_iald dX2_mostKnowing_15 rfl (by decide) rfl (by omega) (by decide) v1 ?_
        refine go_if_eq 28 dX2_mostKnowing_16 (by decide) (fun h16 => ?_) (fun h => absurd (by rw [e]; rfl) h)
        refine go_iinc_n (L' := [_, _, _]) dX2_mostKnowing_28 rfl (by decide) rfl ?_
        refine go_goto 4 dX2_mostKnowing_31 (by decide) ?_
        exact hi
      · rw [show mxA (fun k => F k ≠ 0) (k + 1) = max (mxA (fun k => F k ≠ 0) k) (pc6 k) by rw [mxA, if_pos e]] at hi
        refine go_iload_n dX2_mostKnowing_4 rfl ?_
        refine go_bipush (nI 64) dX2_mostKnowing_5 (by decide +kernel) ?_
        refine go_icmp_ge 34 dX2_mostKnowing_7 (by decide) (fun h => absurd h (nI_ge (by omega) (by omega))) (fun h7 => ?_)
        refine go_aload_n dX2_mostKnowing_10 rfl ?_
        refine go_getc dX2_mostKnowing_11 fX2_15 rfl (by decide) (by decide) (by decide) rfl ?_
        refine go_iload_n dX2_mostKnowing_14 rfl ?_
        refine go_iald dX2_mostKnowing_15 rfl (by decide) rfl (by omega) (by decide) v1 ?_
        refine go_if_eq 28 dX2_mostKnowing_16 (by decide) (fun h => absurd h (fun q => e ((nI_eq (b := 0) (by omega) (by omega)).mp q))) (fun h16 => ?_)
        refine go_iload_n dX2_mostKnowing_19 rfl ?_
        refine go_iload_n dX2_mostKnowing_20 rfl ?_
        refine go_callS1 (K' := kJ6_bitCount_0f7a4) [_] dX2_mostKnowing_21 mX2_60 lJ6_bitCount_0f7a4 rfl rfl (Nat.le_of_ble_eq_true rfl) (Nat.le_of_ble_eq_true rfl) (c_bitCount (by omega)) ?_
        refine go_mmax dX2_mostKnowing_24 mX2_81 (Nat.le_of_ble_eq_true rfl) (nmax (by omega) (by omega)) ?_
        refine go_istore_n (L' := [_, _, _]) dX2_mostKnowing_27 (by decide) rfl ?_
        refine go_iinc_n (L' := [_, _, _]) dX2_mostKnowing_28 rfl (by decide) rfl ?_
        refine go_goto 4 dX2_mostKnowing_31 (by decide) ?_
        exact hi
  show Go O (d + 1) kX2_mostKnowing _ m 0 [.ref 41, .null, .null] [] m
  refine go_iconst (nI 0) dX2_mostKnowing_0 (by decide +kernel) ?_
  refine go_istore_n (L' := [_, _, _]) dX2_mostKnowing_1 (by decide) rfl ?_
  refine go_iconst (nI 0) dX2_mostKnowing_2 (by decide +kernel) ?_
  refine go_istore_n (L' := [_, _, _]) dX2_mostKnowing_3 (by decide) rfl ?_
  exact key 64 0 (by omega)
theorem c_canBeSpent {O : gOm} {d : Nat} {m : gMem} {F : Nat → Nat} (hF : ∀ k, k < 64 → m.1 43 k = nI (F k) ∧ F k < 1024) {b : Bool} (hb : b = true ↔ ∃ k, k < 64 ∧ (F k).testBit 0 = true) : Ca O d kX2_canBeSpent [.ref 41] (some (.int (bI b))) m m := by
  have key : ∀ n k, k + n = 64 → (∀ j, j < k → (F j).testBit 0 = false) → Go O d kX2_canBeSpent (some (.int (bI b))) m 2 [.ref 41, .int (nI k)] [] m := by
    intro n
    induction n with
    | zero =>
      intro k hk hno
      obtain rfl : k = 64 := by omega
      have eb : b = false := by
        cases hz : b with
        | false => rfl
        | true =>
          obtain ⟨j, h1, h2⟩ := hb.mp hz
          rw [hno j h1] at h2
          cases h2
      refine go_iload_n dX2_canBeSpent_2 rfl ?_
      refine go_bipush (nI 64) dX2_canBeSpent_3 (by decide +kernel) ?_
      refine go_icmp_ge 27 dX2_canBeSpent_5 (by decide) (fun h5 => ?_) (fun h => absurd (nI_le (by omega) (by omega)) h)
      refine go_iconst (nI 0) dX2_canBeSpent_27 (by decide +kernel) ?_
      exact go_zret dX2_canBeSpent_28 rfl (by first | exact Or.inl rfl | exact Or.inr rfl) (by rw [eb]; rfl) rfl
    | succ n ih =>
      intro k hk hno
      obtain ⟨v1, v2⟩ := hF k (by omega)
      have ev : nI (F k) &&& nI 1 = nI (F k % 2) := by rw [nb_and, Nat.and_one_is_mod]
      have et : (F k).testBit 0 = decide (F k % 2 = 1) := Nat.testBit_zero _
      cases e : (F k).testBit 0 with
      | false =>
        rw [e] at et
        have e1 : F k % 2 = 0 := by
          have := of_decide_eq_false et.symm
          omega
        have hi := ih (k + 1) (by omega) (fun j hj => by
          by_cases z : j = k
          · rw [z]; exact e
          · exact hno j (by omega))
        refine go_iload_n dX2_canBeSpent_2 rfl ?_
        refine go_bipush (nI 64) dX2_canBeSpent_3 (by decide +kernel) ?_
        refine go_icmp_ge 27 dX2_canBeSpent_5 (by decide) (fun h => absurd h (nI_ge (by omega) (by omega))) (fun h5 => ?_)
        refine go_aload_n dX2_canBeSpent_8 rfl ?_
        refine go_getc dX2_canBeSpent_9 fX2_15 rfl (by decide) (by decide) (by decide) rfl ?_
        refine go_iload_n dX2_canBeSpent_12 rfl ?_
        refine go_iald dX2_canBeSpent_13 rfl (by decide) rfl (by omega) (by decide) v1 ?_
        refine go_iconst (nI 1) dX2_canBeSpent_14 (by decide +kernel) ?_
        refine go_iand dX2_canBeSpent_15 ev ?_
        refine go_if_eq 21 dX2_canBeSpent_16 (by decide) (fun h16 => ?_) (fun h => absurd (by rw [e1]; rfl) h)
        refine go_iinc_n (L' := [_, _]) dX2_canBeSpent_21 rfl (by decide) rfl ?_
        refine go_goto 2 dX2_canBeSpent_24 (by decide) ?_
        exact hi
      | true =>
        rw [e] at et
        have e1 : F k % 2 = 1 := of_decide_eq_true et.symm
        have eb : b = true := hb.mpr ⟨k, by omega, e⟩
        refine go_iload_n dX2_canBeSpent_2 rfl ?_
        refine go_bipush (nI 64) dX2_canBeSpent_3 (by decide +kernel) ?_
        refine go_icmp_ge 27 dX2_canBeSpent_5 (by decide) (fun h => absurd h (nI_ge (by omega) (by omega))) (fun h5 => ?_)
        refine go_aload_n dX2_canBeSpent_8 rfl ?_
        refine go_getc dX2_canBeSpent_9 fX2_15 rfl (by decide) (by decide) (by decide) rfl ?_
        refine go_iload_n dX2_canBeSpent_12 rfl ?_
        refine go_iald dX2_canBeSpent_13 rfl (by decide) rfl (by omega) (by decide) v1 ?_
        refine go_iconst (nI 1) dX2_canBeSpent_14 (by decide +kernel) ?_
        refine go_iand dX2_canBeSpent_15 ev ?_
        refine go_if_eq 21 dX2_canBeSpent_16 (by decide) (fun h => absurd h (by rw [e1]; decide +kernel)) (fun h16 => ?_)
        refine go_iconst (nI 1) dX2_canBeSpent_19 (by decide +kernel) ?_
        exact go_zret dX2_canBeSpent_20 rfl (by first | exact Or.inl rfl | exact Or.inr rfl) (by rw [eb]; rfl) rfl
  show Go O d kX2_canBeSpent _ m 0 [.ref 41, .null] [] m
  refine go_iconst (nI 0) dX2_canBeSpent_0 (by decide +kernel) ?_
  refine go_istore_n (L' := [_, _]) dX2_canBeSpent_1 (by decide) rfl ?_
  exact key 64 0 (by omega) (fun j hj => absurd hj (by omega))
def lkM_29 (m : gMem) (k b : Nat) : gMem := gupA (gupR m 2 29) 43 (upd (flP (m.1 43) (nI 0) 64) k (nI (2 ^ b)))
theorem c_lookFrom_29 {O : gOm} {d : Nat} {m : gMem} {k b : Nat} (hk : k < 64) (hb : b ≤ 9) : Ca O (d + 1) kX2_lookFrom [.ref 41, .ref 29, .int (nI k), .int (nI b)] none m (lkM_29 m k b) := by
  show Go O (d + 1) kX2_lookFrom none _ 0 [.ref 41, .ref 29, .int (nI k), .int (nI b)] [] m
  refine go_aload_n dX2_lookFrom_0 rfl ?_
  refine go_aload_n dX2_lookFrom_1 rfl ?_
  refine go_putr dX2_lookFrom_2 fX2_24 rfl (by decide) (by decide) (by decide) rfl (fun _ _ _ h => by cases h; rfl) ⟨_, rfl⟩ ?_
  refine go_aload_n dX2_lookFrom_5 rfl ?_
  refine go_getc dX2_lookFrom_6 fX2_15 rfl (by decide) (by decide) (by decide) rfl ?_
  refine go_iconst (nI 0) dX2_lookFrom_9 (by decide +kernel) ?_
  refine go_callS0 (K' := kJ7_fill_53178) [_, _] dX2_lookFrom_10 mX2_46 lJ7_fill_53178 rfl rfl (Nat.le_of_ble_eq_true rfl) (Nat.le_of_ble_eq_true rfl) (c_fill rfl (by decide) (by decide)) ?_
  refine go_aload_n dX2_lookFrom_13 rfl ?_
  refine go_getc dX2_lookFrom_14 fX2_15 rfl (by decide) (by decide) (by decide) rfl ?_
  refine go_iload_n dX2_lookFrom_17 rfl ?_
  refine go_iconst (nI 1) dX2_lookFrom_18 (by decide +kernel) ?_
  refine go_iload_n dX2_lookFrom_19 rfl ?_
  refine go_ishl dX2_lookFrom_20 (nb_one (by omega)) ?_
  refine go_iastA dX2_lookFrom_21 rfl (by decide) rfl (by omega) (by decide) ?_
  exact go_vret dX2_lookFrom_22 rfl rfl rfl
def lkM_35 (m : gMem) (k b : Nat) : gMem := gupA (gupR m 2 35) 43 (upd (flP (m.1 43) (nI 0) 64) k (nI (2 ^ b)))
theorem c_lookFrom_35 {O : gOm} {d : Nat} {m : gMem} {k b : Nat} (hk : k < 64) (hb : b ≤ 9) : Ca O (d + 1) kX2_lookFrom [.ref 41, .ref 35, .int (nI k), .int (nI b)] none m (lkM_35 m k b) := by
  show Go O (d + 1) kX2_lookFrom none _ 0 [.ref 41, .ref 35, .int (nI k), .int (nI b)] [] m
  refine go_aload_n dX2_lookFrom_0 rfl ?_
  refine go_aload_n dX2_lookFrom_1 rfl ?_
  refine go_putr dX2_lookFrom_2 fX2_24 rfl (by decide) (by decide) (by decide) rfl (fun _ _ _ h => by cases h; rfl) ⟨_, rfl⟩ ?_
  refine go_aload_n dX2_lookFrom_5 rfl ?_
  refine go_getc dX2_lookFrom_6 fX2_15 rfl (by decide) (by decide) (by decide) rfl ?_
  refine go_iconst (nI 0) dX2_lookFrom_9 (by decide +kernel) ?_
  refine go_callS0 (K' := kJ7_fill_53178) [_, _] dX2_lookFrom_10 mX2_46 lJ7_fill_53178 rfl rfl (Nat.le_of_ble_eq_true rfl) (Nat.le_of_ble_eq_true rfl) (c_fill rfl (by decide) (by decide)) ?_
  refine go_aload_n dX2_lookFrom_13 rfl ?_
  refine go_getc dX2_lookFrom_14 fX2_15 rfl (by decide) (by decide) (by decide) rfl ?_
  refine go_iload_n dX2_lookFrom_17 rfl ?_
  refine go_iconst (nI 1) dX2_lookFrom_18 (by decide +kernel) ?_
  refine go_iload_n dX2_lookFrom_19 rfl ?_
  refine go_ishl dX2_lookFrom_20 (nb_one (by omega)) ?_
  refine go_iastA dX2_lookFrom_21 rfl (by decide) rfl (by omega) (by decide) ?_
  exact go_vret dX2_lookFrom_22 rfl rfl rfl
