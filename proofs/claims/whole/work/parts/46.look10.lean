/-! ROWS: what was seen, and the sum -/
theorem mm_mm (m : gMem) {c1 c2 : Nat} (a b a' b' : Nat → Int32) : mm (mm m c1 c2 a b) c1 c2 a' b' = mm m c1 c2 a' b' := by
  refine Prod.ext (funext fun k => ?_) rfl
  unfold mm
  by_cases h2 : k = c2
  · subst h2
    rw [gupA_s, gupA_s]
  · rw [gupA_k _ _ h2, gupA_k _ _ h2]
    by_cases h1 : k = c1
    · subst h1
      rw [gupA_s, gupA_s]
    · rw [gupA_k _ _ h1, gupA_k _ _ h1, gupA_k _ _ h2, gupA_k _ _ h1]
/-- zeros from b on -/
def stz (f : Nat → Int32) (b : Nat) : Nat → Nat → Int32
  | 0 => f
  | n + 1 => upd (stz f b n) (b + n) (nI 0)
theorem stz_at (f : Nat → Int32) (b i : Nat) : ∀ n, stz f b n i = if b ≤ i ∧ i < b + n then nI 0 else f i
  | 0 => by rw [if_neg (by omega)]; rfl
  | n + 1 => by
    by_cases h : i = b + n
    · rw [if_pos (by omega), stz, h, upd_s]
    · rw [stz, upd_n _ _ h, stz_at f b i n]
      by_cases h2 : b ≤ i ∧ i < b + n
      · rw [if_pos h2, if_pos (by omega)]
      · rw [if_neg h2, if_neg (by omega)]
def stO (F : Nat → Bool) (lim : Nat) (f : Nat → Int32) : Nat → Nat → Int32
  | 0 => f
  | k + 1 => if F k then stO F lim f k else stz (stO F lim f k) (k * 10) (lim + 1)
theorem stO_at {F : Nat → Bool} {lim : Nat} {f : Nat → Int32} (hl : lim ≤ 9) (i : Nat) : ∀ n, stO F lim f n i = if i / 10 < n ∧ F (i / 10) = false ∧ i % 10 ≤ lim then nI 0 else f i
  | 0 => by rw [if_neg (by omega)]; rfl
  | n + 1 => by
    rw [stO]
    cases hF : F n with
    | true =>
      rw [if_pos rfl, stO_at hl i n]
      by_cases h : i / 10 < n ∧ F (i / 10) = false ∧ i % 10 ≤ lim
      · rw [if_pos h, if_pos ⟨by omega, h.2⟩]
      · rw [if_neg h, if_neg]
        rintro ⟨h1, h2, h3⟩
        refine h ⟨?_, h2, h3⟩
        by_cases e : i / 10 = n
        · rw [e, hF] at h2
          cases h2
        · omega
    | false =>
      rw [if_neg (by simp), stz_at, stO_at hl i n]
      by_cases e : n * 10 ≤ i ∧ i < n * 10 + (lim + 1)
      · have e1 : i / 10 = n := by omega
        rw [if_pos e, if_pos ⟨by omega, by rw [e1]; exact hF, by omega⟩]
      · rw [if_neg e]
        by_cases h : i / 10 < n ∧ F (i / 10) = false ∧ i % 10 ≤ lim
        · rw [if_pos h, if_pos ⟨by omega, h.2⟩]
        · rw [if_neg h, if_neg]
          rintro ⟨h1, h2, h3⟩
          refine h ⟨?_, h2, h3⟩
          by_cases z : i / 10 = n
          · exact absurd ⟨by omega, by omega⟩ e
          · omega
/-- ways behind so many hours -/
def rwW (G : Nat → Nat → Nat) (lim k0 : Nat) (F : Nat → Nat → Bool) : Nat → Nat → Nat
  | 0, i => if i = 10 * k0 then 1 else 0
  | c + 1, i => if F c (i / 10) then gW (G c) lim (rwW G lim k0 F c) i else 0
theorem rwW_z {G : Nat → Nat → Nat} {lim k0 : Nat} {F : Nat → Nat → Bool} (hl : lim ≤ 9) (hg : ∀ h a, G h a < 64) : ∀ c i, lim < i % 10 → rwW G lim k0 F c i = 0
  | 0, i, h => by rw [rwW, if_neg (by omega)]
  | c + 1, i, h => by
    rw [rwW]
    split
    · exact gW_z hl h (hg c)
    · rfl
theorem rwW_s {G : Nat → Nat → Nat} {lim k0 : Nat} {F : Nat → Nat → Bool} : ∀ c, sm (rwW G lim k0 F c) 640 ≤ 8 ^ c
  | 0 => by
    have e := sm_single (v := fun _ => 1) (i := 10 * k0) 640
    have e2 : sm (rwW G lim k0 F 0) 640 = sm (fun j => if j = 10 * k0 then 1 else 0) 640 := sm_congr 640 (fun j _ => by rw [rwW])
    rw [e2, e]
    split <;> simp
  | c + 1 => by
    have h1 := sm_le (f := rwW G lim k0 F (c + 1)) (g := gW (G c) lim (rwW G lim k0 F c)) 640 (fun j _ => by
      rw [rwW]
      split <;> omega)
    have h2 := gW_tot (G c) lim (rwW G lim k0 F c)
    have h3 := rwW_s (G := G) (lim := lim) (k0 := k0) (F := F) c
    rw [Nat.pow_succ]
    omega
theorem rwW_b {G : Nat → Nat → Nat} {lim k0 : Nat} {F : Nat → Nat → Bool} {c i : Nat} (hc : c ≤ 6) (hi : i < 640) : rwW G lim k0 F c i < 2 ^ 31 := by
  have h1 := rwW_s (G := G) (lim := lim) (k0 := k0) (F := F) c
  have h2 := sm_ge (f := rwW G lim k0 F c) hi
  have h3 : 8 ^ c ≤ 8 ^ 6 := Nat.pow_le_pow_right (by omega) hc
  omega
/-- what fits what was seen -/
def ftB (m : gMem) (c h k : Nat) : Bool := decide (snA m h true c &&& (k ^^^ 63) = 0) && decide (snA m h false c &&& k = 0)
theorem ft_1 : ∀ p, p < 6 → ∀ k, k < 64 → ((2 ^ p &&& (k ^^^ 63) = 0) ↔ k.testBit p = true) ∧ ((2 ^ p &&& k = 0) ↔ k.testBit p = false) := by decide +kernel
theorem or_and0 (a b c : Nat) : (a ||| b) &&& c = 0 ↔ a &&& c = 0 ∧ b &&& c = 0 := by
  rw [Nat.and_or_distrib_right]
  constructor
  · intro h
    constructor
    · have := Nat.left_le_or (n := a &&& c) (m := b &&& c)
      omega
    · have := Nat.right_le_or (n := a &&& c) (m := b &&& c)
      omega
  · rintro ⟨h1, h2⟩
    rw [h1, h2]
    rfl
theorem ftB_s {m : gMem} {c h k h' p : Nat} {b : Bool} (hk : k < 64) (hp : p < 6) (hh : h < 6) (hh' : h' < 6) (e1 : m.1 61 c = nI h') (e2 : m.1 62 c = nI p) (e3 : m.1 63 c = bI b) : ftB m (c + 1) h k = (ftB m c h k && (decide (h' ≠ h) || decide (k.testBit p = b))) := by
  have ec : (m.1 62 c).toNatClampNeg = p := by rw [e2, nI_clamp (by omega)]
  have eh : (m.1 61 c = nI h) ↔ h' = h := by rw [e1]; exact nI_eq (by omega) (by omega)
  obtain ⟨f1, f2⟩ := ft_1 p hp k hk
  rw [Bool.eq_iff_iff]
  simp only [ftB, snA, Bool.and_eq_true, Bool.or_eq_true, decide_eq_true_eq, or_and0, ec, eh, e3, bI_inj]
  by_cases z : h' = h
  · subst z
    cases b with
    | true =>
      simp only [true_and, and_self, if_true, Bool.true_eq_false, if_false, Nat.zero_and, and_true, ne_eq, not_true_eq_false, false_or, f1]
      constructor
      · rintro ⟨⟨a1, a2⟩, a3⟩
        exact ⟨⟨a1, a3⟩, a2⟩
      · rintro ⟨⟨a1, a3⟩, a2⟩
        exact ⟨⟨a1, a2⟩, a3⟩
    | false =>
      simp only [true_and, and_self, if_true, Bool.false_eq_true, if_false, Nat.zero_and, and_true, ne_eq, not_true_eq_false, false_or, f2]
      constructor
      · rintro ⟨a1, a2, a3⟩
        exact ⟨⟨a1, a2⟩, a3⟩
      · rintro ⟨⟨a1, a2⟩, a3⟩
        exact ⟨a1, a2, a3⟩
  · simp [z]
theorem snA_64 {m : gMem} {h : Nat} {b : Bool} : ∀ c, (∀ i, i < c → ∃ p, p < 6 ∧ m.1 62 i = nI p) → snA m h b c < 64
  | 0, _ => by simp [snA]
  | c + 1, hp => by
    obtain ⟨p, p6, e⟩ := hp c (by omega)
    have ih := snA_64 (m := m) (h := h) (b := b) c (fun i hi => hp i (by omega))
    rw [snA]
    refine or_lt64 ih ?_
    split
    · rw [e, nI_clamp (by omega)]
      have : 2 ^ p ≤ 2 ^ 5 := Nat.pow_le_pow_right (by omega) (by omega)
      omega
    · omega
theorem c_strike {O : gOm} {d : Nat} {m : gMem} {h lim : Nat} {F : Nat → Bool} {x y : Nat → Int32} {a b : Nat} (hh : h < 6) (hl9 : lim ≤ 9) (hl : m.1 41 6 = nI lim) (ha : a < 64) (hb : b < 64) (h1 : m.1 27 h = nI a) (h2 : m.1 28 h = nI b) (hF : ∀ k, k < 64 → F k = (decide (a &&& (k ^^^ 63) = 0) && decide (b &&& k = 0))) : Ca O (d + 1) kX2_strikeUnseen [.ref 41, .int (nI h), .ref 26] none (mm m 44 45 x y) (mm m 44 45 (stO F lim x 64) y) := by
  have inn : ∀ (k : Nat) (x : Nat → Int32) (M : gMem), k < 64 → (∀ u, Go O (d + 1) kX2_strikeUnseen none M 52 [.ref 41, .int (nI h), .ref 26, .int (nI k), .int (bI false), u] [] (mm m 44 45 (stz x (k * 10) (lim + 1)) y)) → ∀ q t, t + q = lim + 1 → Go O (d + 1) kX2_strikeUnseen none M 19 [.ref 41, .int (nI h), .ref 26, .int (nI k), .int (bI false), .int (nI t)] [] (mm m 44 45 (stz x (k * 10) t) y) := by
    intro k x M hk kk q
    induction q with
    | zero =>
      intro t ht
      obtain rfl : t = lim + 1 := by omega
      refine go_iload dX2_strikeUnseen_19 rfl ?_
      refine go_if_ne 52 dX2_strikeUnseen_21 (by decide) (fun h => absurd h (fun q => q (bI_0.mpr rfl))) (fun h21 => ?_)
      refine go_iload dX2_strikeUnseen_24 rfl ?_
      refine go_aload_n dX2_strikeUnseen_26 rfl ?_
      refine go_geti dX2_strikeUnseen_27 fX2_84 rfl (by decide) (by decide) (by decide) rfl hl ?_
      refine go_icmp_gt 52 dX2_strikeUnseen_30 (by decide) (fun h30 => ?_) (fun h => absurd (nI_lt (by omega) (by omega)) h)
      exact kk _
    | succ q ih =>
      intro t ht
      have hi := ih (t + 1) (by omega)
      refine go_iload dX2_strikeUnseen_19 rfl ?_
      refine go_if_ne 52 dX2_strikeUnseen_21 (by decide) (fun h => absurd h (fun q => q (bI_0.mpr rfl))) (fun h21 => ?_)
      refine go_iload dX2_strikeUnseen_24 rfl ?_
      refine go_aload_n dX2_strikeUnseen_26 rfl ?_
      refine go_geti dX2_strikeUnseen_27 fX2_84 rfl (by decide) (by decide) (by decide) rfl hl ?_
      refine go_icmp_gt 52 dX2_strikeUnseen_30 (by decide) (fun h => absurd h (nI_nlt (by omega) (by omega))) (fun h30 => ?_)
      refine go_aload_n dX2_strikeUnseen_33 rfl ?_
      refine go_getc dX2_strikeUnseen_34 fX2_18 rfl (by decide) (by decide) (by decide) rfl ?_
      refine go_iload_n dX2_strikeUnseen_37 rfl ?_
      refine go_bipush (nI 10) dX2_strikeUnseen_38 (by decide +kernel) ?_
      first | refine go_imul_n dX2_strikeUnseen_40 ?_ | refine go_imul dX2_strikeUnseen_40 rfl ?_
      refine go_iload dX2_strikeUnseen_41 rfl ?_
      first | refine go_iadd_n dX2_strikeUnseen_43 ?_ | refine go_iadd dX2_strikeUnseen_43 rfl ?_
      refine go_iconst (nI 0) dX2_strikeUnseen_44 (by decide +kernel) ?_
      refine go_iast dX2_strikeUnseen_45 rfl (by decide) rfl (by omega) (by decide) ?_
      rw [mm_1 (by decide)]
      refine go_iinc_n (L' := [_, _, _, _, _, _]) dX2_strikeUnseen_46 rfl (by decide) rfl ?_
      refine go_goto 19 dX2_strikeUnseen_49 (by decide) ?_
      exact hi
  have out : ∀ q k, k + q = 64 → ∀ u v, Go O (d + 1) kX2_strikeUnseen none (mm m 44 45 (stO F lim x 64) y) 2 [.ref 41, .int (nI h), .ref 26, .int (nI k), u, v] [] (mm m 44 45 (stO F lim x k) y) := by
    intro q
    induction q with
    | zero =>
      intro k hk u v
      obtain rfl : k = 64 := by omega
      refine go_iload_n dX2_strikeUnseen_2 rfl ?_
      refine go_bipush (nI 64) dX2_strikeUnseen_3 (by decide +kernel) ?_
      refine go_icmp_ge 58 dX2_strikeUnseen_5 (by decide) (fun h5 => ?_) (fun h => absurd (nI_le (by omega) (by omega)) h)
      exact go_vret dX2_strikeUnseen_58 rfl rfl rfl
    | succ q ih =>
      intro k hk u v
      have cf := c_fit (O := O) (d := d) (m := mm m 44 45 (stO F lim x k) y) (h := h) (k := k) (a := a) (b := b) hh (by omega) ha hb h1 h2
      rw [← hF k (by omega)] at cf
      have hi := ih (k + 1) (by omega)
      cases hFk : F k with
      | true =>
        rw [hFk] at cf
        rw [show stO F lim x (k + 1) = stO F lim x k by rw [stO, hFk, if_pos rfl]] at hi
        refine go_iload_n dX2_strikeUnseen_2 rfl ?_
        refine go_bipush (nI 64) dX2_strikeUnseen_3 (by decide +kernel) ?_
        refine go_icmp_ge 58 dX2_strikeUnseen_5 (by decide) (fun h => absurd h (nI_ge (by omega) (by omega))) (fun h5 => ?_)
        refine go_aload_n dX2_strikeUnseen_8 rfl ?_
        refine go_iload_n dX2_strikeUnseen_9 rfl ?_
        refine go_iload_n dX2_strikeUnseen_10 rfl ?_
        refine go_callV1 (K' := kX4_fit) [_, _] dX2_strikeUnseen_11 mX2_97 lX4_fit rfl (by decide) rfl (by decide) rfl rfl (Nat.le_of_ble_eq_true rfl) (Nat.le_of_ble_eq_true rfl) (cf) ?_
        refine go_istore (L' := [_, _, _, _, _, _]) dX2_strikeUnseen_14 (by decide) rfl ?_
        refine go_iconst (nI 0) dX2_strikeUnseen_16 (by decide +kernel) ?_
        refine go_istore (L' := [_, _, _, _, _, _]) dX2_strikeUnseen_17 (by decide) rfl ?_
        refine go_iload dX2_strikeUnseen_19 rfl ?_
        refine go_if_ne 52 dX2_strikeUnseen_21 (by decide) (fun h21 => ?_) (fun h => absurd h (bI_n0.mpr rfl))
        refine go_iinc_n (L' := [_, _, _, _, _, _]) dX2_strikeUnseen_52 rfl (by decide) rfl ?_
        refine go_goto 2 dX2_strikeUnseen_55 (by decide) ?_
        exact hi _ _
      | false =>
        rw [hFk] at cf
        rw [show stO F lim x (k + 1) = stz (stO F lim x k) (k * 10) (lim + 1) by rw [stO, hFk, if_neg (by simp)]] at hi
        have i1 := inn k (stO F lim x k) (mm m 44 45 (stO F lim x 64) y) (by omega) (fun u => by
          refine go_iinc_n (L' := [_, _, _, _, _, _]) dX2_strikeUnseen_52 rfl (by decide) rfl ?_
          refine go_goto 2 dX2_strikeUnseen_55 (by decide) ?_
          exact hi _ _) (lim + 1) 0 (by omega)
        refine go_iload_n dX2_strikeUnseen_2 rfl ?_
        refine go_bipush (nI 64) dX2_strikeUnseen_3 (by decide +kernel) ?_
        refine go_icmp_ge 58 dX2_strikeUnseen_5 (by decide) (fun h => absurd h (nI_ge (by omega) (by omega))) (fun h5 => ?_)
        refine go_aload_n dX2_strikeUnseen_8 rfl ?_
        refine go_iload_n dX2_strikeUnseen_9 rfl ?_
        refine go_iload_n dX2_strikeUnseen_10 rfl ?_
        refine go_callV1 (K' := kX4_fit) [_, _] dX2_strikeUnseen_11 mX2_97 lX4_fit rfl (by decide) rfl (by decide) rfl rfl (Nat.le_of_ble_eq_true rfl) (Nat.le_of_ble_eq_true rfl) (cf) ?_
        refine go_istore (L' := [_, _, _, _, _, _]) dX2_strikeUnseen_14 (by decide) rfl ?_
        refine go_iconst (nI 0) dX2_strikeUnseen_16 (by decide +kernel) ?_
        refine go_istore (L' := [_, _, _, _, _, _]) dX2_strikeUnseen_17 (by decide) rfl ?_
        exact i1
  show Go O (d + 1) kX2_strikeUnseen none _ 0 [.ref 41, .int (nI h), .ref 26, .null, .null, .null] [] _
  refine go_iconst (nI 0) dX2_strikeUnseen_0 (by decide +kernel) ?_
  refine go_istore_n (L' := [_, _, _, _, _, _]) dX2_strikeUnseen_1 (by decide) rfl ?_
  exact out 64 0 (by omega) _ _
theorem c_isSeen {O : gOm} {d : Nat} {m : gMem} {h k c : Nat} (hh : h < 6) (hk : k < 64) (hc : c ≤ 8) (h25 : m.1 46 25 = nI c) (hs : ∀ i, i < c → (∃ h, h < 6 ∧ m.1 61 i = nI h) ∧ (∃ p, p < 6 ∧ m.1 62 i = nI p) ∧ ∃ b, m.1 63 i = bI b) : Ca O (d + 1) kX7_isSeen [.ref 46, .int (nI h), .int (nI k)] (some (.int (bI (ftB m c h k)))) m m := by
  have key : ∀ q i, i + q = c → Go O (d + 1) kX7_isSeen (some (.int (bI (ftB m c h k)))) m 5 [.ref 46, .int (nI h), .int (nI k), .int (bI (ftB m i h k)), .int (nI i)] [] m := by
    intro q
    induction q with
    | zero =>
      intro i hi
      obtain rfl : i = c := by omega
      refine go_iload dX7_isSeen_5 rfl ?_
      refine go_aload_n dX7_isSeen_7 rfl ?_
      refine go_geti dX7_isSeen_8 fX7_147 rfl (by decide) (by decide) (by decide) rfl h25 ?_
      refine go_icmp_ge 62 dX7_isSeen_11 (by decide) (fun h11 => ?_) (fun h => absurd (nI_le (by omega) (by omega)) h)
      refine go_iload_n dX7_isSeen_62 rfl ?_
      exact go_zret dX7_isSeen_63 rfl (bI_z _) rfl rfl
    | succ q ih =>
      intro i hi
      obtain ⟨⟨h', hh', e1⟩, ⟨p, hp, e2⟩, b, e3⟩ := hs i (by omega)
      have hi2 := ih (i + 1) (by omega)
      rw [ftB_s hk hp hh hh' e1 e2 e3] at hi2
      have fin : ∀ (v : Bool) (o : Value), v = (ftB m i h k && (decide (h' ≠ h) || decide (k.testBit p = b))) → Go O (d + 1) kX7_isSeen (some (.int (bI (ftB m c h k)))) m 55 [.ref 46, .int (nI h), .int (nI k), o, .int (nI i)] [.int (bI v)] m := by
        intro v o hv
        rw [← hv] at hi2
        refine go_istore_n (L' := [_, _, _, _, _]) dX7_isSeen_55 (by decide) (by cases o <;> rfl) ?_
        refine go_iinc_n (L' := [_, _, _, _, _]) dX7_isSeen_56 rfl (by decide) rfl ?_
        refine go_goto 5 dX7_isSeen_59 (by decide) ?_
        exact hi2
      cases hf : ftB m i h k with
      | false =>
        have f1 := fin false (.int (bI false)) (by rw [hf]; rfl)
        refine go_iload dX7_isSeen_5 rfl ?_
        refine go_aload_n dX7_isSeen_7 rfl ?_
        refine go_geti dX7_isSeen_8 fX7_147 rfl (by decide) (by decide) (by decide) rfl h25 ?_
        refine go_icmp_ge 62 dX7_isSeen_11 (by decide) (fun h => absurd h (nI_ge (by omega) (by omega))) (fun h11 => ?_)
        refine go_iload_n dX7_isSeen_14 rfl ?_
        refine go_if_eq 54 dX7_isSeen_15 (by decide) (fun h15 => ?_) (fun h => absurd (bI_0.mpr rfl) h)
        refine go_iconst (nI 0) dX7_isSeen_54 (by decide +kernel) ?_
        exact f1
      | true =>
        by_cases eh : h' = h
        · subst eh
          by_cases eb : k.testBit p = b
          · have f1 := fin true (.int (bI true)) (by rw [hf]; simp [eb])
            refine go_iload dX7_isSeen_5 rfl ?_
            refine go_aload_n dX7_isSeen_7 rfl ?_
            refine go_geti dX7_isSeen_8 fX7_147 rfl (by decide) (by decide) (by decide) rfl h25 ?_
            refine go_icmp_ge 62 dX7_isSeen_11 (by decide) (fun h => absurd h (nI_ge (by omega) (by omega))) (fun h11 => ?_)
            refine go_iload_n dX7_isSeen_14 rfl ?_
            refine go_if_eq 54 dX7_isSeen_15 (by decide) (fun h => absurd h (bI_n0.mpr rfl)) (fun h15 => ?_)
            refine go_aload_n dX7_isSeen_18 rfl ?_
            refine go_getc dX7_isSeen_19 fX7_53 rfl (by decide) (by decide) (by decide) rfl ?_
            refine go_iload dX7_isSeen_22 rfl ?_
            refine go_iald dX7_isSeen_24 rfl (by decide) rfl (by omega) (by decide) e1 ?_
            refine go_iload_n dX7_isSeen_25 rfl ?_
            refine go_icmp_ne 50 dX7_isSeen_26 (by decide) (fun h => absurd h (fun q => q rfl)) (fun h26 => ?_)
            refine go_iload_n dX7_isSeen_29 rfl ?_
            refine go_aload_n dX7_isSeen_30 rfl ?_
            refine go_getc dX7_isSeen_31 fX7_56 rfl (by decide) (by decide) (by decide) rfl ?_
            refine go_iload dX7_isSeen_34 rfl ?_
            refine go_iald dX7_isSeen_36 rfl (by decide) rfl (by omega) (by decide) e2 ?_
            refine go_callS1 (K' := kX7_has) [_, _] dX7_isSeen_37 mX7_109 lX7_has rfl rfl (Nat.le_of_ble_eq_true rfl) (Nat.le_of_ble_eq_true rfl) (c_has (by omega) (by omega)) ?_
            refine go_aload_n dX7_isSeen_40 rfl ?_
            refine go_getc dX7_isSeen_41 fX7_59 rfl (by decide) (by decide) (by decide) rfl ?_
            refine go_iload dX7_isSeen_44 rfl ?_
            refine go_zald dX7_isSeen_46 rfl (by decide) rfl (by omega) (by decide) e3 ?_
            refine go_icmp_ne 54 dX7_isSeen_47 (by decide) (fun h => absurd h (fun q => q (by rw [eb]))) (fun h47 => ?_)
            refine go_iconst (nI 1) dX7_isSeen_50 (by decide +kernel) ?_
            refine go_goto 55 dX7_isSeen_51 (by decide) ?_
            exact f1
          · have f1 := fin false (.int (bI true)) (by rw [hf]; simp [eb])
            refine go_iload dX7_isSeen_5 rfl ?_
            refine go_aload_n dX7_isSeen_7 rfl ?_
            refine go_geti dX7_isSeen_8 fX7_147 rfl (by decide) (by decide) (by decide) rfl h25 ?_
            refine go_icmp_ge 62 dX7_isSeen_11 (by decide) (fun h => absurd h (nI_ge (by omega) (by omega))) (fun h11 => ?_)
            refine go_iload_n dX7_isSeen_14 rfl ?_
            refine go_if_eq 54 dX7_isSeen_15 (by decide) (fun h => absurd h (bI_n0.mpr rfl)) (fun h15 => ?_)
            refine go_aload_n dX7_isSeen_18 rfl ?_
            refine go_getc dX7_isSeen_19 fX7_53 rfl (by decide) (by decide) (by decide) rfl ?_
            refine go_iload dX7_isSeen_22 rfl ?_
            refine go_iald dX7_isSeen_24 rfl (by decide) rfl (by omega) (by decide) e1 ?_
            refine go_iload_n dX7_isSeen_25 rfl ?_
            refine go_icmp_ne 50 dX7_isSeen_26 (by decide) (fun h => absurd h (fun q => q rfl)) (fun h26 => ?_)
            refine go_iload_n dX7_isSeen_29 rfl ?_
            refine go_aload_n dX7_isSeen_30 rfl ?_
            refine go_getc dX7_isSeen_31 fX7_56 rfl (by decide) (by decide) (by decide) rfl ?_
            refine go_iload dX7_isSeen_34 rfl ?_
            refine go_iald dX7_isSeen_36 rfl (by decide) rfl (by omega) (by decide) e2 ?_
            refine go_callS1 (K' := kX7_has) [_, _] dX7_isSeen_37 mX7_109 lX7_has rfl rfl (Nat.le_of_ble_eq_true rfl) (Nat.le_of_ble_eq_true rfl) (c_has (by omega) (by omega)) ?_
            refine go_aload_n dX7_isSeen_40 rfl ?_
            refine go_getc dX7_isSeen_41 fX7_59 rfl (by decide) (by decide) (by decide) rfl ?_
            refine go_iload dX7_isSeen_44 rfl ?_
            refine go_zald dX7_isSeen_46 rfl (by decide) rfl (by omega) (by decide) e3 ?_
            refine go_icmp_ne 54 dX7_isSeen_47 (by decide) (fun h47 => ?_) (fun h => absurd h (fun q => eb (bI_inj.mp q)))
            refine go_iconst (nI 0) dX7_isSeen_54 (by decide +kernel) ?_
            exact f1
        · have f1 := fin true (.int (bI true)) (by rw [hf]; simp [eh])
          refine go_iload dX7_isSeen_5 rfl ?_
          refine go_aload_n dX7_isSeen_7 rfl ?_
          refine go_geti dX7_isSeen_8 fX7_147 rfl (by decide) (by decide) (by decide) rfl h25 ?_
          refine go_icmp_ge 62 dX7_isSeen_11 (by decide) (fun h => absurd h (nI_ge (by omega) (by omega))) (fun h11 => ?_)
          refine go_iload_n dX7_isSeen_14 rfl ?_
          refine go_if_eq 54 dX7_isSeen_15 (by decide) (fun h => absurd h (bI_n0.mpr rfl)) (fun h15 => ?_)
          refine go_aload_n dX7_isSeen_18 rfl ?_
          refine go_getc dX7_isSeen_19 fX7_53 rfl (by decide) (by decide) (by decide) rfl ?_
          refine go_iload dX7_isSeen_22 rfl ?_
          refine go_iald dX7_isSeen_24 rfl (by decide) rfl (by omega) (by decide) e1 ?_
          refine go_iload_n dX7_isSeen_25 rfl ?_
          refine go_icmp_ne 50 dX7_isSeen_26 (by decide) (fun h26 => ?_) (fun h => absurd h (fun q => eh ((nI_eq (by omega) (by omega)).mp q)))
          refine go_iconst (nI 1) dX7_isSeen_50 (by decide +kernel) ?_
          refine go_goto 55 dX7_isSeen_51 (by decide) ?_
          exact f1
  have k0 := key c 0 (by omega)
  rw [show ftB m 0 h k = true by simp [ftB, snA]] at k0
  show Go O (d + 1) kX7_isSeen _ m 0 [.ref 46, .int (nI h), .int (nI k), .null, .null] [] m
  refine go_iconst (nI 1) dX7_isSeen_0 (by decide +kernel) ?_
  refine go_istore_n (L' := [_, _, _, _, _]) dX7_isSeen_1 (by decide) rfl ?_
  refine go_iconst (nI 0) dX7_isSeen_2 (by decide +kernel) ?_
  refine go_istore (L' := [_, _, _, _, _]) dX7_isSeen_3 (by decide) rfl ?_
  exact k0
