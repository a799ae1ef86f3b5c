/-! READING A TEXT: the pure picture -/
/-- people, news, where they are by hours, limits, worths, who knows it from the start -/
abbrev tx_S : Type := Nat × Nat × (Nat → Nat → Option Nat) × (Nat → Nat) × (Nat → Nat) × (Nat → Nat)
/-- a person's sign: a place, nowhere; or a fault -/
def tx_pl (x : Nat → Nat) (L at_ : Nat) : Option (Option Nat) := match dg x L at_ 3 with
  | some a => some (some a)
  | none => if at_ < L ∧ x at_ = 45 then some none else none
def tx_w (x : Nat → Nat) (L st j : Nat) : Option Nat := (tx_pl x L (st + j)).getD none
/-- the first fault of a person's hours -/
def tx_rp (x : Nat → Nat) (L : Nat) : Nat → Nat → Option Nat
  | 0, _ => none
  | n + 1, at_ => match tx_pl x L at_ with
    | none => some at_
    | some _ => tx_rp x L n (at_ + 1)
def tx_wH (w : Nat → Nat → Option Nat) (P : Nat) (ws : Nat → Option Nat) (h : Nat) : Nat → Nat → Option Nat := fun p j => if p = P then (if j < h then ws j else none) else w p j
/-- those that know it -/
def tx_kr (x : Nat → Nat) (L P : Nat) : Nat → Nat → Nat → Nat × Nat
  | 0, at_, k => (at_, k)
  | n + 1, at_, k => match dg x L at_ P with
    | none => (at_, k)
    | some p => if k.testBit p = true then (at_, k) else tx_kr x L P n (at_ + 1) (k ||| 2 ^ p)
def tx_uN (f : Nat → Nat) (n v : Nat) : Nat → Nat := fun i => if i = n then v else f i
def tx_prs (x : Nat → Nat) (L : Nat) : Nat → Nat → Nat → Nat → (Nat → Nat → Option Nat) → (Nat → Nat) → (Nat → Nat) → (Nat → Nat) → Nat ⊕ tx_S
  | 0, _, P, N, w, li, wo, fi => .inr (P, N, w, li, wo, fi)
  | f + 1, at_, P, N, w, li, wo, fi =>
    if at_ < L then
      if x at_ = 80 ∧ P < 6 then
        match tx_rp x L 6 (at_ + 1) with
        | some q => .inl q
        | none => tx_prs x L f (at_ + 7) (P + 1) N (tx_wH w P (tx_w x L (at_ + 1)) 6) li wo fi
      else if x at_ = 78 ∧ N < 3 then
        match dg x L (at_ + 1) 10 with
        | none => .inl (at_ + 1)
        | some l => match dg x L (at_ + 2) 10 with
          | none => .inl (at_ + 2)
          | some o => tx_prs x L f (tx_kr x L P 6 (at_ + 3) 0).1 P (N + 1) w (tx_uN li N l) (tx_uN wo N o) (tx_uN fi N (tx_kr x L P 6 (at_ + 3) 0).2)
      else .inl at_
    else .inr (P, N, w, li, wo, fi)
def tx_A : Nat ⊕ tx_S → Int32
  | .inl q => nI q
  | .inr _ => -9
abbrev tx_0 (x : Nat → Nat) (L : Nat) : Nat ⊕ tx_S := tx_prs x L 72 2 0 0 (fun _ _ => none) (fun _ => 0) (fun _ => 0) (fun _ => 0)
def tx_F (x : Nat → Nat) (L : Nat) : Int32 := if 0 < L ∧ x 0 = 68 then (match dg x L 1 3 with
  | none => nI 1
  | some _ => tx_A (tx_0 x L)) else nI 0
section TxSteps
variable {x : Nat → Nat} {L f at_ P N : Nat} {w : Nat → Nat → Option Nat} {li wo fi : Nat → Nat}
theorem tx_end (h : ¬ at_ < L) : tx_prs x L f at_ P N w li wo fi = .inr (P, N, w, li, wo, fi) := by
  cases f with
  | zero => rfl
  | succ f => rw [tx_prs, if_neg h]
theorem tx_P0 {q : Nat} (h : at_ < L) (h1 : x at_ = 80 ∧ P < 6) (hr : tx_rp x L 6 (at_ + 1) = some q) : tx_prs x L (f + 1) at_ P N w li wo fi = .inl q := by
  rw [tx_prs, if_pos h, if_pos h1, hr]
theorem tx_P1 (h : at_ < L) (h1 : x at_ = 80 ∧ P < 6) (hr : tx_rp x L 6 (at_ + 1) = none) : tx_prs x L (f + 1) at_ P N w li wo fi = tx_prs x L f (at_ + 7) (P + 1) N (tx_wH w P (tx_w x L (at_ + 1)) 6) li wo fi := by
  rw [tx_prs, if_pos h, if_pos h1, hr]
theorem tx_N0 (h : at_ < L) (h1 : ¬ (x at_ = 80 ∧ P < 6)) (h2 : x at_ = 78 ∧ N < 3) (hr : dg x L (at_ + 1) 10 = none) : tx_prs x L (f + 1) at_ P N w li wo fi = .inl (at_ + 1) := by
  rw [tx_prs, if_pos h, if_neg h1, if_pos h2, hr]
theorem tx_N1 {l : Nat} (h : at_ < L) (h1 : ¬ (x at_ = 80 ∧ P < 6)) (h2 : x at_ = 78 ∧ N < 3) (hr : dg x L (at_ + 1) 10 = some l) (hr2 : dg x L (at_ + 2) 10 = none) : tx_prs x L (f + 1) at_ P N w li wo fi = .inl (at_ + 2) := by
  rw [tx_prs, if_pos h, if_neg h1, if_pos h2, hr]
  dsimp only
  rw [hr2]
theorem tx_N2 {l o : Nat} (h : at_ < L) (h1 : ¬ (x at_ = 80 ∧ P < 6)) (h2 : x at_ = 78 ∧ N < 3) (hr : dg x L (at_ + 1) 10 = some l) (hr2 : dg x L (at_ + 2) 10 = some o) : tx_prs x L (f + 1) at_ P N w li wo fi = tx_prs x L f (tx_kr x L P 6 (at_ + 3) 0).1 P (N + 1) w (tx_uN li N l) (tx_uN wo N o) (tx_uN fi N (tx_kr x L P 6 (at_ + 3) 0).2) := by
  rw [tx_prs, if_pos h, if_neg h1, if_pos h2, hr]
  dsimp only
  rw [hr2]
theorem tx_X (h : at_ < L) (h1 : ¬ (x at_ = 80 ∧ P < 6)) (h2 : ¬ (x at_ = 78 ∧ N < 3)) : tx_prs x L (f + 1) at_ P N w li wo fi = .inl at_ := by
  rw [tx_prs, if_pos h, if_neg h1, if_neg h2]
end TxSteps
theorem tx_pl_n {x : Nat → Nat} {L at_ : Nat} (h : tx_pl x L at_ = none) : dg x L at_ 3 = none ∧ ¬ (at_ < L ∧ x at_ = 45) := by
  unfold tx_pl at h
  cases hd : dg x L at_ 3 with
  | some a => rw [hd] at h; cases h
  | none =>
    rw [hd] at h
    refine ⟨rfl, fun q => ?_⟩
    dsimp only at h
    rw [if_pos q] at h
    cases h
theorem tx_pl_0 {x : Nat → Nat} {L at_ : Nat} (h : tx_pl x L at_ = some none) : dg x L at_ 3 = none ∧ at_ < L ∧ x at_ = 45 := by
  unfold tx_pl at h
  cases hd : dg x L at_ 3 with
  | some a => rw [hd] at h; cases h
  | none =>
    rw [hd] at h
    dsimp only at h
    by_cases q : at_ < L ∧ x at_ = 45
    · exact ⟨rfl, q⟩
    · rw [if_neg q] at h
      cases h
theorem tx_pl_1 {x : Nat → Nat} {L at_ a : Nat} (h : tx_pl x L at_ = some (some a)) : dg x L at_ 3 = some a := by
  unfold tx_pl at h
  cases hd : dg x L at_ 3 with
  | some b =>
    rw [hd] at h
    exact Option.some.inj h
  | none =>
    rw [hd] at h
    dsimp only at h
    by_cases q : at_ < L ∧ x at_ = 45
    · rw [if_pos q] at h
      cases Option.some.inj h
    · rw [if_neg q] at h
      cases h
theorem tx_pl_lt {x : Nat → Nat} {L at_ : Nat} {o : Option Nat} (h : tx_pl x L at_ = some o) : at_ < L := by
  cases o with
  | none => exact (tx_pl_0 h).2.1
  | some a => exact (dg_s (tx_pl_1 h)).1
theorem tx_w_of {x : Nat → Nat} {L st j : Nat} {o : Option Nat} (h : tx_pl x L (st + j) = some o) : tx_w x L st j = o := by
  rw [tx_w, h]
  rfl
theorem tx_w_lt {x : Nat → Nat} {L st j a : Nat} (h : tx_w x L st j = some a) : a < 3 := by
  cases hp : tx_pl x L (st + j) with
  | none => rw [tx_w, hp] at h; cases h
  | some o =>
    rw [tx_w_of hp] at h
    rw [h] at hp
    exact (dg_s (tx_pl_1 hp)).2.1
theorem tx_rp_le {x : Nat → Nat} {L : Nat} : ∀ n at_, at_ ≤ L → tx_rp x L n at_ = none → at_ + n ≤ L
  | 0, at_, h, _ => h
  | n + 1, at_, h, hr => by
    cases hp : tx_pl x L at_ with
    | none => rw [tx_rp, hp] at hr; cases hr
    | some o =>
      rw [tx_rp, hp] at hr
      have := tx_rp_le n (at_ + 1) (tx_pl_lt hp) hr
      omega
theorem tx_rp_q {x : Nat → Nat} {L q : Nat} : ∀ n at_, tx_rp x L n at_ = some q → q < at_ + n
  | 0, at_, hr => by rw [tx_rp] at hr; cases hr
  | n + 1, at_, hr => by
    cases hp : tx_pl x L at_ with
    | none =>
      rw [tx_rp, hp] at hr
      have := Option.some.inj hr
      omega
    | some o =>
      rw [tx_rp, hp] at hr
      have := tx_rp_q n (at_ + 1) hr
      omega
theorem tx_k_pc : ∀ k, k < 64 → ∀ p, p < 6 → k.testBit p = false → pc6 (k ||| 2 ^ p) = pc6 k + 1 := by decide +kernel
theorem tx_k_63 : ∀ k, k < 64 → pc6 k = 6 → ∀ p, p < 6 → k.testBit p = true := by decide +kernel
theorem tx_p64 : ∀ p, p < 6 → 2 ^ p < 64 := by decide +kernel
theorem tx_kr_n {x : Nat → Nat} {L P n at_ k : Nat} (h : dg x L at_ P = none) : tx_kr x L P n at_ k = (at_, k) := by
  cases n with
  | zero => rfl
  | succ n => rw [tx_kr, h]
theorem tx_kr_t {x : Nat → Nat} {L P n at_ k p : Nat} (h : dg x L at_ P = some p) (hb : k.testBit p = true) : tx_kr x L P n at_ k = (at_, k) := by
  cases n with
  | zero => rfl
  | succ n =>
    rw [tx_kr, h]
    exact if_pos hb
theorem tx_kr_s {x : Nat → Nat} {L P n at_ k p : Nat} (h : dg x L at_ P = some p) (hb : ¬ k.testBit p = true) : tx_kr x L P (n + 1) at_ k = tx_kr x L P n (at_ + 1) (k ||| 2 ^ p) := by
  rw [tx_kr, h]
  exact if_neg hb
theorem tx_kr_ok {x : Nat → Nat} {L P : Nat} (hP : P ≤ 6) : ∀ n at_ k, at_ ≤ L → k < 64 → at_ ≤ (tx_kr x L P n at_ k).1 ∧ (tx_kr x L P n at_ k).1 ≤ L ∧ (tx_kr x L P n at_ k).2 < 64
  | 0, at_, k, h, hk => ⟨Nat.le_refl _, h, hk⟩
  | n + 1, at_, k, h, hk => by
    cases hd : dg x L at_ P with
    | none => rw [tx_kr_n hd]; exact ⟨Nat.le_refl _, h, hk⟩
    | some p =>
      by_cases hb : k.testBit p = true
      · rw [tx_kr_t hd hb]; exact ⟨Nat.le_refl _, h, hk⟩
      · rw [tx_kr_s hd hb]
        obtain ⟨d1, d2, d3⟩ := dg_s hd
        obtain ⟨q1, q2, q3⟩ := tx_kr_ok hP n (at_ + 1) (k ||| 2 ^ p) d1 (or_lt64 hk (tx_p64 p (by omega)))
        exact ⟨by omega, q2, q3⟩
/-- behind them stands no one that could know it more -/
theorem tx_kr_x {x : Nat → Nat} {L P : Nat} (hP : P ≤ 6) : ∀ n at_ k, k < 64 → pc6 k + n = 6 → ∀ p, dg x L (tx_kr x L P n at_ k).1 P = some p → (tx_kr x L P n at_ k).2.testBit p = true
  | 0, at_, k, hk, h6, p, hp => tx_k_63 k hk h6 p (Nat.lt_of_lt_of_le (dg_s hp).2.1 hP)
  | n + 1, at_, k, hk, h6, p, hp => by
    cases hd : dg x L at_ P with
    | none =>
      rw [tx_kr_n hd] at hp
      rw [hd] at hp
      cases hp
    | some p' =>
      by_cases hb : k.testBit p' = true
      · rw [tx_kr_t hd hb] at hp ⊢
        rw [hd] at hp
        cases hp
        exact hb
      · rw [tx_kr_s hd hb] at hp ⊢
        have d2 := (dg_s hd).2.1
        have hpc := tx_k_pc k hk p' (by omega) (by simpa using hb)
        exact tx_kr_x hP n _ _ (or_lt64 hk (tx_p64 p' (by omega))) (by omega) p hp
/-- what is read is sound -/
def tx_Ok (P N : Nat) (w : Nat → Nat → Option Nat) (li fi : Nat → Nat) : Prop := P ≤ 6 ∧ N ≤ 3 ∧ (∀ p h, P ≤ p → w p h = none) ∧ (∀ p h a, w p h = some a → a < 3) ∧ (∀ n, n < N → li n ≤ 9) ∧ (∀ n, fi n < 64) ∧ ∀ n, N ≤ n → fi n = 0
theorem tx_Ok.P {x : Nat → Nat} {L st P N : Nat} {w : Nat → Nat → Option Nat} {li fi : Nat → Nat} (h : tx_Ok P N w li fi) (hP : P < 6) : tx_Ok (P + 1) N (tx_wH w P (tx_w x L st) 6) li fi := by
  obtain ⟨h1, h2, h3, h4, h5⟩ := h
  refine ⟨hP, h2, fun p h hp => ?_, fun p h a e => ?_, h5⟩
  · rw [tx_wH, if_neg (by omega)]
    exact h3 p h (by omega)
  · rw [tx_wH] at e
    by_cases hp : p = P
    · rw [if_pos hp] at e
      by_cases hh : h < 6
      · rw [if_pos hh] at e
        exact tx_w_lt e
      · rw [if_neg hh] at e
        cases e
    · rw [if_neg hp] at e
      exact h4 p h a e
theorem tx_Ok.N {P N l k : Nat} {w : Nat → Nat → Option Nat} {li fi : Nat → Nat} (h : tx_Ok P N w li fi) (hN : N < 3) (hl : l ≤ 9) (hk : k < 64) : tx_Ok P (N + 1) w (tx_uN li N l) (tx_uN fi N k) := by
  obtain ⟨h1, h2, h3, h4, h5, h6, h7⟩ := h
  refine ⟨h1, hN, h3, h4, fun n hn => ?_, fun n => ?_, fun n hn => ?_⟩
  · rw [tx_uN]
    by_cases e : n = N
    · rw [if_pos e]; exact hl
    · rw [if_neg e]; exact h5 n (by omega)
  · rw [tx_uN]
    by_cases e : n = N
    · rw [if_pos e]; exact hk
    · rw [if_neg e]; exact h6 n
  · rw [tx_uN, if_neg (by omega)]
    exact h7 n (by omega)
theorem tx_Ok.st : tx_Ok 0 0 (fun _ _ => none) (fun _ => 0) (fun _ => 0) := ⟨by omega, by omega, fun _ _ _ => rfl, fun _ _ _ h => (by cases h), fun _ h => absurd h (by omega), fun _ => by show 0 < 64; omega, fun _ _ => rfl⟩
theorem tx_prs_ok {x : Nat → Nat} {L P' N' : Nat} {w' : Nat → Nat → Option Nat} {li' wo' fi' : Nat → Nat} : ∀ f at_ P N w li wo fi, at_ ≤ L → tx_Ok P N w li fi → tx_prs x L f at_ P N w li wo fi = .inr (P', N', w', li', wo', fi') → tx_Ok P' N' w' li' fi'
  | 0, at_, P, N, w, li, wo, fi, _, hk, h => by
    rw [tx_prs] at h
    cases h
    exact hk
  | f + 1, at_, P, N, w, li, wo, fi, ha, hk, h => by
    by_cases hl : at_ < L
    · by_cases h1 : x at_ = 80 ∧ P < 6
      · cases hr : tx_rp x L 6 (at_ + 1) with
        | some q => rw [tx_P0 hl h1 hr] at h; cases h
        | none =>
          rw [tx_P1 hl h1 hr] at h
          exact tx_prs_ok f _ _ _ _ _ _ _ (by have := tx_rp_le 6 (at_ + 1) hl hr; omega) (hk.P h1.2) h
      · by_cases h2 : x at_ = 78 ∧ N < 3
        · cases hr : dg x L (at_ + 1) 10 with
          | none => rw [tx_N0 hl h1 h2 hr] at h; cases h
          | some l =>
            cases hr2 : dg x L (at_ + 2) 10 with
            | none => rw [tx_N1 hl h1 h2 hr hr2] at h; cases h
            | some o =>
              rw [tx_N2 hl h1 h2 hr hr2] at h
              have d1 := dg_s hr
              have d2 := dg_s hr2
              have q := tx_kr_ok (x := x) hk.1 6 (at_ + 3) 0 d2.1 (by omega)
              exact tx_prs_ok f _ _ _ _ _ _ _ q.2.1 (hk.N h2.2 (by omega) q.2.2) h
        · rw [tx_X hl h1 h2] at h; cases h
    · rw [tx_end hl] at h
      cases h
      exact hk
theorem tx_prs_q {x : Nat → Nat} {L q : Nat} : ∀ f at_ P N w li wo fi, tx_prs x L f at_ P N w li wo fi = .inl q → q < L + 10
  | 0, at_, P, N, w, li, wo, fi, h => by
    rw [tx_prs] at h
    cases h
  | f + 1, at_, P, N, w, li, wo, fi, h => by
    by_cases hl : at_ < L
    · by_cases h1 : x at_ = 80 ∧ P < 6
      · cases hr : tx_rp x L 6 (at_ + 1) with
        | some q' =>
          rw [tx_P0 hl h1 hr] at h
          have := Sum.inl.inj h
          have := tx_rp_q 6 (at_ + 1) hr
          omega
        | none =>
          rw [tx_P1 hl h1 hr] at h
          exact tx_prs_q f _ _ _ _ _ _ _ h
      · by_cases h2 : x at_ = 78 ∧ N < 3
        · cases hr : dg x L (at_ + 1) 10 with
          | none =>
            rw [tx_N0 hl h1 h2 hr] at h
            have := Sum.inl.inj h
            omega
          | some l =>
            cases hr2 : dg x L (at_ + 2) 10 with
            | none =>
              rw [tx_N1 hl h1 h2 hr hr2] at h
              have := Sum.inl.inj h
              omega
            | some o =>
              rw [tx_N2 hl h1 h2 hr hr2] at h
              exact tx_prs_q f _ _ _ _ _ _ _ h
        · rw [tx_X hl h1 h2] at h
          have := Sum.inl.inj h
          omega
    · rw [tx_end hl] at h
      cases h
/-- a whole day -/
theorem tx_F_9 {x : Nat → Nat} {L : Nat} (hL : L ≤ 72) (h : tx_F x L = -9) : (0 < L ∧ x 0 = 68) ∧ ∃ (lw P N : Nat) (w : Nat → Nat → Option Nat) (li wo fi : Nat → Nat), dg x L 1 3 = some lw ∧ tx_0 x L = .inr (P, N, w, li, wo, fi) := by
  unfold tx_F at h
  by_cases h0 : 0 < L ∧ x 0 = 68
  · rw [if_pos h0] at h
    refine ⟨h0, ?_⟩
    cases hd : dg x L 1 3 with
    | none =>
      rw [hd] at h
      exact absurd (show nI 1 = -9 from h) (by decide +kernel)
    | some lw =>
      rw [hd] at h
      dsimp only at h
      cases hp : tx_0 x L with
      | inl q =>
        rw [hp] at h
        have := tx_prs_q _ _ _ _ _ _ _ _ hp
        exact absurd h (nI_n9 (by omega))
      | inr s =>
        obtain ⟨P, N, w, li, wo, fi⟩ := s
        exact ⟨lw, P, N, w, li, wo, fi, rfl, rfl⟩
  · rw [if_neg h0] at h
    exact absurd h (by decide +kernel)
/-- groups -/
def tx_gA (w : Nat → Nat → Option Nat) (h a : Nat) : Nat → Nat
  | 0 => 0
  | p + 1 => tx_gA w h a p ||| (if w p h = some a then 2 ^ p else 0)
def tx_gw (w : Nat → Nat → Option Nat) (h a : Nat) : Nat := tx_gA w h a 6
theorem tx_gA_bit (w : Nat → Nat → Option Nat) (h a i : Nat) : ∀ n, (tx_gA w h a n).testBit i = (decide (i < n) && decide (w i h = some a))
  | 0 => by simp [tx_gA]
  | n + 1 => by
    rw [tx_gA, Nat.testBit_or, tx_gA_bit w h a i n]
    by_cases e : i = n
    · subst e
      by_cases q : w i h = some a
      · simp [q]
      · simp [q]
    · have e1 : decide (i < n + 1) = decide (i < n) := by
        by_cases z : i < n
        · rw [decide_eq_true z, decide_eq_true (by omega)]
        · rw [decide_eq_false z, decide_eq_false (by omega)]
      rw [e1]
      by_cases q : w n h = some a
      · rw [if_pos q, Nat.testBit_two_pow, decide_eq_false (p := n = i) (fun z => e z.symm), Bool.or_false]
      · rw [if_neg q, Nat.zero_testBit, Bool.or_false]
theorem tx_gw_bit (w : Nat → Nat → Option Nat) (h a i : Nat) : (tx_gw w h a).testBit i = (decide (i < 6) && decide (w i h = some a)) := tx_gA_bit w h a i 6
theorem tx_gw_same {w w' : Nat → Nat → Option Nat} {h a : Nat} (e : ∀ p, w' p h = some a ↔ w p h = some a) : tx_gw w' h a = tx_gw w h a := by
  apply Nat.eq_of_testBit_eq
  intro i
  rw [tx_gw_bit, tx_gw_bit]
  have : decide (w' i h = some a) = decide (w i h = some a) := by
    by_cases z : w i h = some a
    · rw [decide_eq_true z, decide_eq_true ((e i).mpr z)]
    · rw [decide_eq_false z, decide_eq_false (fun q => z ((e i).mp q))]
  rw [this]
theorem tx_gw_set {w w' : Nat → Nat → Option Nat} {h a P : Nat} (hP : P < 6) (e0 : w' P h = some a) (e : ∀ p, p ≠ P → w' p h = w p h) : tx_gw w' h a = tx_gw w h a ||| 2 ^ P := by
  apply Nat.eq_of_testBit_eq
  intro i
  rw [Nat.testBit_or, tx_gw_bit, tx_gw_bit, Nat.testBit_two_pow]
  by_cases q : i = P
  · subst q
    rw [decide_eq_true e0, decide_eq_true hP]
    simp
  · rw [e i q, decide_eq_false (p := P = i) (fun z => q z.symm), Bool.or_false]
/-- hour by hour -/
theorem tx_wH_0 {w : Nat → Nat → Option Nat} {P : Nat} {ws : Nat → Option Nat} (h : ∀ j, w P j = none) : tx_wH w P ws 0 = w := by
  funext p j
  rw [tx_wH]
  by_cases e : p = P
  · rw [if_pos e, if_neg (by omega), e, h j]
  · rw [if_neg e]
theorem tx_wH_n {w : Nat → Nat → Option Nat} {P h : Nat} {ws : Nat → Option Nat} (e : ws h = none) : tx_wH w P ws (h + 1) = tx_wH w P ws h := by
  funext p j
  rw [tx_wH, tx_wH]
  by_cases e1 : p = P
  · rw [if_pos e1, if_pos e1]
    by_cases e2 : j = h
    · rw [if_pos (by omega), if_neg (by omega), e2, e]
    · by_cases e3 : j < h
      · rw [if_pos e3, if_pos (by omega)]
      · rw [if_neg e3, if_neg (by omega)]
  · rw [if_neg e1, if_neg e1]
theorem tx_wH_at {w : Nat → Nat → Option Nat} {P h : Nat} {ws : Nat → Option Nat} : tx_wH w P ws (h + 1) P h = ws h := by
  rw [tx_wH, if_pos rfl, if_pos (by omega)]
theorem tx_wH_o {w : Nat → Nat → Option Nat} {P h p j : Nat} {ws : Nat → Option Nat} (e : ¬ (p = P ∧ j = h)) : tx_wH w P ws (h + 1) p j = tx_wH w P ws h p j := by
  rw [tx_wH, tx_wH]
  by_cases e1 : p = P
  · rw [if_pos e1, if_pos e1]
    by_cases e3 : j < h
    · rw [if_pos e3, if_pos (by omega)]
    · rw [if_neg e3, if_neg (by omega)]
  · rw [if_neg e1, if_neg e1]
theorem tx_wH_c {w : Nat → Nat → Option Nat} {P h : Nat} {ws : Nat → Option Nat} : tx_wH w P ws h P h = none := by
  rw [tx_wH, if_pos rfl, if_neg (by omega)]
theorem TxC.of {m m' : gMem} {L : Nat} {x : Nat → Nat} (h : TxC m L x) (e1 : m'.1 1 = m.1 1) (e2 : m'.1 2 = m.1 2) : TxC m' L x := by
  unfold TxC at *
  rw [e1, e2]
  exact h
theorem TxM.of {m m' : gMem} {L : Nat} {x : Nat → Nat} (h : TxM m L x) (e1 : m'.1 46 2 = m.1 46 2) (e2 : m'.1 47 = m.1 47) : TxM m' L x := by
  unfold TxM at *
  rw [e1, e2]
  exact h
/-- the class's draft -/
def tx_DC (m : gMem) (T lw P N : Nat) (w : Nat → Nat → Option Nat) (li wo fi : Nat → Nat) : Prop := m.1 T 5 = nI P ∧ m.1 T 6 = nI N ∧ m.1 T 7 = nI lw ∧ (∀ p h, p < 6 → h < 6 → m.1 (T + 1) (p * 6 + h) = oI (-9) (w p h)) ∧ (∀ h a, h < 6 → a < 3 → m.1 (T + 2) (h * 3 + a) = nI (tx_gw w h a)) ∧ ∀ n, n < 3 → m.1 (T + 3) n = nI (li n) ∧ m.1 (T + 4) n = nI (wo n) ∧ m.1 (T + 5) n = nI (fi n)
def tx_pt (m : gMem) (T P h a g : Nat) : gMem := gup (gup m (T + 1) (P * 6 + h) (nI a)) (T + 2) (h * 3 + a) (nI (g ||| 2 ^ P))
theorem tx_DC.put {m : gMem} {T lw P N h a : Nat} {w : Nat → Nat → Option Nat} {ws : Nat → Option Nat} {li wo fi : Nat → Nat} (hd : tx_DC m T lw P N (tx_wH w P ws h) li wo fi) (hP : P < 6) (hh : h < 6) (hw : ws h = some a) (ha : a < 3) : tx_DC (tx_pt m T P h a (tx_gw (tx_wH w P ws h) h a)) T lw P N (tx_wH w P ws (h + 1)) li wo fi := by
  obtain ⟨d1, d2, d3, d4, d5, d6⟩ := hd
  unfold tx_pt
  refine ⟨?_, ?_, ?_, fun p j hp hj => ?_, fun j b hj hb => ?_, fun n hn => ?_⟩
  · rw [gup_k _ _ (by omega), gup_k _ _ (by omega)]; exact d1
  · rw [gup_k _ _ (by omega), gup_k _ _ (by omega)]; exact d2
  · rw [gup_k _ _ (by omega), gup_k _ _ (by omega)]; exact d3
  · rw [gup_k _ _ (by omega), gup_if]
    by_cases e : p = P ∧ j = h
    · rw [e.1, e.2, if_pos rfl, tx_wH_at, hw]
      rfl
    · rw [if_neg (by omega), tx_wH_o e]
      exact d4 p j hp hj
  · rw [gup_if]
    by_cases e : j = h ∧ b = a
    · rw [e.1, e.2, if_pos rfl]
      rw [tx_gw_set (w := tx_wH w P ws h) hP (tx_wH_at.trans hw) (fun p hp => tx_wH_o (fun z => hp z.1))]
    · rw [if_neg (by omega), gup_k _ _ (by omega), d5 j b hj hb]
      rw [tx_gw_same (w' := tx_wH w P ws (h + 1)) (fun p => ?_)]
      by_cases e2 : p = P ∧ j = h
      · rw [e2.1, e2.2, tx_wH_at, tx_wH_c, hw]
        constructor
        · intro q
          exact absurd ⟨e2.2, (Option.some.inj q).symm⟩ e
        · intro q
          cases q
      · rw [tx_wH_o e2]
  · rw [gup_k _ _ (by omega), gup_k _ _ (by omega), gup_k _ _ (by omega), gup_k _ _ (by omega), gup_k _ _ (by omega), gup_k _ _ (by omega)]
    exact d6 n hn
theorem tx_DC.inc {m : gMem} {T lw P N : Nat} {w : Nat → Nat → Option Nat} {li wo fi : Nat → Nat} (hd : tx_DC m T lw P N w li wo fi) : tx_DC (gup m T 5 (nI (P + 1))) T lw (P + 1) N w li wo fi := by
  obtain ⟨d1, d2, d3, d4, d5, d6⟩ := hd
  refine ⟨gup_s _ _ _ _, ?_, ?_, fun p j hp hj => ?_, fun j b hj hb => ?_, fun n hn => ?_⟩
  · rw [gup_i _ _ (by decide)]; exact d2
  · rw [gup_i _ _ (by decide)]; exact d3
  · rw [gup_k _ _ (by omega)]; exact d4 p j hp hj
  · rw [gup_k _ _ (by omega)]; exact d5 j b hj hb
  · rw [gup_k _ _ (by omega), gup_k _ _ (by omega), gup_k _ _ (by omega)]; exact d6 n hn
def tx_nw (m : gMem) (T N l o k : Nat) : gMem := gup (gup (gup (gup m (T + 3) N (nI l)) (T + 4) N (nI o)) (T + 5) N (nI k)) T 6 (nI (N + 1))
theorem tx_DC.nw {m : gMem} {T lw P N l o k : Nat} {w : Nat → Nat → Option Nat} {li wo fi : Nat → Nat} (hd : tx_DC m T lw P N w li wo fi) : tx_DC (tx_nw m T N l o k) T lw P (N + 1) w (tx_uN li N l) (tx_uN wo N o) (tx_uN fi N k) := by
  obtain ⟨d1, d2, d3, d4, d5, d6⟩ := hd
  unfold tx_nw
  refine ⟨?_, gup_s _ _ _ _, ?_, fun p j hp hj => ?_, fun j b hj hb => ?_, fun n hn => ?_⟩
  · rw [gup_i _ _ (by decide), gup_k _ _ (by omega), gup_k _ _ (by omega), gup_k _ _ (by omega)]; exact d1
  · rw [gup_i _ _ (by decide), gup_k _ _ (by omega), gup_k _ _ (by omega), gup_k _ _ (by omega)]; exact d3
  · rw [gup_k _ _ (by omega), gup_k _ _ (by omega), gup_k _ _ (by omega), gup_k _ _ (by omega)]; exact d4 p j hp hj
  · rw [gup_k _ _ (by omega), gup_k _ _ (by omega), gup_k _ _ (by omega), gup_k _ _ (by omega)]; exact d5 j b hj hb
  · obtain ⟨e1, e2, e3⟩ := d6 n hn
    refine ⟨?_, ?_, ?_⟩
    · rw [gup_k _ _ (by omega), gup_k _ _ (by omega), gup_k _ _ (by omega), gup_if, tx_uN]
      by_cases z : n = N
      · rw [if_pos z, if_pos z]
      · rw [if_neg z, if_neg z]; exact e1
    · rw [gup_k _ _ (by omega), gup_k _ _ (by omega), gup_if, tx_uN]
      by_cases z : n = N
      · rw [if_pos z, if_pos z]
      · rw [if_neg z, if_neg z, gup_k _ _ (by omega)]; exact e2
    · rw [gup_k _ _ (by omega), gup_if, tx_uN]
      by_cases z : n = N
      · rw [if_pos z, if_pos z]
      · rw [if_neg z, if_neg z, gup_k _ _ (by omega), gup_k _ _ (by omega)]; exact e3
def tx_jh (fi : Nat → Nat) (N : Nat) : Nat → Nat := fun n => if n = 2 ∧ N = 3 then fi 2 ||| (fi 0 &&& fi 1) else fi n
theorem tx_DC.jh {m : gMem} {T lw P N : Nat} {w : Nat → Nat → Option Nat} {li wo fi : Nat → Nat} (hd : tx_DC m T lw P N w li wo fi) : tx_DC (gupA m (T + 5) (jhP (m.1 (T + 5)) N)) T lw P N w li wo (tx_jh fi N) := by
  obtain ⟨d1, d2, d3, d4, d5, d6⟩ := hd
  refine ⟨?_, ?_, ?_, fun p j hp hj => ?_, fun j b hj hb => ?_, fun n hn => ?_⟩
  · rw [gupA_k _ _ (by omega)]; exact d1
  · rw [gupA_k _ _ (by omega)]; exact d2
  · rw [gupA_k _ _ (by omega)]; exact d3
  · rw [gupA_k _ _ (by omega)]; exact d4 p j hp hj
  · rw [gupA_k _ _ (by omega)]; exact d5 j b hj hb
  · obtain ⟨e1, e2, e3⟩ := d6 n hn
    rw [gupA_k _ _ (by omega), gupA_k _ _ (by omega), gupA_s]
    refine ⟨e1, e2, ?_⟩
    by_cases z : n = 2
    · subst z
      rw [jhP_2, e3, (d6 0 (by omega)).2.2, (d6 1 (by omega)).2.2, tx_jh]
      by_cases q : N = 3
      · rw [if_pos q, if_pos ⟨rfl, q⟩, nb_and, nb_or]
      · rw [if_neg q, if_neg (fun z => q z.2), nb_or, Nat.or_zero]
    · rw [jhP_n z, tx_jh, if_neg (fun q => z q.1)]
      exact e3
