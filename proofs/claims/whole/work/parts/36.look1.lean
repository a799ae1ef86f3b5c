/-! THE OUTLOOK: least tellings -/
theorem nmin {a b : Nat} (ha : a < 2 ^ 31) (hb : b < 2 ^ 31) : (if nI b < nI a then nI b else nI a) = nI (min a b) := by
  by_cases h : b < a
  · rw [if_pos (nI_lt h ha), Nat.min_eq_right (by omega)]
  · rw [if_neg (nI_nlt (by omega) hb), Nat.min_eq_left (by omega)]
theorem nmax {a b : Nat} (ha : a < 2 ^ 31) (hb : b < 2 ^ 31) : (if nI a < nI b then nI b else nI a) = nI (max a b) := by
  by_cases h : a < b
  · rw [if_pos (nI_lt h hb), Nat.max_eq_right (by omega)]
  · rw [if_neg (nI_nlt (by omega) ha), Nat.max_eq_left (by omega)]
theorem wt_sub : ∀ w, w < 64 → ∀ k, k < 64 → ((nI w &&& (nI k ^^^ -1) = 0) ↔ k &&& w = w) := by decide +kernel
def mnA (c : Nat) (f : Nat → Nat) : Nat → Nat
  | 0 => c
  | j + 1 => min (mnA c f j) (f j)
theorem mnA_c (c : Nat) (f : Nat → Nat) : ∀ n, mnA c f n ≤ c
  | 0 => Nat.le_refl _
  | n + 1 => by
    have := mnA_c c f n
    simp only [mnA]
    omega
theorem mnA_le {c : Nat} {f : Nat → Nat} {j : Nat} : ∀ {n}, j < n → mnA c f n ≤ f j
  | 0, h => absurd h (by omega)
  | n + 1, h => by
    simp only [mnA]
    by_cases e : j = n
    · rw [e]; omega
    · have := mnA_le (c := c) (f := f) (j := j) (n := n) (by omega)
      omega
theorem mnA_at {c : Nat} {f : Nat → Nat} : ∀ {n}, mnA c f n < c → ∃ j, j < n ∧ f j = mnA c f n
  | 0, h => absurd h (by simp [mnA])
  | n + 1, h => by
    simp only [mnA] at h ⊢
    by_cases e : f n ≤ mnA c f n
    · exact ⟨n, by omega, by omega⟩
    · obtain ⟨j, h1, h2⟩ := mnA_at (c := c) (f := f) (n := n) (by omega)
      exact ⟨j, by omega, by omega⟩
theorem mnA_min {f g : Nat → Nat} : ∀ n, (∀ j, j < n → g j = min 99 (f j)) → mnA 99 g n = min 99 (mnA 999 f n)
  | 0, _ => rfl
  | n + 1, h => by
    simp only [mnA]
    rw [mnA_min n (fun j hj => h j (by omega)), h n (by omega)]
    omega
/-- tellings at the places of S, and then what F says of those that know it behind; c: these may not be -/
def byN (gr : Nat → Nat) (F : Nat → Nat) (k S : Nat) : Nat := match bh gr S k with
  | none => 999
  | some t => pc6 S + F t
def byC (gr : Nat → Nat) (F : Nat → Nat) (k S : Nat) : Nat := match bh gr S k with
  | none => 99
  | some t => min 99 (pc6 S + F t)
def nR (G : Nat → Nat → Nat) (w : Nat) : Nat → Nat → Nat
  | 0, k => if k &&& w = w then 0 else 999
  | r + 1, k => mnA 999 (byN (G (5 - r)) (nR G w r) k) 8
def cR (G : Nat → Nat → Nat) (w : Nat) : Nat → Nat → Nat
  | 0, k => if k &&& w = w then 0 else 99
  | r + 1, k => if k &&& w = w then 0 else mnA 99 (byC (G (5 - r)) (cR G w r) k) 8
theorem bh_0 (gr : Nat → Nat) (k : Nat) : bh gr 0 k = some k := by simp [bh, bhA]
theorem nR_z {G : Nat → Nat → Nat} {w k : Nat} (h : k &&& w = w) : ∀ r, nR G w r k = 0
  | 0 => by rw [nR, if_pos h]
  | r + 1 => by
    have e : byN (G (5 - r)) (nR G w r) k 0 = 0 := by
      simp only [byN, bh_0]
      rw [nR_z h r]
      rfl
    have := mnA_le (c := 999) (f := byN (G (5 - r)) (nR G w r) k) (j := 0) (n := 8) (by omega)
    rw [nR]
    omega
theorem cR_n (G : Nat → Nat → Nat) (w : Nat) : ∀ r k, cR G w r k = min 99 (nR G w r k)
  | 0, k => by
    rw [cR, nR]
    by_cases h : k &&& w = w
    · rw [if_pos h, if_pos h]; rfl
    · rw [if_neg h, if_neg h]; rfl
  | r + 1, k => by
    by_cases h : k &&& w = w
    · rw [nR_z h, cR, if_pos h]; rfl
    · rw [cR, if_neg h, nR]
      refine mnA_min 8 (fun j _ => ?_)
      simp only [byC, byN]
      cases bh (G (5 - r)) j k with
      | none => rfl
      | some t =>
        dsimp only
        rw [cR_n G w r t]
        omega
theorem cR_le (G : Nat → Nat → Nat) (w r k : Nat) : cR G w r k ≤ 99 := by
  rw [cR_n]; omega
theorem nR_le (G : Nat → Nat → Nat) (w : Nat) : ∀ r k, nR G w r k ≤ 999
  | 0, k => by
    rw [nR]
    split <;> omega
  | r + 1, k => mnA_c _ _ _
theorem cR_z {G : Nat → Nat → Nat} {w k r : Nat} (h : k &&& w = w) : cR G w r k = 0 := by rw [cR_n, nR_z h]; rfl
theorem cR_s {G : Nat → Nat → Nat} {w k r : Nat} (h : ¬ k &&& w = w) : cR G w (r + 1) k = mnA 99 (byC (G (5 - r)) (cR G w r) k) 8 := by rw [cR, if_neg h]
theorem oI_ge {S : Option Nat} (hs : ∀ a, S = some a → a < 64) : (0 ≤ oI (-1) S) ↔ S ≠ none := by
  cases S with
  | none => exact ⟨fun h => absurd h (by decide +kernel), fun h => absurd rfl h⟩
  | some a => exact ⟨fun _ => (fun h => by cases h), fun _ => nI_pos' (by have := hs a rfl; omega)⟩
theorem nI_n1 {a : Nat} (h : a < 2 ^ 31) : ¬ nI a = -1 := by
  have := nI_nn h (b := 1) (by omega) (by omega)
  exact this
theorem pc6_z : ∀ s, s < 64 → (pc6 s = 0 ↔ s = 0) := by decide +kernel
theorem c_obh_29 {O : gOm} {d : Nat} {m : gMem} {h S k : Nat} {gr : Nat → Nat} (hD : m.2 2 = 29) (hG : ∀ a, a < 3 → m.1 31 (h * 3 + a) = nI (gr a)) (hg : ∀ a, gr a < 64) (hh : h < 6) (hS : S < 8) (hk : k < 64) : Ca O (d + 2) kX2_behind [.ref 41, .int (nI h), .int (nI S), .int (nI k)] (some (.int (oI (-1) (bh gr S k)))) m m := by
  have key : ∀ n j s x, j + n = 3 → bhA gr S k j = some s → Go O (d + 2) kX2_behind (some (.int (oI (-1) (bh gr S k)))) m 6 [.ref 41, .int (nI h), .int (nI S), .int (nI k), .int (nI s), .int (nI j), x] [] m := by
    intro n
    induction n with
    | zero =>
      intro j s x hj hs
      refine go_iload dX2_behind_6 rfl ?_
      refine go_iconst (nI 3) dX2_behind_8 (by decide +kernel) ?_
      refine go_icmp_ge 63 dX2_behind_9 (by decide) (fun h9 => ?_) (fun h => absurd (nI_le (by omega) (by omega)) h)
      refine go_iload dX2_behind_63 rfl ?_
      exact go_iret dX2_behind_65 rfl (by rw [bh, show (3 : Nat) = j by omega, hs]; rfl) rfl
    | succ n ih =>
      intro j s x hj hs
      have hgj := hg j
      have hand : gr j &&& k < 64 := Nat.and_lt_two_pow (n := 6) _ hk
      have hno : S.testBit j = true → canB (gr j) k = false → bh gr S k = none := by
        intro e e3
        have z : bhA gr S k (j + 1) = none := by
          simp only [bhA, hs]
          rw [if_pos e, if_neg (by rw [e3]; decide)]
        have := bhA_none z (2 - j)
        rwa [show j + 1 + (2 - j) = 3 by omega] at this
      have hbit := nb_tb S j
      refine go_iload dX2_behind_6 rfl ?_
      refine go_iconst (nI 3) dX2_behind_8 (by decide +kernel) ?_
      refine go_icmp_ge 63 dX2_behind_9 (by decide) (fun h => absurd h (nI_ge (by omega) (by omega))) (fun h9 => ?_)
      refine go_iload_n dX2_behind_12 rfl ?_
      refine go_iload dX2_behind_13 rfl ?_
      refine go_ishr dX2_behind_15 rfl ?_
      refine go_iconst (nI 1) dX2_behind_16 (by decide +kernel) ?_
      refine go_iand dX2_behind_17 (nb_bit (by omega) (by omega)) ?_
      refine go_if_eq 57 dX2_behind_18 (by decide) (fun h18 => ?_) (fun h18 => ?_)
      · have e : S.testBit j = false := by
          cases hb : S.testBit j with
          | false => rfl
          | true =>
            rw [hbit, if_pos hb] at h18
            exact absurd h18 (by decide +kernel)
        have hs2 : bhA gr S k (j + 1) = some s := by simp [bhA, hs, e]
        refine go_iinc_n (L' := [_, _, _, _, _, _, _]) dX2_behind_57 rfl (by decide) rfl ?_
        refine go_goto 6 dX2_behind_60 (by decide) ?_
        exact ih (j + 1) _ _ (by omega) hs2
      · have e : S.testBit j = true := by
          cases hb : S.testBit j with
          | true => rfl
          | false =>
            rw [hbit, if_neg (by rw [hb]; decide)] at h18
            exact absurd rfl h18
        refine go_aload_n dX2_behind_21 rfl ?_
        refine go_getm dX2_behind_22 fX2_24 rfl (by decide) (by decide) (by decide) rfl hD ?_
        refine go_iload_n dX2_behind_25 rfl ?_
        refine go_iload dX2_behind_26 rfl ?_
        refine go_callV1 (K' := kX1_group) [_, _] dX2_behind_28 mX2_28 lX1_group rfl (by decide) rfl (by decide) rfl rfl (Nat.le_of_ble_eq_true rfl) (Nat.le_of_ble_eq_true rfl) (c_group_29 hh (by omega) (hG j (by omega))) ?_
        refine go_istore (L' := [_, _, _, _, _, _, _]) dX2_behind_31 (by decide) rfl ?_
        refine go_iload dX2_behind_33 rfl ?_
        refine go_iload_n dX2_behind_35 rfl ?_
        refine go_iand dX2_behind_36 (nb_and _ _) ?_
        refine go_if_eq 48 dX2_behind_37 (by decide) (fun h37 => ?_) (fun h37 => ?_)
        · have e0 := (nI_eq (b := 0) (by omega) (by omega)).mp h37
          have er := hno e (by simp [canB, e0])
          refine go_iconst (-1) dX2_behind_48 (by decide +kernel) ?_
          exact go_iret dX2_behind_49 rfl (by rw [er]; rfl) rfl
        · have e0 : ¬ gr j &&& k = 0 := fun z => h37 (by rw [z]; rfl)
          refine go_iload dX2_behind_40 rfl ?_
          refine go_callS1 (K' := kX1_isCompany) [_] dX2_behind_42 mX2_34 lX1_isCompany rfl rfl (Nat.le_of_ble_eq_true rfl) (Nat.le_of_ble_eq_true rfl) (c_isCompany hgj) ?_
          refine go_if_ne 50 dX2_behind_45 (by decide) (fun h45 => ?_) (fun h45 => ?_)
          · have e1 : decide (1 < pc6 (gr j)) = true := bI_n0.mp h45
            have hs2 : bhA gr S k (j + 1) = some (s ||| gr j) := by
              simp only [bhA, hs]
              rw [if_pos e, if_pos (by simp only [canB, e1, Bool.true_and]; simp [e0])]
            refine go_iload dX2_behind_50 rfl ?_
            refine go_iload dX2_behind_52 rfl ?_
            refine go_ior dX2_behind_54 (nb_or _ _) ?_
            refine go_istore (L' := [_, _, _, _, _, _, _]) dX2_behind_55 (by decide) rfl ?_
            refine go_iinc_n (L' := [_, _, _, _, _, _, _]) dX2_behind_57 rfl (by decide) rfl ?_
            refine go_goto 6 dX2_behind_60 (by decide) ?_
            exact ih (j + 1) _ _ (by omega) hs2
          · have e1 : decide (1 < pc6 (gr j)) = false := bI_0.mp h45
            have er := hno e (by simp only [canB, e1, Bool.false_and])
            refine go_iconst (-1) dX2_behind_48 (by decide +kernel) ?_
            exact go_iret dX2_behind_49 rfl (by rw [er]; rfl) rfl
  show Go O (d + 2) kX2_behind _ m 0 [.ref 41, .int (nI h), .int (nI S), .int (nI k), .null, .null, .null] [] m
  refine go_iload_n dX2_behind_0 rfl ?_
  refine go_istore (L' := [_, _, _, _, _, _, _]) dX2_behind_1 (by decide) rfl ?_
  refine go_iconst (nI 0) dX2_behind_3 (by decide +kernel) ?_
  refine go_istore (L' := [_, _, _, _, _, _, _]) dX2_behind_4 (by decide) rfl ?_
  exact key 3 0 k _ (by omega) rfl
theorem c_obh_35 {O : gOm} {d : Nat} {m : gMem} {h S k : Nat} {gr : Nat → Nat} (hD : m.2 2 = 35) (hG : ∀ a, a < 3 → m.1 37 (h * 3 + a) = nI (gr a)) (hg : ∀ a, gr a < 64) (hh : h < 6) (hS : S < 8) (hk : k < 64) : Ca O (d + 2) kX2_behind [.ref 41, .int (nI h), .int (nI S), .int (nI k)] (some (.int (oI (-1) (bh gr S k)))) m m := by
  have key : ∀ n j s x, j + n = 3 → bhA gr S k j = some s → Go O (d + 2) kX2_behind (some (.int (oI (-1) (bh gr S k)))) m 6 [.ref 41, .int (nI h), .int (nI S), .int (nI k), .int (nI s), .int (nI j), x] [] m := by
    intro n
    induction n with
    | zero =>
      intro j s x hj hs
      refine go_iload dX2_behind_6 rfl ?_
      refine go_iconst (nI 3) dX2_behind_8 (by decide +kernel) ?_
      refine go_icmp_ge 63 dX2_behind_9 (by decide) (fun h9 => ?_) (fun h => absurd (nI_le (by omega) (by omega)) h)
      refine go_iload dX2_behind_63 rfl ?_
      exact go_iret dX2_behind_65 rfl (by rw [bh, show (3 : Nat) = j by omega, hs]; rfl) rfl
    | succ n ih =>
      intro j s x hj hs
      have hgj := hg j
      have hand : gr j &&& k < 64 := Nat.and_lt_two_pow (n := 6) _ hk
      have hno : S.testBit j = true → canB (gr j) k = false → bh gr S k = none := by
        intro e e3
        have z : bhA gr S k (j + 1) = none := by
          simp only [bhA, hs]
          rw [if_pos e, if_neg (by rw [e3]; decide)]
        have := bhA_none z (2 - j)
        rwa [show j + 1 + (2 - j) = 3 by omega] at this
      have hbit := nb_tb S j
      refine go_iload dX2_behind_6 rfl ?_
      refine go_iconst (nI 3) dX2_behind_8 (by decide +kernel) ?_
      refine go_icmp_ge 63 dX2_behind_9 (by decide) (fun h => absurd h (nI_ge (by omega) (by omega))) (fun h9 => ?_)
      refine go_iload_n dX2_behind_12 rfl ?_
      refine go_iload dX2_behind_13 rfl ?_
      refine go_ishr dX2_behind_15 rfl ?_
      refine go_iconst (nI 1) dX2_behind_16 (by decide +kernel) ?_
      refine go_iand dX2_behind_17 (nb_bit (by omega) (by omega)) ?_
      refine go_if_eq 57 dX2_behind_18 (by decide) (fun h18 => ?_) (fun h18 => ?_)
      · have e : S.testBit j = false := by
          cases hb : S.testBit j with
          | false => rfl
          | true =>
            rw [hbit, if_pos hb] at h18
            exact absurd h18 (by decide +kernel)
        have hs2 : bhA gr S k (j + 1) = some s := by simp [bhA, hs, e]
        refine go_iinc_n (L' := [_, _, _, _, _, _, _]) dX2_behind_57 rfl (by decide) rfl ?_
        refine go_goto 6 dX2_behind_60 (by decide) ?_
        exact ih (j + 1) _ _ (by omega) hs2
      · have e : S.testBit j = true := by
          cases hb : S.testBit j with
          | true => rfl
          | false =>
            rw [hbit, if_neg (by rw [hb]; decide)] at h18
            exact absurd rfl h18
        refine go_aload_n dX2_behind_21 rfl ?_
        refine go_getm dX2_behind_22 fX2_24 rfl (by decide) (by decide) (by decide) rfl hD ?_
        refine go_iload_n dX2_behind_25 rfl ?_
        refine go_iload dX2_behind_26 rfl ?_
        refine go_callV1 (K' := kX1_group) [_, _] dX2_behind_28 mX2_28 lX1_group rfl (by decide) rfl (by decide) rfl rfl (Nat.le_of_ble_eq_true rfl) (Nat.le_of_ble_eq_true rfl) (c_group_35 hh (by omega) (hG j (by omega))) ?_
        refine go_istore (L' := [_, _, _, _, _, _, _]) dX2_behind_31 (by decide) rfl ?_
        refine go_iload dX2_behind_33 rfl ?_
        refine go_iload_n dX2_behind_35 rfl ?_
        refine go_iand dX2_behind_36 (nb_and _ _) ?_
        refine go_if_eq 48 dX2_behind_37 (by decide) (fun h37 => ?_) (fun h37 => ?_)
        · have e0 := (nI_eq (b := 0) (by omega) (by omega)).mp h37
          have er := hno e (by simp [canB, e0])
          refine go_iconst (-1) dX2_behind_48 (by decide +kernel) ?_
          exact go_iret dX2_behind_49 rfl (by rw [er]; rfl) rfl
        · have e0 : ¬ gr j &&& k = 0 := fun z => h37 (by rw [z]; rfl)
          refine go_iload dX2_behind_40 rfl ?_
          refine go_callS1 (K' := kX1_isCompany) [_] dX2_behind_42 mX2_34 lX1_isCompany rfl rfl (Nat.le_of_ble_eq_true rfl) (Nat.le_of_ble_eq_true rfl) (c_isCompany hgj) ?_
          refine go_if_ne 50 dX2_behind_45 (by decide) (fun h45 => ?_) (fun h45 => ?_)
          · have e1 : decide (1 < pc6 (gr j)) = true := bI_n0.mp h45
            have hs2 : bhA gr S k (j + 1) = some (s ||| gr j) := by
              simp only [bhA, hs]
              rw [if_pos e, if_pos (by simp only [canB, e1, Bool.true_and]; simp [e0])]
            refine go_iload dX2_behind_50 rfl ?_
            refine go_iload dX2_behind_52 rfl ?_
            refine go_ior dX2_behind_54 (nb_or _ _) ?_
            refine go_istore (L' := [_, _, _, _, _, _, _]) dX2_behind_55 (by decide) rfl ?_
            refine go_iinc_n (L' := [_, _, _, _, _, _, _]) dX2_behind_57 rfl (by decide) rfl ?_
            refine go_goto 6 dX2_behind_60 (by decide) ?_
            exact ih (j + 1) _ _ (by omega) hs2
          · have e1 : decide (1 < pc6 (gr j)) = false := bI_0.mp h45
            have er := hno e (by simp only [canB, e1, Bool.false_and])
            refine go_iconst (-1) dX2_behind_48 (by decide +kernel) ?_
            exact go_iret dX2_behind_49 rfl (by rw [er]; rfl) rfl
  show Go O (d + 2) kX2_behind _ m 0 [.ref 41, .int (nI h), .int (nI S), .int (nI k), .null, .null, .null] [] m
  refine go_iload_n dX2_behind_0 rfl ?_
  refine go_istore (L' := [_, _, _, _, _, _, _]) dX2_behind_1 (by decide) rfl ?_
  refine go_iconst (nI 0) dX2_behind_3 (by decide +kernel) ?_
  refine go_istore (L' := [_, _, _, _, _, _, _]) dX2_behind_4 (by decide) rfl ?_
  exact key 3 0 k _ (by omega) rfl
/-- what the outlook remembers of needs is right -/
def NdM (G : Nat → Nat → Nat) (w : Nat) (f : Nat → Int32) : Prop := ∀ h k, h < 6 → k < 64 → f (h * 64 + k) = -1 ∨ f (h * 64 + k) = nI (cR G w (6 - h) k)
/-- the outlook stands upon this day and these wanted ones -/
def OkD (m : gMem) (T : Nat) (G : Nat → Nat → Nat) (w : Nat) : Prop := m.2 2 = T ∧ m.1 41 5 = nI w ∧ ∀ h a, h < 6 → a < 3 → m.1 (T + 2) (h * 3 + a) = nI (G h a)
theorem OkD.fr {m m' : gMem} {T : Nat} {G : Nat → Nat → Nat} {w : Nat} {S : List Nat} (h : OkD m T G w) (f : Fr S m m') (h1 : 41 ∉ S) (h2 : T + 2 ∉ S) : OkD m' T G w := by
  unfold OkD at *
  rw [f.1, f.2 41 h1, f.2 (T + 2) h2]
  exact h
theorem NdM.set {G : Nat → Nat → Nat} {w : Nat} {f : Nat → Int32} (hf : NdM G w f) {h k : Nat} (hh : h < 6) (hk : k < 64) : NdM G w (upd f (h * 64 + k) (nI (cR G w (6 - h) k))) := by
  intro h' k' hh' hk'
  by_cases e : h' * 64 + k' = h * 64 + k
  · have e1 : h' = h := by omega
    have e2 : k' = k := by omega
    rw [e1, e2, upd_s]
    exact Or.inr rfl
  · rw [upd_n _ _ e]
    exact hf h' k' hh' hk'
/-- need, with r hours left: right, and it stays right -/
def NdOk_29 (O : gOm) (d : Nat) (G : Nat → Nat → Nat) (w r : Nat) : Prop := ∀ (m : gMem) (h k : Nat), h + r = 6 → k < 64 → OkD m 29 G w → NdM G w (m.1 42) → ∃ m', Ca O d kX2_need [.ref 41, .int (nI h), .int (nI k)] (some (.int (nI (cR G w r k)))) m m' ∧ Fr [42] m m' ∧ NdM G w (m'.1 42)
theorem c_needBy_29 {O : gOm} {d : Nat} {m : gMem} {G : Nat → Nat → Nat} {w r h k S : Nat} (hN : NdOk_29 O (d + 2) G w r) (hg : ∀ h a, G h a < 64) (hr : h + (r + 1) = 6) (hk : k < 64) (hS : S < 8) (hD : OkD m 29 G w) (hM : NdM G w (m.1 42)) : ∃ m', Ca O (d + 3) kX2_needBy [.ref 41, .int (nI h), .int (nI k), .int (nI S)] (some (.int (nI (byC (G (5 - r)) (cR G w r) k S)))) m m' ∧ Fr [42] m m' ∧ NdM G w (m'.1 42) := by
  have e5 : 5 - r = h := by omega
  rw [e5]
  have cb := c_obh_29 (O := O) (d := d) (k := k) (gr := G h) (S := S) (h := h) hD.1 (fun a ha => hD.2.2 h a (by omega) ha) (hg h) (by omega) hS hk
  have hS6 := pc6_le S
  cases hb : bh (G h) S k with
  | none =>
    rw [hb] at cb
    refine ⟨m, ?_, Fr.rf _ _, hM⟩
    show Go O (d + 3) kX2_needBy _ m 0 [.ref 41, .int (nI h), .int (nI k), .int (nI S), .null] [] m
    refine go_aload_n dX2_needBy_0 rfl ?_
    refine go_iload_n dX2_needBy_1 rfl ?_
    refine go_iload_n dX2_needBy_2 rfl ?_
    refine go_iload_n dX2_needBy_3 rfl ?_
    refine go_callV1 (K' := kX2_behind) [_, _, _] dX2_needBy_4 mX2_38 lX2_behind rfl (by decide) rfl (by decide) rfl rfl (Nat.le_of_ble_eq_true rfl) (Nat.le_of_ble_eq_true rfl) (cb) ?_
    refine go_istore (L' := [_, _, _, _, _]) dX2_needBy_7 (by decide) rfl ?_
    refine go_iload dX2_needBy_9 rfl ?_
    refine go_if_ge 17 dX2_needBy_11 (by decide) (fun h => absurd h (by decide +kernel)) (fun h11 => ?_)
    refine go_bipush (nI 99) dX2_needBy_14 (by decide +kernel) ?_
    exact go_iret dX2_needBy_16 rfl (by simp only [byC, hb]) rfl
  | some s =>
    rw [hb] at cb
    have hs := bh_lt hk (hg h) hb
    obtain ⟨m', c1, f1, v1⟩ := hN m (h + 1) s (by omega) hs hD hM
    have hc := cR_le G w r s
    refine ⟨m', ?_, f1, v1⟩
    show Go O (d + 3) kX2_needBy _ m' 0 [.ref 41, .int (nI h), .int (nI k), .int (nI S), .null] [] m
    refine go_aload_n dX2_needBy_0 rfl ?_
    refine go_iload_n dX2_needBy_1 rfl ?_
    refine go_iload_n dX2_needBy_2 rfl ?_
    refine go_iload_n dX2_needBy_3 rfl ?_
    refine go_callV1 (K' := kX2_behind) [_, _, _] dX2_needBy_4 mX2_38 lX2_behind rfl (by decide) rfl (by decide) rfl rfl (Nat.le_of_ble_eq_true rfl) (Nat.le_of_ble_eq_true rfl) (cb) ?_
    refine go_istore (L' := [_, _, _, _, _]) dX2_needBy_7 (by decide) rfl ?_
    refine go_iload dX2_needBy_9 rfl ?_
    refine go_if_ge 17 dX2_needBy_11 (by decide) (fun h11 => ?_) (fun h => absurd (nI_pos' (by omega)) h)
    refine go_bipush (nI 99) dX2_needBy_17 (by decide +kernel) ?_
    refine go_iload_n dX2_needBy_19 rfl ?_
    refine go_callS1 (K' := kJ6_bitCount_0f7a4) [_] dX2_needBy_20 mX2_60 lJ6_bitCount_0f7a4 rfl rfl (Nat.le_of_ble_eq_true rfl) (Nat.le_of_ble_eq_true rfl) (c_bitCount (by omega)) ?_
    refine go_aload_n dX2_needBy_23 rfl ?_
    refine go_iload_n dX2_needBy_24 rfl ?_
    refine go_iconst (nI 1) dX2_needBy_25 (by decide +kernel) ?_
    first | refine go_iadd_n dX2_needBy_26 ?_ | refine go_iadd dX2_needBy_26 rfl ?_
    refine go_iload dX2_needBy_27 rfl ?_
    refine go_callV1 (K' := kX2_need) [_, _] dX2_needBy_29 mX2_66 lX2_need rfl (by decide) rfl (by decide) rfl rfl (Nat.le_of_ble_eq_true rfl) (Nat.le_of_ble_eq_true rfl) (c1) ?_
    first | refine go_iadd_n dX2_needBy_32 ?_ | refine go_iadd dX2_needBy_32 rfl ?_
    refine go_mmin dX2_needBy_33 mX2_55 (Nat.le_of_ble_eq_true rfl) (nmin (by omega) (by omega)) ?_
    exact go_iret dX2_needBy_36 rfl (by simp only [byC, hb]) rfl
theorem c_need0_29 {O : gOm} {d : Nat} {m : gMem} {G : Nat → Nat → Nat} {w r h k : Nat} (hw : w < 64) (hk : k < 64) (hD : OkD m 29 G w) (hz : k &&& w = w) : Ca O d kX2_need [.ref 41, .int (nI h), .int (nI k)] (some (.int (nI (cR G w r k)))) m m := by
  rw [cR_z hz]
  show Go O d kX2_need _ m 0 [.ref 41, .int (nI h), .int (nI k), .null, .null, .null] [] m
  refine go_aload_n dX2_need_0 rfl ?_
  refine go_geti dX2_need_1 fX2_42 rfl (by decide) (by decide) (by decide) rfl hD.2.1 ?_
  refine go_iload_n dX2_need_4 rfl ?_
  refine go_iconst (-1) dX2_need_5 (by decide +kernel) ?_
  refine go_ixor dX2_need_6 rfl ?_
  refine go_iand dX2_need_7 rfl ?_
  refine go_if_ne 13 dX2_need_8 (by decide) (fun h => absurd h (fun q => q ((wt_sub w hw k hk).mpr hz))) (fun h8 => ?_)
  refine go_iconst (nI 0) dX2_need_11 (by decide +kernel) ?_
  exact go_iret dX2_need_12 rfl rfl rfl
theorem c_need_29 {O : gOm} {d : Nat} {G : Nat → Nat → Nat} {w : Nat} (hw : w < 64) (hg : ∀ h a, G h a < 64) : ∀ r, NdOk_29 O (d + 2 * r + 2) G w r := by
  intro r
  induction r with
  | zero =>
    intro m h k hr hk hD hM
    refine ⟨m, ?_, Fr.rf _ _, hM⟩
    by_cases hz : k &&& w = w
    · exact c_need0_29 hw hk hD hz
    · show Go O _ kX2_need _ m 0 [.ref 41, .int (nI h), .int (nI k), .null, .null, .null] [] m
      refine go_aload_n dX2_need_0 rfl ?_
      refine go_geti dX2_need_1 fX2_42 rfl (by decide) (by decide) (by decide) rfl hD.2.1 ?_
      refine go_iload_n dX2_need_4 rfl ?_
      refine go_iconst (-1) dX2_need_5 (by decide +kernel) ?_
      refine go_ixor dX2_need_6 rfl ?_
      refine go_iand dX2_need_7 rfl ?_
      refine go_if_ne 13 dX2_need_8 (by decide) (fun h8 => ?_) (fun h => absurd h (fun q => hz ((wt_sub w hw k hk).mp q)))
      refine go_iload_n dX2_need_13 rfl ?_
      refine go_bipush (nI 6) dX2_need_14 (by decide +kernel) ?_
      refine go_icmp_lt 22 dX2_need_16 (by decide) (fun h => absurd h (nI_nlt (by omega) (by omega))) (fun h16 => ?_)
      refine go_bipush (nI 99) dX2_need_19 (by decide +kernel) ?_
      exact go_iret dX2_need_21 rfl (by rw [cR, if_neg hz]) rfl
  | succ r ih =>
    intro m h k hr hk hD hM
    by_cases hz : k &&& w = w
    · exact ⟨m, c_need0_29 hw hk hD hz, Fr.rf _ _, hM⟩
    have hw8 : ∀ q, q = nI w &&& (nI k ^^^ -1) → ¬ q = 0 := fun q e z => hz ((wt_sub w hw k hk).mp (e ▸ z))
    have e6 : 6 - h = r + 1 := by omega
    rcases hM h k (by omega) hk with e | e
    · have key : ∀ n j (m1 : gMem), j + n = 8 → OkD m1 29 G w → NdM G w (m1.1 42) → ∃ m', Go O (d + 2 * r + 4) kX2_need (some (.int (nI (cR G w (r + 1) k)))) m' 46 [.ref 41, .int (nI h), .int (nI k), .int (nI (h * 64 + k)), .int (nI (mnA 99 (byC (G (5 - r)) (cR G w r) k) j)), .int (nI j)] [] m1 ∧ Fr [42] m1 m' ∧ NdM G w (m'.1 42) := by
        intro n
        induction n with
        | zero =>
          intro j m1 hj hD1 hM1
          obtain rfl : j = 8 := by omega
          have es := hM1.set (h := h) (k := k) (by omega) hk
          rw [e6, cR_s hz] at es
          refine ⟨gup m1 42 (h * 64 + k) (nI (mnA 99 (byC (G (5 - r)) (cR G w r) k) 8)), ?_, (Fr.rf _ _).up (by decide) _ _, by rw [gupd]; exact es⟩
          rw [cR_s hz]
          refine go_iload dX2_need_46 rfl ?_
          refine go_bipush (nI 8) dX2_need_48 (by decide +kernel) ?_
          refine go_icmp_ge 74 dX2_need_50 (by decide) (fun h50 => ?_) (fun h => absurd (nI_le (by omega) (by omega)) h)
          refine go_aload_n dX2_need_74 rfl ?_
          refine go_getc dX2_need_75 fX2_9 rfl (by decide) (by decide) (by decide) rfl ?_
          refine go_iload_n dX2_need_78 rfl ?_
          refine go_iload dX2_need_79 rfl ?_
          refine go_iast dX2_need_81 rfl (by decide) rfl (by omega) (by decide) ?_
          refine go_aload_n dX2_need_82 rfl ?_
          refine go_getc dX2_need_83 fX2_9 rfl (by decide) (by decide) (by decide) rfl ?_
          refine go_iload_n dX2_need_86 rfl ?_
          refine go_iald dX2_need_87 rfl (by decide) rfl (by omega) (by decide) (gup_s _ 42 _ _) ?_
          exact go_iret dX2_need_88 rfl rfl rfl
        | succ n ihn =>
          intro j m1 hj hD1 hM1
          obtain ⟨m2, c2, f2, v2⟩ := c_needBy_29 (d := d + 2 * r) (S := j) (k := k) (h := h) ih hg hr hk (by omega) hD1 hM1
          obtain ⟨m', g1, f1, v1⟩ := ihn (j + 1) m2 (by omega) (hD1.fr f2 (by decide) (by decide)) v2
          refine ⟨m', ?_, f2.trans f1, v1⟩
          have hb := mnA_c 99 (byC (G (5 - r)) (cR G w r) k) j
          have hb2 : byC (G (5 - r)) (cR G w r) k j ≤ 99 := by
            unfold byC
            cases bh (G (5 - r)) j k <;> dsimp only <;> omega
          refine go_iload dX2_need_46 rfl ?_
          refine go_bipush (nI 8) dX2_need_48 (by decide +kernel) ?_
          refine go_icmp_ge 74 dX2_need_50 (by decide) (fun h => absurd h (nI_ge (by omega) (by omega))) (fun h50 => ?_)
          refine go_iload dX2_need_53 rfl ?_
          refine go_aload_n dX2_need_55 rfl ?_
          refine go_iload_n dX2_need_56 rfl ?_
          refine go_iload_n dX2_need_57 rfl ?_
          refine go_iload dX2_need_58 rfl ?_
          refine go_callV1 (K' := kX2_needBy) [_, _, _] dX2_need_60 mX2_52 lX2_needBy rfl (by decide) rfl (by decide) rfl rfl (Nat.le_of_ble_eq_true rfl) (Nat.le_of_ble_eq_true rfl) (c2) ?_
          refine go_mmin dX2_need_63 mX2_55 (Nat.le_of_ble_eq_true rfl) (nmin (by omega) (by omega)) ?_
          refine go_istore (L' := [_, _, _, _, _, _]) dX2_need_66 (by decide) rfl ?_
          refine go_iinc_n (L' := [_, _, _, _, _, _]) dX2_need_68 rfl (by decide) rfl ?_
          refine go_goto 46 dX2_need_71 (by decide) ?_
          exact g1
      obtain ⟨m', g1, f1, v1⟩ := key 8 0 m (by omega) hD hM
      refine ⟨m', ?_, f1, v1⟩
      show Go O (d + 2 * r + 4) kX2_need _ m' 0 [.ref 41, .int (nI h), .int (nI k), .null, .null, .null] [] m
      refine go_aload_n dX2_need_0 rfl ?_
      refine go_geti dX2_need_1 fX2_42 rfl (by decide) (by decide) (by decide) rfl hD.2.1 ?_
      refine go_iload_n dX2_need_4 rfl ?_
      refine go_iconst (-1) dX2_need_5 (by decide +kernel) ?_
      refine go_ixor dX2_need_6 rfl ?_
      refine go_iand dX2_need_7 rfl ?_
      refine go_if_ne 13 dX2_need_8 (by decide) (fun h8 => ?_) (fun h => absurd h (hw8 _ rfl))
      refine go_iload_n dX2_need_13 rfl ?_
      refine go_bipush (nI 6) dX2_need_14 (by decide +kernel) ?_
      refine go_icmp_lt 22 dX2_need_16 (by decide) (fun h16 => ?_) (fun h => absurd (nI_lt (by omega) (by omega)) h)
      refine go_iload_n dX2_need_22 rfl ?_
      refine go_bipush (nI 64) dX2_need_23 (by decide +kernel) ?_
      first | refine go_imul_n dX2_need_25 ?_ | refine go_imul dX2_need_25 rfl ?_
      refine go_iload_n dX2_need_26 rfl ?_
      first | refine go_iadd_n dX2_need_27 ?_ | refine go_iadd dX2_need_27 rfl ?_
      refine go_istore_n (L' := [_, _, _, _, _, _]) dX2_need_28 (by decide) rfl ?_
      refine go_aload_n dX2_need_29 rfl ?_
      refine go_getc dX2_need_30 fX2_9 rfl (by decide) (by decide) (by decide) rfl ?_
      refine go_iload_n dX2_need_33 rfl ?_
      refine go_iald dX2_need_34 rfl (by decide) rfl (by omega) (by decide) e ?_
      refine go_iconst (-1) dX2_need_35 (by decide +kernel) ?_
      refine go_icmp_ne 82 dX2_need_36 (by decide) (fun h => absurd h (fun q => q rfl)) (fun h36 => ?_)
      refine go_bipush (nI 99) dX2_need_39 (by decide +kernel) ?_
      refine go_istore (L' := [_, _, _, _, _, _]) dX2_need_41 (by decide) rfl ?_
      refine go_iconst (nI 0) dX2_need_43 (by decide +kernel) ?_
      refine go_istore (L' := [_, _, _, _, _, _]) dX2_need_44 (by decide) rfl ?_
      exact g1
    · have hc := cR_le G w (6 - h) k
      refine ⟨m, ?_, Fr.rf _ _, hM⟩
      show Go O (d + 2 * r + 4) kX2_need _ m 0 [.ref 41, .int (nI h), .int (nI k), .null, .null, .null] [] m
      refine go_aload_n dX2_need_0 rfl ?_
      refine go_geti dX2_need_1 fX2_42 rfl (by decide) (by decide) (by decide) rfl hD.2.1 ?_
      refine go_iload_n dX2_need_4 rfl ?_
      refine go_iconst (-1) dX2_need_5 (by decide +kernel) ?_
      refine go_ixor dX2_need_6 rfl ?_
      refine go_iand dX2_need_7 rfl ?_
      refine go_if_ne 13 dX2_need_8 (by decide) (fun h8 => ?_) (fun h => absurd h (hw8 _ rfl))
      refine go_iload_n dX2_need_13 rfl ?_
      refine go_bipush (nI 6) dX2_need_14 (by decide +kernel) ?_
      refine go_icmp_lt 22 dX2_need_16 (by decide) (fun h16 => ?_) (fun h => absurd (nI_lt (by omega) (by omega)) h)
      refine go_iload_n dX2_need_22 rfl ?_
      refine go_bipush (nI 64) dX2_need_23 (by decide +kernel) ?_
      first | refine go_imul_n dX2_need_25 ?_ | refine go_imul dX2_need_25 rfl ?_
      refine go_iload_n dX2_need_26 rfl ?_
      first | refine go_iadd_n dX2_need_27 ?_ | refine go_iadd dX2_need_27 rfl ?_
      refine go_istore_n (L' := [_, _, _, _, _, _]) dX2_need_28 (by decide) rfl ?_
      refine go_aload_n dX2_need_29 rfl ?_
      refine go_getc dX2_need_30 fX2_9 rfl (by decide) (by decide) (by decide) rfl ?_
      refine go_iload_n dX2_need_33 rfl ?_
      refine go_iald dX2_need_34 rfl (by decide) rfl (by omega) (by decide) e ?_
      refine go_iconst (-1) dX2_need_35 (by decide +kernel) ?_
      refine go_icmp_ne 82 dX2_need_36 (by decide) (fun h36 => ?_) (fun h => absurd h (nI_n1 (by omega)))
      refine go_aload_n dX2_need_82 rfl ?_
      refine go_getc dX2_need_83 fX2_9 rfl (by decide) (by decide) (by decide) rfl ?_
      refine go_iload_n dX2_need_86 rfl ?_
      refine go_iald dX2_need_87 rfl (by decide) rfl (by omega) (by decide) e ?_
      exact go_iret dX2_need_88 rfl (by rw [e6]) rfl
/-- need, with r hours left: right, and it stays right -/
def NdOk_35 (O : gOm) (d : Nat) (G : Nat → Nat → Nat) (w r : Nat) : Prop := ∀ (m : gMem) (h k : Nat), h + r = 6 → k < 64 → OkD m 35 G w → NdM G w (m.1 42) → ∃ m', Ca O d kX2_need [.ref 41, .int (nI h), .int (nI k)] (some (.int (nI (cR G w r k)))) m m' ∧ Fr [42] m m' ∧ NdM G w (m'.1 42)
theorem c_needBy_35 {O : gOm} {d : Nat} {m : gMem} {G : Nat → Nat → Nat} {w r h k S : Nat} (hN : NdOk_35 O (d + 2) G w r) (hg : ∀ h a, G h a < 64) (hr : h + (r + 1) = 6) (hk : k < 64) (hS : S < 8) (hD : OkD m 35 G w) (hM : NdM G w (m.1 42)) : ∃ m', Ca O (d + 3) kX2_needBy [.ref 41, .int (nI h), .int (nI k), .int (nI S)] (some (.int (nI (byC (G (5 - r)) (cR G w r) k S)))) m m' ∧ Fr [42] m m' ∧ NdM G w (m'.1 42) := by
  have e5 : 5 - r = h := by omega
  rw [e5]
  have cb := c_obh_35 (O := O) (d := d) (k := k) (gr := G h) (S := S) (h := h) hD.1 (fun a ha => hD.2.2 h a (by omega) ha) (hg h) (by omega) hS hk
  have hS6 := pc6_le S
  cases hb : bh (G h) S k with
  | none =>
    rw [hb] at cb
    refine ⟨m, ?_, Fr.rf _ _, hM⟩
    show Go O (d + 3) kX2_needBy _ m 0 [.ref 41, .int (nI h), .int (nI k), .int (nI S), .null] [] m
    refine go_aload_n dX2_needBy_0 rfl ?_
    refine go_iload_n dX2_needBy_1 rfl ?_
    refine go_iload_n dX2_needBy_2 rfl ?_
    refine go_iload_n dX2_needBy_3 rfl ?_
    refine go_callV1 (K' := kX2_behind) [_, _, _] dX2_needBy_4 mX2_38 lX2_behind rfl (by decide) rfl (by decide) rfl rfl (Nat.le_of_ble_eq_true rfl) (Nat.le_of_ble_eq_true rfl) (cb) ?_
    refine go_istore (L' := [_, _, _, _, _]) dX2_needBy_7 (by decide) rfl ?_
    refine go_iload dX2_needBy_9 rfl ?_
    refine go_if_ge 17 dX2_needBy_11 (by decide) (fun h => absurd h (by decide +kernel)) (fun h11 => ?_)
    refine go_bipush (nI 99) dX2_needBy_14 (by decide +kernel) ?_
    exact go_iret dX2_needBy_16 rfl (by simp only [byC, hb]) rfl
  | some s =>
    rw [hb] at cb
    have hs := bh_lt hk (hg h) hb
    obtain ⟨m', c1, f1, v1⟩ := hN m (h + 1) s (by omega) hs hD hM
    have hc := cR_le G w r s
    refine ⟨m', ?_, f1, v1⟩
    show Go O (d + 3) kX2_needBy _ m' 0 [.ref 41, .int (nI h), .int (nI k), .int (nI S), .null] [] m
    refine go_aload_n dX2_needBy_0 rfl ?_
    refine go_iload_n dX2_needBy_1 rfl ?_
    refine go_iload_n dX2_needBy_2 rfl ?_
    refine go_iload_n dX2_needBy_3 rfl ?_
    refine go_callV1 (K' := kX2_behind) [_, _, _] dX2_needBy_4 mX2_38 lX2_behind rfl (by decide) rfl (by decide) rfl rfl (Nat.le_of_ble_eq_true rfl) (Nat.le_of_ble_eq_true rfl) (cb) ?_
    refine go_istore (L' := [_, _, _, _, _]) dX2_needBy_7 (by decide) rfl ?_
    refine go_iload dX2_needBy_9 rfl ?_
    refine go_if_ge 17 dX2_needBy_11 (by decide) (fun h11 => ?_) (fun h => absurd (nI_pos' (by omega)) h)
    refine go_bipush (nI 99) dX2_needBy_17 (by decide +kernel) ?_
    refine go_iload_n dX2_needBy_19 rfl ?_
    refine go_callS1 (K' := kJ6_bitCount_0f7a4) [_] dX2_needBy_20 mX2_60 lJ6_bitCount_0f7a4 rfl rfl (Nat.le_of_ble_eq_true rfl) (Nat.le_of_ble_eq_true rfl) (c_bitCount (by omega)) ?_
    refine go_aload_n dX2_needBy_23 rfl ?_
    refine go_iload_n dX2_needBy_24 rfl ?_
    refine go_iconst (nI 1) dX2_needBy_25 (by decide +kernel) ?_
    first | refine go_iadd_n dX2_needBy_26 ?_ | refine go_iadd dX2_needBy_26 rfl ?_
    refine go_iload dX2_needBy_27 rfl ?_
    refine go_callV1 (K' := kX2_need) [_, _] dX2_needBy_29 mX2_66 lX2_need rfl (by decide) rfl (by decide) rfl rfl (Nat.le_of_ble_eq_true rfl) (Nat.le_of_ble_eq_true rfl) (c1) ?_
    first | refine go_iadd_n dX2_needBy_32 ?_ | refine go_iadd dX2_needBy_32 rfl ?_
    refine go_mmin dX2_needBy_33 mX2_55 (Nat.le_of_ble_eq_true rfl) (nmin (by omega) (by omega)) ?_
    exact go_iret dX2_needBy_36 rfl (by simp only [byC, hb]) rfl
theorem c_need0_35 {O : gOm} {d : Nat} {m : gMem} {G : Nat → Nat → Nat} {w r h k : Nat} (hw : w < 64) (hk : k < 64) (hD : OkD m 35 G w) (hz : k &&& w = w) : Ca O d kX2_need [.ref 41, .int (nI h), .int (nI k)] (some (.int (nI (cR G w r k)))) m m := by
  rw [cR_z hz]
  show Go O d kX2_need _ m 0 [.ref 41, .int (nI h), .int (nI k), .null, .null, .null] [] m
  refine go_aload_n dX2_need_0 rfl ?_
  refine go_geti dX2_need_1 fX2_42 rfl (by decide) (by decide) (by decide) rfl hD.2.1 ?_
  refine go_iload_n dX2_need_4 rfl ?_
  refine go_iconst (-1) dX2_need_5 (by decide +kernel) ?_
  refine go_ixor dX2_need_6 rfl ?_
  refine go_iand dX2_need_7 rfl ?_
  refine go_if_ne 13 dX2_need_8 (by decide) (fun h => absurd h (fun q => q ((wt_sub w hw k hk).mpr hz))) (fun h8 => ?_)
  refine go_iconst (nI 0) dX2_need_11 (by decide +kernel) ?_
  exact go_iret dX2_need_12 rfl rfl rfl
theorem c_need_35 {O : gOm} {d : Nat} {G : Nat → Nat → Nat} {w : Nat} (hw : w < 64) (hg : ∀ h a, G h a < 64) : ∀ r, NdOk_35 O (d + 2 * r + 2) G w r := by
  intro r
  induction r with
  | zero =>
    intro m h k hr hk hD hM
    refine ⟨m, ?_, Fr.rf _ _, hM⟩
    by_cases hz : k &&& w = w
    · exact c_need0_35 hw hk hD hz
    · show Go O _ kX2_need _ m 0 [.ref 41, .int (nI h), .int (nI k), .null, .null, .null] [] m
      refine go_aload_n dX2_need_0 rfl ?_
      refine go_geti dX2_need_1 fX2_42 rfl (by decide) (by decide) (by decide) rfl hD.2.1 ?_
      refine go_iload_n dX2_need_4 rfl ?_
      refine go_iconst (-1) dX2_need_5 (by decide +kernel) ?_
      refine go_ixor dX2_need_6 rfl ?_
      refine go_iand dX2_need_7 rfl ?_
      refine go_if_ne 13 dX2_need_8 (by decide) (fun h8 => ?_) (fun h => absurd h (fun q => hz ((wt_sub w hw k hk).mp q)))
      refine go_iload_n dX2_need_13 rfl ?_
      refine go_bipush (nI 6) dX2_need_14 (by decide +kernel) ?_
      refine go_icmp_lt 22 dX2_need_16 (by decide) (fun h => absurd h (nI_nlt (by omega) (by omega))) (fun h16 => ?_)
      refine go_bipush (nI 99) dX2_need_19 (by decide +kernel) ?_
      exact go_iret dX2_need_21 rfl (by rw [cR, if_neg hz]) rfl
  | succ r ih =>
    intro m h k hr hk hD hM
    by_cases hz : k &&& w = w
    · exact ⟨m, c_need0_35 hw hk hD hz, Fr.rf _ _, hM⟩
    have hw8 : ∀ q, q = nI w &&& (nI k ^^^ -1) → ¬ q = 0 := fun q e z => hz ((wt_sub w hw k hk).mp (e ▸ z))
    have e6 : 6 - h = r + 1 := by omega
    rcases hM h k (by omega) hk with e | e
    · have key : ∀ n j (m1 : gMem), j + n = 8 → OkD m1 35 G w → NdM G w (m1.1 42) → ∃ m', Go O (d + 2 * r + 4) kX2_need (some (.int (nI (cR G w (r + 1) k)))) m' 46 [.ref 41, .int (nI h), .int (nI k), .int (nI (h * 64 + k)), .int (nI (mnA 99 (byC (G (5 - r)) (cR G w r) k) j)), .int (nI j)] [] m1 ∧ Fr [42] m1 m' ∧ NdM G w (m'.1 42) := by
        intro n
        induction n with
        | zero =>
          intro j m1 hj hD1 hM1
          obtain rfl : j = 8 := by omega
          have es := hM1.set (h := h) (k := k) (by omega) hk
          rw [e6, cR_s hz] at es
          refine ⟨gup m1 42 (h * 64 + k) (nI (mnA 99 (byC (G (5 - r)) (cR G w r) k) 8)), ?_, (Fr.rf _ _).up (by decide) _ _, by rw [gupd]; exact es⟩
          rw [cR_s hz]
          refine go_iload dX2_need_46 rfl ?_
          refine go_bipush (nI 8) dX2_need_48 (by decide +kernel) ?_
          refine go_icmp_ge 74 dX2_need_50 (by decide) (fun h50 => ?_) (fun h => absurd (nI_le (by omega) (by omega)) h)
          refine go_aload_n dX2_need_74 rfl ?_
          refine go_getc dX2_need_75 fX2_9 rfl (by decide) (by decide) (by decide) rfl ?_
          refine go_iload_n dX2_need_78 rfl ?_
          refine go_iload dX2_need_79 rfl ?_
          refine go_iast dX2_need_81 rfl (by decide) rfl (by omega) (by decide) ?_
          refine go_aload_n dX2_need_82 rfl ?_
          refine go_getc dX2_need_83 fX2_9 rfl (by decide) (by decide) (by decide) rfl ?_
          refine go_iload_n dX2_need_86 rfl ?_
          refine go_iald dX2_need_87 rfl (by decide) rfl (by omega) (by decide) (gup_s _ 42 _ _) ?_
          exact go_iret dX2_need_88 rfl rfl rfl
        | succ n ihn =>
          intro j m1 hj hD1 hM1
          obtain ⟨m2, c2, f2, v2⟩ := c_needBy_35 (d := d + 2 * r) (S := j) (k := k) (h := h) ih hg hr hk (by omega) hD1 hM1
          obtain ⟨m', g1, f1, v1⟩ := ihn (j + 1) m2 (by omega) (hD1.fr f2 (by decide) (by decide)) v2
          refine ⟨m', ?_, f2.trans f1, v1⟩
          have hb := mnA_c 99 (byC (G (5 - r)) (cR G w r) k) j
          have hb2 : byC (G (5 - r)) (cR G w r) k j ≤ 99 := by
            unfold byC
            cases bh (G (5 - r)) j k <;> dsimp only <;> omega
          refine go_iload dX2_need_46 rfl ?_
          refine go_bipush (nI 8) dX2_need_48 (by decide +kernel) ?_
          refine go_icmp_ge 74 dX2_need_50 (by decide) (fun h => absurd h (nI_ge (by omega) (by omega))) (fun h50 => ?_)
          refine go_iload dX2_need_53 rfl ?_
          refine go_aload_n dX2_need_55 rfl ?_
          refine go_iload_n dX2_need_56 rfl ?_
          refine go_iload_n dX2_need_57 rfl ?_
          refine go_iload dX2_need_58 rfl ?_
          refine go_callV1 (K' := kX2_needBy) [_, _, _] dX2_need_60 mX2_52 lX2_needBy rfl (by decide) rfl (by decide) rfl rfl (Nat.le_of_ble_eq_true rfl) (Nat.le_of_ble_eq_true rfl) (c2) ?_
          refine go_mmin dX2_need_63 mX2_55 (Nat.le_of_ble_eq_true rfl) (nmin (by omega) (by omega)) ?_
          refine go_istore (L' := [_, _, _, _, _, _]) dX2_need_66 (by decide) rfl ?_
          refine go_iinc_n (L' := [_, _, _, _, _, _]) dX2_need_68 rfl (by decide) rfl ?_
          refine go_goto 46 dX2_need_71 (by decide) ?_
          exact g1
      obtain ⟨m', g1, f1, v1⟩ := key 8 0 m (by omega) hD hM
      refine ⟨m', ?_, f1, v1⟩
      show Go O (d + 2 * r + 4) kX2_need _ m' 0 [.ref 41, .int (nI h), .int (nI k), .null, .null, .null] [] m
      refine go_aload_n dX2_need_0 rfl ?_
      refine go_geti dX2_need_1 fX2_42 rfl (by decide) (by decide) (by decide) rfl hD.2.1 ?_
      refine go_iload_n dX2_need_4 rfl ?_
      refine go_iconst (-1) dX2_need_5 (by decide +kernel) ?_
      refine go_ixor dX2_need_6 rfl ?_
      refine go_iand dX2_need_7 rfl ?_
      refine go_if_ne 13 dX2_need_8 (by decide) (fun h8 => ?_) (fun h => absurd h (hw8 _ rfl))
      refine go_iload_n dX2_need_13 rfl ?_
      refine go_bipush (nI 6) dX2_need_14 (by decide +kernel) ?_
      refine go_icmp_lt 22 dX2_need_16 (by decide) (fun h16 => ?_) (fun h => absurd (nI_lt (by omega) (by omega)) h)
      refine go_iload_n dX2_need_22 rfl ?_
      refine go_bipush (nI 64) dX2_need_23 (by decide +kernel) ?_
      first | refine go_imul_n dX2_need_25 ?_ | refine go_imul dX2_need_25 rfl ?_
      refine go_iload_n dX2_need_26 rfl ?_
      first | refine go_iadd_n dX2_need_27 ?_ | refine go_iadd dX2_need_27 rfl ?_
      refine go_istore_n (L' := [_, _, _, _, _, _]) dX2_need_28 (by decide) rfl ?_
      refine go_aload_n dX2_need_29 rfl ?_
      refine go_getc dX2_need_30 fX2_9 rfl (by decide) (by decide) (by decide) rfl ?_
      refine go_iload_n dX2_need_33 rfl ?_
      refine go_iald dX2_need_34 rfl (by decide) rfl (by omega) (by decide) e ?_
      refine go_iconst (-1) dX2_need_35 (by decide +kernel) ?_
      refine go_icmp_ne 82 dX2_need_36 (by decide) (fun h => absurd h (fun q => q rfl)) (fun h36 => ?_)
      refine go_bipush (nI 99) dX2_need_39 (by decide +kernel) ?_
      refine go_istore (L' := [_, _, _, _, _, _]) dX2_need_41 (by decide) rfl ?_
      refine go_iconst (nI 0) dX2_need_43 (by decide +kernel) ?_
      refine go_istore (L' := [_, _, _, _, _, _]) dX2_need_44 (by decide) rfl ?_
      exact g1
    · have hc := cR_le G w (6 - h) k
      refine ⟨m, ?_, Fr.rf _ _, hM⟩
      show Go O (d + 2 * r + 4) kX2_need _ m 0 [.ref 41, .int (nI h), .int (nI k), .null, .null, .null] [] m
      refine go_aload_n dX2_need_0 rfl ?_
      refine go_geti dX2_need_1 fX2_42 rfl (by decide) (by decide) (by decide) rfl hD.2.1 ?_
      refine go_iload_n dX2_need_4 rfl ?_
      refine go_iconst (-1) dX2_need_5 (by decide +kernel) ?_
      refine go_ixor dX2_need_6 rfl ?_
      refine go_iand dX2_need_7 rfl ?_
      refine go_if_ne 13 dX2_need_8 (by decide) (fun h8 => ?_) (fun h => absurd h (hw8 _ rfl))
      refine go_iload_n dX2_need_13 rfl ?_
      refine go_bipush (nI 6) dX2_need_14 (by decide +kernel) ?_
      refine go_icmp_lt 22 dX2_need_16 (by decide) (fun h16 => ?_) (fun h => absurd (nI_lt (by omega) (by omega)) h)
      refine go_iload_n dX2_need_22 rfl ?_
      refine go_bipush (nI 64) dX2_need_23 (by decide +kernel) ?_
      first | refine go_imul_n dX2_need_25 ?_ | refine go_imul dX2_need_25 rfl ?_
      refine go_iload_n dX2_need_26 rfl ?_
      first | refine go_iadd_n dX2_need_27 ?_ | refine go_iadd dX2_need_27 rfl ?_
      refine go_istore_n (L' := [_, _, _, _, _, _]) dX2_need_28 (by decide) rfl ?_
      refine go_aload_n dX2_need_29 rfl ?_
      refine go_getc dX2_need_30 fX2_9 rfl (by decide) (by decide) (by decide) rfl ?_
      refine go_iload_n dX2_need_33 rfl ?_
      refine go_iald dX2_need_34 rfl (by decide) rfl (by omega) (by decide) e ?_
      refine go_iconst (-1) dX2_need_35 (by decide +kernel) ?_
      refine go_icmp_ne 82 dX2_need_36 (by decide) (fun h36 => ?_) (fun h => absurd h (nI_n1 (by omega)))
      refine go_aload_n dX2_need_82 rfl ?_
      refine go_getc dX2_need_83 fX2_9 rfl (by decide) (by decide) (by decide) rfl ?_
      refine go_iload_n dX2_need_86 rfl ?_
      refine go_iald dX2_need_87 rfl (by decide) rfl (by omega) (by decide) e ?_
      exact go_iret dX2_need_88 rfl (by rw [e6]) rfl
