/-! WHAT A TELLING DOES, place by place of a page -/
theorem ad_rc (u v w : Int32) : u + v + w = u + w + v := by rw [Int32.add_assoc, Int32.add_comm v w, ← Int32.add_assoc]
theorem or_yy (x y : Int32) : x ||| y ||| y = x ||| y := by
  apply Int32.toBitVec_inj.1
  show x.toBitVec ||| y.toBitVec ||| y.toBitVec = x.toBitVec ||| y.toBitVec
  rw [BitVec.or_assoc, BitVec.or_self]
theorem atA_at (f : Nat → Int32) (n G j : Nat) : ∀ q, atA f n G q j = if 24 + 6 * n ≤ j ∧ j < 24 + 6 * n + q then f j + nI (if G.testBit (j - (24 + 6 * n)) then 1 else 0) else f j
  | 0 => by
    rw [if_neg (by omega)]
    rfl
  | q + 1 => by
    by_cases h : j = 24 + 6 * n + q
    · rw [if_pos (show 24 + 6 * n ≤ j ∧ j < 24 + 6 * n + (q + 1) by omega), atA, h, upd_s, atA_at f n G (24 + 6 * n + q) q, if_neg (show ¬ (24 + 6 * n ≤ 24 + 6 * n + q ∧ 24 + 6 * n + q < 24 + 6 * n + q) by omega), show 24 + 6 * n + q - (24 + 6 * n) = q by omega]
    · rw [atA, upd_n _ _ h, atA_at f n G j q]
      by_cases h2 : 24 + 6 * n ≤ j ∧ j < 24 + 6 * n + q
      · rw [if_pos h2, if_pos (show 24 + 6 * n ≤ j ∧ j < 24 + 6 * n + (q + 1) by omega)]
      · rw [if_neg h2, if_neg (show ¬ (24 + 6 * n ≤ j ∧ j < 24 + 6 * n + (q + 1)) by omega)]
/-- all of it, but the halves -/
theorem tl5_at (f : Nat → Int32) {n p a G P : Nat} (hn : n < 3) (hp : p < 6) (ha : a < 3) (hP : P ≤ 6) (j : Nat) : tl5 f n p a G P j =
    if j = 42 + 3 * n + a then f j + nI 1 else if 24 + 6 * n ≤ j ∧ j < 24 + 6 * n + P then f j + nI (if G.testBit (j - (24 + 6 * n)) then 1 else 0) else if j = 6 + 6 * n + p then f j + nI 1 else if j = 3 + n then f j ||| nI G else if j = n then f j + nI 1 else f j := by
  unfold tl5
  by_cases h1 : j = 42 + 3 * n + a
  · rw [if_pos h1, h1, upd_s, atA_at, if_neg (by omega), tl3, upd_n _ _ (by omega), tl2, upd_n _ _ (by omega), tl1, upd_n _ _ (by omega)]
  · rw [if_neg h1, upd_n _ _ h1, atA_at]
    by_cases h2 : 24 + 6 * n ≤ j ∧ j < 24 + 6 * n + P
    · rw [if_pos h2, if_pos h2, tl3, upd_n _ _ (by omega), tl2, upd_n _ _ (by omega), tl1, upd_n _ _ (by omega)]
    · rw [if_neg h2, if_neg h2]
      by_cases h3 : j = 6 + 6 * n + p
      · rw [if_pos h3, h3, tl3, upd_s, tl2, upd_n _ _ (by omega), tl1, upd_n _ _ (by omega)]
      · rw [if_neg h3, tl3, upd_n _ _ h3]
        by_cases h4 : j = 3 + n
        · rw [if_pos h4, h4, tl2, upd_s, tl1, upd_n _ _ (by omega)]
        · rw [if_neg h4, tl2, upd_n _ _ h4]
          by_cases h5 : j = n
          · rw [if_pos h5, h5, tl1, upd_s]
          · rw [if_neg h5, tl1, upd_n _ _ h5]
theorem tlP_n5 (f : Nat → Int32) {n p a G P N j : Nat} (h : j ≠ 5) : tlP f n p a G P N j = tl5 f n p a G P j := by
  rw [tlP, hvP, upd_n _ _ h]
theorem tlP_5 (f : Nat → Int32) (n p a G P N : Nat) : tlP f n p a G P N 5 = tl5 f n p a G P 5 ||| (if N = 3 then tl5 f n p a G P 3 &&& tl5 f n p a G P 4 else nI 0) := by
  rw [tlP, hvP, upd_s]
theorem tlP_congr {f g : Nat → Int32} {n p a G P N : Nat} (hn : n < 3) (hp : p < 6) (ha : a < 3) (hP : P ≤ 6) (e : PgE f g) : PgE (tlP f n p a G P N) (tlP g n p a G P N) := by
  have key : ∀ j, j < 51 → tl5 f n p a G P j = tl5 g n p a G P j := by
    intro j hj
    rw [tl5_at f hn hp ha hP, tl5_at g hn hp ha hP, e j hj]
  intro j hj
  by_cases h : j = 5
  · rw [h, tlP_5, tlP_5, key 5 (by omega), key 3 (by omega), key 4 (by omega)]
  · rw [tlP_n5 f h, tlP_n5 g h, key j hj]
section Tl
variable {f : Nat → Int32} {n p a G P N : Nat}
theorem tlP_told {n' : Nat} (hn : n < 3) (hp : p < 6) (ha : a < 3) (hP : P ≤ 6) (h : n' < 3) : tlP f n p a G P N n' = if n' = n then f n' + nI 1 else f n' := by
  rw [tlP_n5 f (by omega), tl5_at f hn hp ha hP, if_neg (by omega), if_neg (by omega), if_neg (by omega), if_neg (by omega)]
theorem tlP_tl {n' q : Nat} (hn : n < 3) (hp : p < 6) (ha : a < 3) (hP : P ≤ 6) (h : n' < 3) (hq : q < 6) : tlP f n p a G P N (6 + 6 * n' + q) = if n' = n ∧ q = p then f (6 + 6 * n' + q) + nI 1 else f (6 + 6 * n' + q) := by
  rw [tlP_n5 f (by omega), tl5_at f hn hp ha hP, if_neg (by omega), if_neg (by omega)]
  by_cases hz : n' = n ∧ q = p
  · rw [if_pos hz, if_pos (by omega)]
  · rw [if_neg hz, if_neg (by omega), if_neg (by omega), if_neg (by omega)]
theorem tlP_at {n' q : Nat} (hn : n < 3) (hp : p < 6) (ha : a < 3) (hP : P ≤ 6) (h : n' < 3) (hq : q < 6) : tlP f n p a G P N (24 + 6 * n' + q) = if n' = n ∧ q < P then f (24 + 6 * n' + q) + nI (if G.testBit q then 1 else 0) else f (24 + 6 * n' + q) := by
  rw [tlP_n5 f (by omega), tl5_at f hn hp ha hP, if_neg (by omega)]
  by_cases hz : n' = n ∧ q < P
  · obtain ⟨rfl, hz2⟩ := hz
    rw [if_pos (by omega), if_pos (show n' = n' ∧ q < P from ⟨rfl, hz2⟩), show 24 + 6 * n' + q - (24 + 6 * n') = q by omega]
  · rw [if_neg hz, if_neg (by omega), if_neg (by omega), if_neg (by omega), if_neg (by omega)]
theorem tlP_pl {n' b : Nat} (hn : n < 3) (hp : p < 6) (ha : a < 3) (hP : P ≤ 6) (h : n' < 3) (hb : b < 3) : tlP f n p a G P N (42 + 3 * n' + b) = if n' = n ∧ b = a then f (42 + 3 * n' + b) + nI 1 else f (42 + 3 * n' + b) := by
  rw [tlP_n5 f (by omega), tl5_at f hn hp ha hP]
  by_cases hz : n' = n ∧ b = a
  · rw [if_pos hz, if_pos (by omega)]
  · rw [if_neg hz, if_neg (by omega), if_neg (by omega), if_neg (by omega), if_neg (by omega), if_neg (by omega)]
theorem tl5_kn {n' : Nat} (hn : n < 3) (hp : p < 6) (ha : a < 3) (hP : P ≤ 6) (h : n' < 3) : tl5 f n p a G P (3 + n') = if n' = n then f (3 + n') ||| nI G else f (3 + n') := by
  rw [tl5_at f hn hp ha hP, if_neg (by omega), if_neg (by omega), if_neg (by omega)]
  by_cases hz : n' = n
  · rw [if_pos hz, if_pos (by omega)]
  · rw [if_neg hz, if_neg (by omega), if_neg (by omega)]
/-- a told page stays sound -/
theorem tlP_ok {lim : Nat → Nat} {hr : Nat} (hn : n < 3) (hp : p < 6) (ha : a < 3) (hP : P ≤ 6) (h : PgOk lim N f hr) (hnN : n < N) (hG : G < 64) {t0 : Nat} (et : f n = nI t0) (ht : t0 < lim n) (hlim : lim n ≤ 9) : PgOk lim N (tlP f n p a G P N) hr := by
  obtain ⟨h1, h2, h3, h4, h5⟩ := h
  have kn : ∀ n', n' < 3 → ∃ k, k < 64 ∧ tl5 f n p a G P (3 + n') = nI k := by
    intro n' hn'
    obtain ⟨k, hk, e⟩ := h2 n' hn'
    rw [tl5_kn hn hp ha hP hn', e]
    by_cases hz : n' = n
    · rw [if_pos hz]
      exact ⟨k ||| G, or_lt64 hk hG, nb_or k G⟩
    · rw [if_neg hz]
      exact ⟨k, hk, rfl⟩
  refine ⟨h1, fun n' hn' => ?_, fun n' hn' => ?_, fun n' h3n hn' => ?_, fun hN => ?_⟩
  · by_cases hz : n' = 2
    · subst hz
      obtain ⟨k2, a2, b2⟩ := kn 2 (by omega)
      obtain ⟨k0, a0, b0⟩ := kn 0 (by omega)
      obtain ⟨k1, a1, b1⟩ := kn 1 (by omega)
      have c2 : tl5 f n p a G P 5 = nI k2 := b2
      have c0 : tl5 f n p a G P 3 = nI k0 := b0
      have c1 : tl5 f n p a G P 4 = nI k1 := b1
      show ∃ k, k < 64 ∧ tlP f n p a G P N 5 = nI k
      rw [tlP_5, c2, c0, c1]
      by_cases hN : N = 3
      · rw [if_pos hN, nb_and, nb_or]
        exact ⟨_, or_lt64 a2 (Nat.lt_of_le_of_lt Nat.and_le_left a0), rfl⟩
      · rw [if_neg hN, nb_or]
        exact ⟨_, or_lt64 a2 (by omega), rfl⟩
    · rw [tlP_n5 f (by omega)]
      exact kn n' hn'
  · rw [tlP_pl hn hp ha hP hn' (by omega), tlP_pl hn hp ha hP hn' (by omega), tlP_pl hn hp ha hP hn' (by omega), tlP_told hn hp ha hP hn', ← h3 n' hn']
    by_cases hz : n' = n
    · rw [if_pos hz]
      rcases (show a = 0 ∨ a = 1 ∨ a = 2 by omega) with rfl | rfl | rfl
      · rw [if_pos (show n' = n ∧ 0 = 0 from ⟨hz, rfl⟩), if_neg (show ¬ (n' = n ∧ 1 = 0) by omega), if_neg (show ¬ (n' = n ∧ 2 = 0) by omega)]
        generalize f (42 + 3 * n' + 0) = x; generalize f (42 + 3 * n' + 1) = y; generalize f (42 + 3 * n' + 2) = z
        generalize nI 0 = u; generalize nI 1 = v
        rw [← Int32.add_assoc u x v, ad_rc (u + x) v y, ad_rc (u + x + y) v z]
      · rw [if_neg (show ¬ (n' = n ∧ 0 = 1) by omega), if_pos (show n' = n ∧ 1 = 1 from ⟨hz, rfl⟩), if_neg (show ¬ (n' = n ∧ 2 = 1) by omega)]
        generalize f (42 + 3 * n' + 0) = x; generalize f (42 + 3 * n' + 1) = y; generalize f (42 + 3 * n' + 2) = z
        generalize nI 0 = u; generalize nI 1 = v
        rw [← Int32.add_assoc (u + x) y v, ad_rc (u + x + y) v z]
      · rw [if_neg (show ¬ (n' = n ∧ 0 = 2) by omega), if_neg (show ¬ (n' = n ∧ 1 = 2) by omega), if_pos (show n' = n ∧ 2 = 2 from ⟨hz, rfl⟩)]
        generalize f (42 + 3 * n' + 0) = x; generalize f (42 + 3 * n' + 1) = y; generalize f (42 + 3 * n' + 2) = z
        generalize nI 0 = u; generalize nI 1 = v
        rw [Int32.add_assoc (u + x + y) z v]
    · rw [if_neg hz, if_neg (by omega), if_neg (by omega), if_neg (by omega)]
  · obtain ⟨t, a1, b1⟩ := h4 n' h3n hn'
    rw [tlP_told hn hp ha hP h3n, b1]
    by_cases hz : n' = n
    · subst hz
      rw [if_pos rfl]
      have e0 : t = t0 := (nI_eq (by omega) (by omega)).mp (b1.symm.trans et)
      exact ⟨t + 1, by omega, nI_1 t⟩
    · rw [if_neg hz]
      exact ⟨t, a1, rfl⟩
  · rw [tlP_5, tlP_n5 f (by omega), tlP_n5 f (by omega), if_pos hN]
    generalize tl5 f n p a G P 5 = x; generalize tl5 f n p a G P 3 &&& tl5 f n p a G P 4 = y
    exact or_yy x y
end Tl
theorem Lnk.of {w : Nat → Int32} {P N : Nat} {act : Int32} {f g f' g' : Nat → Int32} {hr hr' : Nat} (hP : P ≤ 6) (hN : N ≤ 3) (e : PgE f g) (e' : PgE f' g') (h : Lnk w P N act f hr f' hr') : Lnk w P N act g hr g' hr' := by
  rcases h with ⟨h1, h2, h3⟩ | ⟨p, n, a, k0, k1, k2, b1, b2, b3, b4, b5, b6, b7, b8, b9, b10, b11, b12, b13⟩
  · exact Or.inl ⟨h1, h2, e'.sy.tr (h3.tr e)⟩
  · exact Or.inr ⟨p, n, a, k0, k1, k2, b1, b2, b3, b4, by rw [← e 3 (by omega)]; exact b5, by rw [← e 4 (by omega)]; exact b6, by rw [← e 5 (by omega)]; exact b7, b8, b9, b10, b11, b12, e'.sy.tr (b13.tr (tlP_congr (by omega) (by omega) b3 hP e))⟩
theorem apM_k {m : gMem} {a k : Nat} {x : Int32} (h1 : k ≠ 24) (h2 : k ≠ 25) : (apM m a x).1 k = m.1 k := by
  unfold apM
  by_cases h : a < 16
  · rw [if_pos h, gup_k _ _ h1, gup_k _ _ h2]
  · rw [if_neg h, gup_k _ _ h1, gup_k _ _ h2, gup_k _ _ h1, gupA_k _ _ h2]
theorem ntM_k {m : gMem} {a k : Nat} (h1 : k ≠ 46) (h2 : k ≠ 57) : (ntM m a).1 k = m.1 k := by
  unfold ntM
  by_cases h : a = 16
  · rw [if_pos h, gup_k _ _ h1, gupA_k _ _ h2]
  · rw [if_neg h, gup_k _ _ h1, gupA_k _ _ h2]
theorem ntM_f {m : gMem} {a i : Nat} (h : i ≠ 21) : (ntM m a).1 46 i = m.1 46 i := by
  unfold ntM
  by_cases h1 : a = 16
  · rw [if_pos h1, gup_i _ _ h]
    rfl
  · rw [if_neg h1, gup_i _ _ h]
    rfl
theorem apM_2 {m : gMem} {a : Nat} {x : Int32} : (apM m a x).2 = m.2 := by unfold apM; by_cases h : a < 16 <;> simp only [h, if_true, if_false] <;> rfl
theorem ntM_2 {m : gMem} {a : Nat} : (ntM m a).2 = m.2 := by unfold ntM; by_cases h : a = 16 <;> simp only [h, if_true, if_false] <;> rfl
