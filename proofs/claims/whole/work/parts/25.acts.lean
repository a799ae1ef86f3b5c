/-! ACTS: one more, one less; what a telling and its undoing do to a Standing -/
theorem IvA.push {m m2 : gMem} {P N hr hr' a : Nat} {lim : Nat → Nat} {x : Int32} (h : IvA m P N lim hr a) (hP : P ≤ 6) (hN : N ≤ 3) (hok : PgOk lim N (m.1 52) hr) (h11 : m.1 46 11 = nI hr) (e24 : m2.1 24 1 = (apM m a x).1 24 1) (e25 : m2.1 25 = (apM m a x).1 25) (e57 : m2.1 57 = (ntM m a).1 57) (e21 : m2.1 46 21 = (ntM m a).1 46 21) (e48 : m2.1 48 = m.1 48) (hl : Lnk (m.1 48) P N x (m.1 52) hr (m2.1 52) hr') : ∃ a', IvA m2 P N lim hr' a' := by
  obtain ⟨h1, h2, h3, g, hs, q1, q2, q3⟩ := h
  rcases Nat.lt_or_ge a 16 with z | z
  · have b57 : m2.1 57 = lyP (m.1 57) (m.1 52) (58 * a) (m.1 46 11) := by
      rw [e57, ntM, if_neg (by omega)]
      rfl
    have b25 : m2.1 25 = upd (m.1 25) a x := by
      rw [e25, apM, if_pos z, gup_k _ _ (by decide), gupd]
    have b24 : m2.1 24 1 = nI (a + 1) := by
      rw [e24, apM, if_pos z]
      rfl
    have b21 : m2.1 46 21 = nI (a + 1) := by
      rw [e21, ntM, if_neg (by omega)]
      rfl
    have Gl : ∀ i, i ≤ a → (if i ≤ a then g i else m2.1 52) = g i := fun i hi => if_pos hi
    have Hl : ∀ i, i ≤ a → (if i ≤ a then hs i else hr') = hs i := fun i hi => if_pos hi
    have Gg : (if a + 1 ≤ a then g (a + 1) else m2.1 52) = m2.1 52 := if_neg (by omega)
    have Hg : (if a + 1 ≤ a then hs (a + 1) else hr') = hr' := if_neg (by omega)
    refine ⟨a + 1, by omega, b24, b21, fun i => if i ≤ a then g i else m2.1 52, fun i => if i ≤ a then hs i else hr', ?_, Hg, fun i hi => ?_⟩
    · show PgE (if a + 1 ≤ a then g (a + 1) else m2.1 52) (m2.1 52)
      rw [Gg]
      exact PgE.rf _
    · show PgE (fun j => m2.1 57 (58 * i + j)) (if i ≤ a then g i else m2.1 52) ∧ m2.1 57 (58 * i + 57) = nI (if i ≤ a then hs i else hr') ∧ PgOk lim N (if i ≤ a then g i else m2.1 52) (if i ≤ a then hs i else hr') ∧ Lnk (m2.1 48) P N (m2.1 25 i) (if i ≤ a then g i else m2.1 52) (if i ≤ a then hs i else hr') (if i + 1 ≤ a then g (i + 1) else m2.1 52) (if i + 1 ≤ a then hs (i + 1) else hr')
      rw [Gl i (by omega), Hl i (by omega), e48]
      by_cases hia : i = a
      · subst hia
        rw [Gg, Hg, b25, upd_s, b57, q2]
        refine ⟨fun j hj => ?_, ?_, hok.of q1.sy, hl.of hP hN q1.sy (PgE.rf _)⟩
        · show lyP (m.1 57) (m.1 52) (58 * i) (m.1 46 11) (58 * i + j) = g i j
          rw [lyP_in _ _ _ _ (by omega)]
          exact (q1 j hj).symm
        · rw [lyP_hr, h11]
      · obtain ⟨r1, r2, r3, r4⟩ := q3 i (by omega)
        rw [Gl (i + 1) (by omega), Hl (i + 1) (by omega), b25, upd_n _ _ hia, b57]
        refine ⟨fun j hj => ?_, ?_, r3, r4⟩
        · show lyP (m.1 57) (m.1 52) (58 * a) (m.1 46 11) (58 * i + j) = g i j
          rw [lyP_out _ _ _ _ (by omega)]
          exact r1 j hj
        · rw [lyP_out _ _ _ _ (by omega)]
          exact r2
  · obtain rfl : a = 16 := by omega
    have b57 : m2.1 57 = lyP (shP (m.1 57) 870) (m.1 52) 870 (m.1 46 11) := by
      rw [e57, ntM, if_pos rfl]
      rfl
    have b25 : m2.1 25 = upd (va_cpy (m.1 25) (m.1 25) 1 0 15) 15 x := by
      rw [e25, apM, if_neg (by omega), gup_k _ _ (by decide), gupd, gup_k _ _ (by decide), gupA_s]
    have b24 : m2.1 24 1 = nI 16 := by
      rw [e24, apM, if_neg (by omega)]
      rfl
    have b21 : m2.1 46 21 = nI 16 := by
      rw [e21, ntM, if_pos rfl]
      rfl
    have Gl : ∀ i, i ≤ 15 → (if i ≤ 15 then g (i + 1) else m2.1 52) = g (i + 1) := fun i hi => if_pos hi
    have Hl : ∀ i, i ≤ 15 → (if i ≤ 15 then hs (i + 1) else hr') = hs (i + 1) := fun i hi => if_pos hi
    have Gg : (if 15 + 1 ≤ 15 then g (15 + 1 + 1) else m2.1 52) = m2.1 52 := if_neg (by omega)
    have Hg : (if 15 + 1 ≤ 15 then hs (15 + 1 + 1) else hr') = hr' := if_neg (by omega)
    refine ⟨16, by omega, b24, b21, fun i => if i ≤ 15 then g (i + 1) else m2.1 52, fun i => if i ≤ 15 then hs (i + 1) else hr', ?_, Hg, fun i hi => ?_⟩
    · show PgE (if 15 + 1 ≤ 15 then g (15 + 1 + 1) else m2.1 52) (m2.1 52)
      rw [Gg]
      exact PgE.rf _
    · show PgE (fun j => m2.1 57 (58 * i + j)) (if i ≤ 15 then g (i + 1) else m2.1 52) ∧ m2.1 57 (58 * i + 57) = nI (if i ≤ 15 then hs (i + 1) else hr') ∧ PgOk lim N (if i ≤ 15 then g (i + 1) else m2.1 52) (if i ≤ 15 then hs (i + 1) else hr') ∧ Lnk (m2.1 48) P N (m2.1 25 i) (if i ≤ 15 then g (i + 1) else m2.1 52) (if i ≤ 15 then hs (i + 1) else hr') (if i + 1 ≤ 15 then g (i + 1 + 1) else m2.1 52) (if i + 1 ≤ 15 then hs (i + 1 + 1) else hr')
      rw [Gl i (by omega), Hl i (by omega), e48]
      by_cases hia : i = 15
      · subst hia
        rw [Gg, Hg, b25, upd_s, b57]
        have q2' : hs (15 + 1) = hr := q2
        have q1' : PgE (g (15 + 1)) (m.1 52) := q1
        rw [q2']
        refine ⟨fun j hj => ?_, ?_, hok.of q1'.sy, hl.of hP hN q1'.sy (PgE.rf _)⟩
        · show lyP (shP (m.1 57) 870) (m.1 52) 870 (m.1 46 11) (870 + j) = g (15 + 1) j
          rw [lyP_in _ _ _ _ (by omega)]
          exact (q1' j hj).symm
        · show lyP (shP (m.1 57) 870) (m.1 52) 870 (m.1 46 11) (870 + 57) = nI hr
          rw [lyP_hr, h11]
      · obtain ⟨r1, r2, r3, r4⟩ := q3 (i + 1) (by omega)
        have ec : va_cpy (m.1 25) (m.1 25) 1 0 15 i = m.1 25 (i + 1) := by
          rw [pk_cpy_in (by omega) (by omega), show 1 + (i - 0) = i + 1 by omega]
        rw [Gl (i + 1) (by omega), Hl (i + 1) (by omega), b25, upd_n _ _ hia, ec, b57]
        refine ⟨fun j hj => ?_, ?_, r3, r4⟩
        · show lyP (shP (m.1 57) 870) (m.1 52) 870 (m.1 46 11) (58 * i + j) = g (i + 1) j
          rw [lyP_out _ _ _ _ (by omega), shP_at, if_pos (by omega), show 58 * i + j + 58 = 58 * (i + 1) + j by omega]
          exact r1 j hj
        · rw [lyP_out _ _ _ _ (by omega), shP_at, if_pos (by omega), show 58 * i + 57 + 58 = 58 * (i + 1) + 57 by omega]
          exact r2
theorem IvA.pop {m : gMem} {P N hr i : Nat} {lim : Nat → Nat} (h : IvA m P N lim hr (i + 1)) (hP : P ≤ 6) (hN : N ≤ 3) : ∃ (f : Nat → Int32) (h0 : Nat), PgE (fun j => m.1 57 (58 * i + j)) f ∧ m.1 57 (58 * i + 57) = nI h0 ∧ PgOk lim N f h0 ∧ Lnk (m.1 48) P N (m.1 25 i) f h0 (m.1 52) hr ∧ ∀ m2 : gMem, m2.1 24 1 = nI i → m2.1 46 21 = nI i → m2.1 25 = m.1 25 → m2.1 57 = m.1 57 → m2.1 48 = m.1 48 → PgE f (m2.1 52) → IvA m2 P N lim h0 i := by
  obtain ⟨h1, h2, h3, g, hs, q1, q2, q3⟩ := h
  obtain ⟨r1, r2, r3, r4⟩ := q3 i (by omega)
  rw [q2] at r4
  refine ⟨g i, hs i, r1, r2, r3, r4.of hP hN (PgE.rf _) q1, fun m2 e1 e2 e3 e4 e5 e6 => ?_⟩
  refine ⟨by omega, e1, e2, g, hs, e6, rfl, fun j hj => ?_⟩
  rw [e3, e4, e5]
  exact q3 j (by omega)
theorem ctM_2 (m : gMem) (s p n a G P : Nat) (st : Int32) : (ctM m s p n a G P st).1 (s + 2) = upd (m.1 (s + 2)) (p * 3 + n) (m.1 (s + 2) (p * 3 + n) + st) := by
  rw [ctM, gupA_k _ _ (by omega), ctB, gupA_k _ _ (by omega), ctA, gupA_s]
theorem ctM_3 (m : gMem) (s p n a G P : Nat) (st : Int32) : (ctM m s p n a G P st).1 (s + 3) = atX (m.1 (s + 3)) n G st P := by
  rw [ctM, gupA_s]
theorem ctM_4 (m : gMem) (s p n a G P : Nat) (st : Int32) : (ctM m s p n a G P st).1 (s + 4) = upd (m.1 (s + 4)) (n * 3 + a) (m.1 (s + 4) (n * 3 + a) + st) := by
  rw [ctM, gupA_k _ _ (by omega), ctB, gupA_s]
theorem ctM_o (m : gMem) {s k : Nat} (p n a G P : Nat) (st : Int32) (h2 : k ≠ s + 2) (h3 : k ≠ s + 3) (h4 : k ≠ s + 4) : (ctM m s p n a G P st).1 k = m.1 k := by
  rw [ctM, gupA_k _ _ h3, ctB, gupA_k _ _ h4, ctA, gupA_k _ _ h2]
theorem atX_at (f : Nat → Int32) {n n' : Nat} (G : Nat) (st : Int32) (hn : n < 3) (hn' : n' < 3) (q : Nat) : ∀ P, atX f n G st P (q * 3 + n') = if n' = n ∧ q < P then f (q * 3 + n') + nI (G / 2 ^ q % 2) * st else f (q * 3 + n')
  | 0 => by
    rw [if_neg (show ¬ (n' = n ∧ q < 0) by omega)]
    rfl
  | P + 1 => by
    by_cases h : q * 3 + n' = P * 3 + n
    · have e1 : q = P := by omega
      have e2 : n' = n := by omega
      subst e1; subst e2
      rw [if_pos (show n' = n' ∧ q < q + 1 from ⟨rfl, by omega⟩), atX, upd_s, atX_at f G st hn hn' q q, if_neg (show ¬ (n' = n' ∧ q < q) by omega)]
    · rw [atX, upd_n _ _ h, atX_at f G st hn hn' q P]
      by_cases h2 : n' = n ∧ q < P
      · rw [if_pos h2, if_pos (show n' = n ∧ q < P + 1 by omega)]
      · rw [if_neg h2, if_neg (show ¬ (n' = n ∧ q < P + 1) by omega)]
theorem or_z (x : Int32) : x ||| nI 0 = x := by
  apply Int32.toBitVec_inj.1
  show x.toBitVec ||| BitVec.ofNat 32 0 = x.toBitVec
  exact BitVec.or_zero
theorem mul_one32 (x : Int32) : x * nI 1 = x := Int32.mul_one x
theorem jhP_2 (f : Nat → Int32) (N : Nat) : jhP f N 2 = f 2 ||| (if N = 3 then f 0 &&& f 1 else nI 0) := by
  unfold jhP
  by_cases h : N = 3
  · rw [if_pos h, if_pos h, upd_s]
  · rw [if_neg h, if_neg h, or_z]
theorem jhP_n {f : Nat → Int32} {N j : Nat} (h : j ≠ 2) : jhP f N j = f j := by
  unfold jhP
  by_cases hN : N = 3
  · rw [if_pos hN, upd_n _ _ h]
  · rw [if_neg hN]
/-- a telling, at a Standing -/
theorem StP.spread {m : gMem} {s hr n p a G P N k : Nat} {f : Nat → Int32} (h : StP m s f hr) (hn : n < 3) (hp : p < 6) (ha : a < 3) (hP : P ≤ 6) (hk : m.1 (s + 1) n = nI k) : StP (gupA (ctM m s p n a G P (nI 1)) (s + 1) (jhP (upd (m.1 (s + 1)) n (nI (k ||| G))) N)) s (tlP f n p a G P N) hr := by
  obtain ⟨h1, h2, h3, h4, h5⟩ := h
  have kn : ∀ n', n' < 3 → upd (m.1 (s + 1)) n (nI (k ||| G)) n' = tl5 f n p a G P (3 + n') := by
    intro n' hn'
    rw [tl5_kn hn hp ha hP hn', ← h2 n' hn']
    by_cases hz : n' = n
    · subst hz
      rw [if_pos rfl, upd_s, hk, nb_or]
    · rw [if_neg hz, upd_n _ _ hz]
  refine ⟨?_, fun n' hn' => ?_, fun q n' hq hn' => ?_, fun q n' hq hn' => ?_, fun n' b hn' hb => ?_⟩
  · rw [gupA_k _ _ (by omega), ctM_o _ _ _ _ _ _ _ (by omega) (by omega) (by omega)]
    exact h1
  · rw [gupA_s]
    by_cases hz : n' = 2
    · subst hz
      rw [jhP_2, kn 2 (by omega), kn 0 (by omega), kn 1 (by omega)]
      exact (tlP_5 f n p a G P N).symm
    · rw [jhP_n hz, kn n' hn', tlP_n5 f (by omega)]
  · rw [gupA_k _ _ (by omega), ctM_2, tlP_tl hn hp ha hP hn' hq, ← h3 q n' hq hn']
    by_cases hz : n' = n ∧ q = p
    · obtain ⟨rfl, rfl⟩ := hz
      rw [if_pos (show n' = n' ∧ q = q from ⟨rfl, rfl⟩), upd_s]
    · rw [if_neg hz, upd_n _ _ (by omega)]
  · rw [gupA_k _ _ (by omega), ctM_3, atX_at _ _ _ hn hn', tlP_at hn hp ha hP hn' hq, ← h4 q n' hq hn', mul_one32, nb_tb]
  · rw [gupA_k _ _ (by omega), ctM_4, tlP_pl hn hp ha hP hn' hb, ← h5 n' b hn' hb]
    by_cases hz : n' = n ∧ b = a
    · obtain ⟨rfl, rfl⟩ := hz
      rw [if_pos (show n' = n' ∧ b = b from ⟨rfl, rfl⟩), upd_s]
    · rw [if_neg hz, upd_n _ _ (by omega)]
theorem add_m1 (x : Int32) : x + nI 1 + (-1) = x := by
  rw [Int32.add_assoc, show nI 1 + (-1) = (0 : Int32) by decide +kernel, Int32.add_zero]
theorem add_mb (x : Int32) (b : Bool) : x + nI (if b then 1 else 0) + nI (if b then 1 else 0) * (-1) = x := by
  cases b with
  | false => rw [Int32.add_assoc, show nI (if false = true then 1 else 0) + nI (if false = true then 1 else 0) * (-1) = (0 : Int32) by decide +kernel, Int32.add_zero]
  | true => rw [Int32.add_assoc, show nI (if true = true then 1 else 0) + nI (if true = true then 1 else 0) * (-1) = (0 : Int32) by decide +kernel, Int32.add_zero]
/-- a telling undone, at a Standing -/
theorem StP.undo {m : gMem} {hr n p a G P N k0 k1 k2 : Nat} {f f' : Nat → Int32} (h : StP m 3 f' hr) (e : PgE f' (tlP f n p a G P N)) (hn : n < 3) (hp : p < 6) (ha : a < 3) (hP : P ≤ 6) (e0 : f 3 = nI k0) (e1 : f 4 = nI k1) (e2 : f 5 = nI k2) : StP (gup (gup (gup (ctM m 3 p n a G P (-1)) 4 0 (nI k0)) 4 1 (nI k1)) 4 2 (nI k2)) 3 f hr := by
  obtain ⟨h1, h2, h3, h4, h5⟩ := h
  refine ⟨?_, fun n' hn' => ?_, fun q n' hq hn' => ?_, fun q n' hq hn' => ?_, fun n' b hn' hb => ?_⟩
  · rw [gup_k _ _ (by decide), gup_k _ _ (by decide), gup_k _ _ (by decide), ctM_o _ _ _ _ _ _ _ (by decide) (by decide) (by decide)]
    exact h1
  · rcases (show n' = 0 ∨ n' = 1 ∨ n' = 2 by omega) with rfl | rfl | rfl
    · show (gup (gup (gup (ctM m 3 p n a G P (-1)) 4 0 (nI k0)) 4 1 (nI k1)) 4 2 (nI k2)).1 4 0 = f 3
      rw [gup_i _ _ (by decide), gup_i _ _ (by decide), gup_s, e0]
    · show (gup (gup (gup (ctM m 3 p n a G P (-1)) 4 0 (nI k0)) 4 1 (nI k1)) 4 2 (nI k2)).1 4 1 = f 4
      rw [gup_i _ _ (by decide), gup_s, e1]
    · show (gup (gup (gup (ctM m 3 p n a G P (-1)) 4 0 (nI k0)) 4 1 (nI k1)) 4 2 (nI k2)).1 4 2 = f 5
      rw [gup_s, e2]
  · have key : m.1 (3 + 2) (q * 3 + n') = tlP f n p a G P N (6 + 6 * n' + q) := by rw [h3 q n' hq hn', e _ (by omega)]
    rw [gup_k _ _ (by decide), gup_k _ _ (by decide), gup_k _ _ (by decide), ctM_2]
    rw [tlP_tl hn hp ha hP hn' hq] at key
    by_cases hz : n' = n ∧ q = p
    · obtain ⟨rfl, rfl⟩ := hz
      rw [if_pos (show n' = n' ∧ q = q from ⟨rfl, rfl⟩)] at key
      rw [upd_s, key, add_m1]
    · rw [if_neg hz] at key
      rw [upd_n _ _ (by omega), key]
  · have key : m.1 (3 + 3) (q * 3 + n') = tlP f n p a G P N (24 + 6 * n' + q) := by rw [h4 q n' hq hn', e _ (by omega)]
    rw [gup_k _ _ (by decide), gup_k _ _ (by decide), gup_k _ _ (by decide), ctM_3, atX_at _ _ _ hn hn']
    rw [tlP_at hn hp ha hP hn' hq] at key
    by_cases hz : n' = n ∧ q < P
    · rw [if_pos hz] at key
      rw [if_pos hz, key, nb_tb, add_mb]
    · rw [if_neg hz] at key
      rw [if_neg hz, key]
  · have key : m.1 (3 + 4) (n' * 3 + b) = tlP f n p a G P N (42 + 3 * n' + b) := by rw [h5 n' b hn' hb, e _ (by omega)]
    rw [gup_k _ _ (by decide), gup_k _ _ (by decide), gup_k _ _ (by decide), ctM_4]
    rw [tlP_pl hn hp ha hP hn' hb] at key
    by_cases hz : n' = n ∧ b = a
    · obtain ⟨rfl, rfl⟩ := hz
      rw [if_pos (show n' = n' ∧ b = b from ⟨rfl, rfl⟩)] at key
      rw [upd_s, key, add_m1]
    · rw [if_neg hz] at key
      rw [upd_n _ _ (by omega), key]
/-- a Standing copied -/
theorem StP.copy {m : gMem} {s dst hr : Nat} {f : Nat → Int32} (h : StP m s f hr) (hd : dst + 4 < s ∨ s + 4 < dst) : StP (cpM m dst s) dst f hr := by
  obtain ⟨h1, h2, h3, h4, h5⟩ := h
  refine ⟨?_, fun n' hn' => ?_, fun q n' hq hn' => ?_, fun q n' hq hn' => ?_, fun n' b hn' hb => ?_⟩
  · rw [cpM, gup_s]
    exact h1
  · rw [cpM, gup_k _ _ (by omega), gupA_k _ _ (by omega), gupA_k _ _ (by omega), gupA_k _ _ (by omega), gupA_s, pk_cpy_in (by omega) (by omega), show 0 + (n' - 0) = n' by omega]
    exact h2 n' hn'
  · rw [cpM, gup_k _ _ (by omega), gupA_k _ _ (by omega), gupA_k _ _ (by omega), gupA_s, pk_cpy_in (by omega) (by omega), show 0 + (q * 3 + n' - 0) = q * 3 + n' by omega]
    exact h3 q n' hq hn'
  · rw [cpM, gup_k _ _ (by omega), gupA_k _ _ (by omega), gupA_s, pk_cpy_in (by omega) (by omega), show 0 + (q * 3 + n' - 0) = q * 3 + n' by omega]
    exact h4 q n' hq hn'
  · rw [cpM, gup_k _ _ (by omega), gupA_s, pk_cpy_in (by omega) (by omega), show 0 + (n' * 3 + b - 0) = n' * 3 + b by omega]
    exact h5 n' b hn' hb
