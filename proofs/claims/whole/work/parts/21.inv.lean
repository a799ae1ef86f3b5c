/-! WHAT HOLDS BETWEEN TWO CALLS: the class's cells and the reference's tell the same -/
/-- a page is sound -/
def PgOk (lim : Nat → Nat) (N : Nat) (f : Nat → Int32) (hr : Nat) : Prop :=
  hr < 6 ∧ (∀ n, n < 3 → ∃ k, k < 64 ∧ f (3 + n) = nI k) ∧ (∀ n, n < 3 → nI 0 + f (42 + 3 * n + 0) + f (42 + 3 * n + 1) + f (42 + 3 * n + 2) = f n) ∧ (∀ n, n < 3 → n < N → ∃ t, t ≤ lim n ∧ f n = nI t) ∧ (N = 3 → f 5 ||| (f 3 &&& f 4) = f 5)
/-- a Standing tells a page -/
def StP (m : gMem) (s : Nat) (f : Nat → Int32) (hr : Nat) : Prop :=
  m.1 s 4 = nI hr ∧ (∀ n, n < 3 → m.1 (s + 1) n = f (3 + n)) ∧ (∀ p n, p < 6 → n < 3 → m.1 (s + 2) (p * 3 + n) = f (6 + 6 * n + p)) ∧ (∀ p n, p < 6 → n < 3 → m.1 (s + 3) (p * 3 + n) = f (24 + 6 * n + p)) ∧ (∀ n a, n < 3 → a < 3 → m.1 (s + 4) (n * 3 + a) = f (42 + 3 * n + a))
/-- two pages tell the same -/
def PgE (f g : Nat → Int32) : Prop := ∀ j, j < 51 → f j = g j
/-- the reference's day -/
def IvD (m : gMem) (P N lw : Nat) (lim : Nat → Nat) : Prop :=
  m.1 46 4 = nI P ∧ P ≤ 6 ∧ m.1 46 5 = nI N ∧ N ≤ 3 ∧ m.1 46 6 = nI lw ∧ lw < 3 ∧ (∀ p h, p < P → h < 6 → ∃ av : Option Nat, m.1 48 (6 * p + h) = oI (-9) av ∧ ∀ a, av = some a → a < 3) ∧ (∀ n, n < N → lim n ≤ 9 ∧ m.1 49 n = nI (lim n)) ∧ (∀ n, n < N → ∃ k, k < 64 ∧ m.1 51 n = nI k)
/-- the class's day, in the cell T, told as the reference's -/
def IvT (m : gMem) (T P N lw : Nat) : Prop :=
  m.1 T 5 = nI P ∧ m.1 T 6 = nI N ∧ m.1 T 7 = nI lw ∧ (∀ p h, p < P → h < 6 → m.1 (T + 1) (p * 6 + h) = m.1 48 (6 * p + h)) ∧ (∀ h a, h < 6 → a < 3 → m.1 (T + 2) (h * 3 + a) = nI (grp (m.1 48) P h a)) ∧ (∀ n, n < N → m.1 (T + 3) n = m.1 49 n ∧ m.1 (T + 4) n = m.1 50 n ∧ m.1 (T + 5) n = m.1 51 n)
def IvTD (m : gMem) : Prop := (m.2 0 = 29 ∧ m.2 1 = 35) ∨ (m.2 0 = 35 ∧ m.2 1 = 29)
/-- now -/
def IvP (m : gMem) (N : Nat) (lim : Nat → Nat) (hr : Nat) : Prop := StP m 3 (m.1 52) hr ∧ m.1 46 11 = nI hr ∧ PgOk lim N (m.1 52) hr
/-- one page comes of another by an act -/
def Lnk (w : Nat → Int32) (P N : Nat) (act : Int32) (f : Nat → Int32) (hr : Nat) (f' : Nat → Int32) (hr' : Nat) : Prop :=
  (act = -1 ∧ hr' = hr + 1 ∧ PgE f' f) ∨ ∃ p n a k0 k1 k2, p < P ∧ n < N ∧ a < 3 ∧ w (6 * p + hr) = nI a ∧ f 3 = nI k0 ∧ f 4 = nI k1 ∧ f 5 = nI k2 ∧ k0 < 64 ∧ k1 < 64 ∧ k2 < 64 ∧ act = nI (tcN p n (pk3 k0 k1 k2)) ∧ hr' = hr ∧ PgE f' (tlP f n p a (grp w P hr a) P N)
/-- the acts: the reference's book of pages, the class's row -/
def IvA (m : gMem) (P N : Nat) (lim : Nat → Nat) (hr a : Nat) : Prop :=
  a ≤ 16 ∧ m.1 24 1 = nI a ∧ m.1 46 21 = nI a ∧ ∃ (g : Nat → Nat → Int32) (hs : Nat → Nat), PgE (g a) (m.1 52) ∧ hs a = hr ∧ ∀ i, i < a → PgE (fun j => m.1 57 (58 * i + j)) (g i) ∧ m.1 57 (58 * i + 57) = nI (hs i) ∧ PgOk lim N (g i) (hs i) ∧ Lnk (m.1 48) P N (m.1 25 i) (g i) (hs i) (g (i + 1)) (hs (i + 1))
/-- what is kept -/
def IvK (m : gMem) (N : Nat) (lim : Nat → Nat) : Prop := ∀ s, s < 2 → ∃ b : Bool, m.1 (gsl s) 5 = bI b ∧ m.1 59 s = bI b ∧ (b = true → ∃ (g : Nat → Int32) (hr : Nat), PgE (fun j => m.1 58 (58 * s + j)) g ∧ m.1 58 (58 * s + 57) = nI hr ∧ PgOk lim N g hr ∧ StP m (gsl s) g hr)
/-- the sights: sets by hours tell what the row tells -/
def snA (m : gMem) (h : Nat) (b : Bool) : Nat → Nat
  | 0 => 0
  | c + 1 => snA m h b c ||| (if m.1 61 c = nI h ∧ m.1 63 c = bI b then 2 ^ (m.1 62 c).toNatClampNeg else 0)
def IvS (m : gMem) (c : Nat) : Prop := c ≤ 8 ∧ m.1 26 2 = nI c ∧ m.1 46 25 = nI c ∧ (∀ i, i < c → (∃ h, h < 6 ∧ m.1 61 i = nI h) ∧ (∃ p, p < 6 ∧ m.1 62 i = nI p) ∧ ∃ b, m.1 63 i = bI b) ∧ ∀ h, h < 6 → m.1 27 h = nI (snA m h true c) ∧ m.1 28 h = nI (snA m h false c)
/-- the text -/
def IvX (m : gMem) (L : Nat) : Prop := L ≤ 72 ∧ m.1 1 1 = nI L ∧ m.1 46 2 = nI L ∧ ∀ i, i < L → ∃ b, b < 256 ∧ m.1 2 i = nI b ∧ m.1 47 i = nI b
def Inv (m : gMem) : Prop := ∃ (P N lw hr a c L : Nat) (lim : Nat → Nat), IvTD m ∧ IvD m P N lw lim ∧ IvT m (m.2 0) P N lw ∧ IvP m N lim hr ∧ IvA m P N lim hr a ∧ IvK m N lim ∧ IvS m c ∧ IvX m L
theorem PgE.rf (f : Nat → Int32) : PgE f f := fun _ _ => rfl
theorem PgE.sy {f g : Nat → Int32} (h : PgE f g) : PgE g f := fun j hj => (h j hj).symm
theorem PgE.tr {f g k : Nat → Int32} (h : PgE f g) (h' : PgE g k) : PgE f k := fun j hj => (h j hj).trans (h' j hj)
theorem PgOk.of {lim : Nat → Nat} {N hr : Nat} {f g : Nat → Int32} (h : PgOk lim N f hr) (e : PgE f g) : PgOk lim N g hr := by
  obtain ⟨h1, h2, h3, h4, h5⟩ := h
  refine ⟨h1, fun n hn => ?_, fun n hn => ?_, fun n h3n hn => ?_, fun hN => ?_⟩
  · obtain ⟨k, a, b⟩ := h2 n hn
    exact ⟨k, a, by rw [← e (3 + n) (by omega)]; exact b⟩
  · rw [← e (42 + 3 * n + 0) (by omega), ← e (42 + 3 * n + 1) (by omega), ← e (42 + 3 * n + 2) (by omega), ← e n (by omega)]
    exact h3 n hn
  · obtain ⟨t, a, b⟩ := h4 n h3n hn
    exact ⟨t, a, by rw [← e n (by omega)]; exact b⟩
  · rw [← e 5 (by omega), ← e 3 (by omega), ← e 4 (by omega)]
    exact h5 hN
theorem StP.of {m : gMem} {s hr : Nat} {f g : Nat → Int32} (h : StP m s f hr) (e : PgE f g) : StP m s g hr := by
  obtain ⟨h1, h2, h3, h4, h5⟩ := h
  exact ⟨h1, fun n hn => by rw [h2 n hn, e _ (by omega)], fun p n hp hn => by rw [h3 p n hp hn, e _ (by omega)], fun p n hp hn => by rw [h4 p n hp hn, e _ (by omega)], fun n a hn ha => by rw [h5 n a hn ha, e _ (by omega)]⟩
/-- what is told of some cells stays where they stay -/
theorem IvD.kept {m m' : gMem} {P N lw : Nat} {lim : Nat → Nat} (h : IvD m P N lw lim) (e4 : m'.1 46 4 = m.1 46 4) (e5 : m'.1 46 5 = m.1 46 5) (e6 : m'.1 46 6 = m.1 46 6) (a1 : m'.1 48 = m.1 48) (a2 : m'.1 49 = m.1 49) (a4 : m'.1 51 = m.1 51) : IvD m' P N lw lim := by
  unfold IvD at *
  rw [e4, e5, e6, a1, a2, a4]
  exact h
theorem IvT.kept {m m' : gMem} {T P N lw : Nat} (h : IvT m T P N lw) (e0 : m'.1 T = m.1 T) (e1 : m'.1 (T + 1) = m.1 (T + 1)) (e2 : m'.1 (T + 2) = m.1 (T + 2)) (e3 : m'.1 (T + 3) = m.1 (T + 3)) (e4 : m'.1 (T + 4) = m.1 (T + 4)) (e5 : m'.1 (T + 5) = m.1 (T + 5)) (a1 : m'.1 48 = m.1 48) (a2 : m'.1 49 = m.1 49) (a3 : m'.1 50 = m.1 50) (a4 : m'.1 51 = m.1 51) : IvT m' T P N lw := by
  unfold IvT at *
  rw [e0, e1, e2, e3, e4, e5, a1, a2, a3, a4]
  exact h
theorem StP.kept {m m' : gMem} {s hr : Nat} {f : Nat → Int32} (h : StP m s f hr) (e0 : m'.1 s 4 = m.1 s 4) (e1 : m'.1 (s + 1) = m.1 (s + 1)) (e2 : m'.1 (s + 2) = m.1 (s + 2)) (e3 : m'.1 (s + 3) = m.1 (s + 3)) (e4 : m'.1 (s + 4) = m.1 (s + 4)) : StP m' s f hr := by
  unfold StP at *
  rw [e0, e1, e2, e3, e4]
  exact h
theorem IvP.kept {m m' : gMem} {N hr : Nat} {lim : Nat → Nat} (h : IvP m N lim hr) (e0 : m'.1 3 4 = m.1 3 4) (e1 : m'.1 4 = m.1 4) (e2 : m'.1 5 = m.1 5) (e3 : m'.1 6 = m.1 6) (e4 : m'.1 7 = m.1 7) (a1 : m'.1 46 11 = m.1 46 11) (a2 : m'.1 52 = m.1 52) : IvP m' N lim hr := by
  unfold IvP at *
  rw [a1, a2]
  exact ⟨h.1.kept e0 e1 e2 e3 e4, h.2⟩
theorem IvA.kept {m m' : gMem} {P N hr a : Nat} {lim : Nat → Nat} (h : IvA m P N lim hr a) (e0 : m'.1 24 1 = m.1 24 1) (e1 : m'.1 25 = m.1 25) (a0 : m'.1 46 21 = m.1 46 21) (a1 : m'.1 48 = m.1 48) (a2 : m'.1 52 = m.1 52) (a3 : m'.1 57 = m.1 57) : IvA m' P N lim hr a := by
  unfold IvA at *
  rw [e0, e1, a0, a1, a2, a3]
  exact h
theorem gsl_0 : gsl 0 = 14 := rfl
theorem gsl_1 : gsl 1 = 19 := rfl
theorem lt2 {s : Nat} (h : s < 2) : s = 0 ∨ s = 1 := by omega
theorem IvK.kept {m m' : gMem} {N : Nat} {lim : Nat → Nat} (h : IvK m N lim) (e0 : m'.1 14 = m.1 14) (e1 : m'.1 15 = m.1 15) (e2 : m'.1 16 = m.1 16) (e3 : m'.1 17 = m.1 17) (e4 : m'.1 18 = m.1 18) (f0 : m'.1 19 = m.1 19) (f1 : m'.1 20 = m.1 20) (f2 : m'.1 21 = m.1 21) (f3 : m'.1 22 = m.1 22) (f4 : m'.1 23 = m.1 23) (a1 : m'.1 58 = m.1 58) (a2 : m'.1 59 = m.1 59) : IvK m' N lim := by
  intro s hs
  obtain ⟨b, h1, h2, h3⟩ := h s hs
  rcases lt2 hs with rfl | rfl
  · rw [gsl_0] at *
    refine ⟨b, by rw [e0]; exact h1, by rw [a2]; exact h2, fun hb => ?_⟩
    obtain ⟨g, hr, q1, q2, q3, q4⟩ := h3 hb
    exact ⟨g, hr, by rw [a1]; exact q1, by rw [a1]; exact q2, q3, q4.kept (by rw [e0]) e1 e2 e3 e4⟩
  · rw [gsl_1] at *
    refine ⟨b, by rw [f0]; exact h1, by rw [a2]; exact h2, fun hb => ?_⟩
    obtain ⟨g, hr, q1, q2, q3, q4⟩ := h3 hb
    exact ⟨g, hr, by rw [a1]; exact q1, by rw [a1]; exact q2, q3, q4.kept (by rw [f0]) f1 f2 f3 f4⟩
theorem snA_congr {m m' : gMem} (a1 : m'.1 61 = m.1 61) (a2 : m'.1 62 = m.1 62) (a3 : m'.1 63 = m.1 63) (h : Nat) (b : Bool) : ∀ c, snA m' h b c = snA m h b c
  | 0 => rfl
  | c + 1 => by simp only [snA, snA_congr a1 a2 a3 h b c, a1, a2, a3]
theorem IvS.kept {m m' : gMem} {c : Nat} (h : IvS m c) (e0 : m'.1 26 2 = m.1 26 2) (e1 : m'.1 27 = m.1 27) (e2 : m'.1 28 = m.1 28) (a0 : m'.1 46 25 = m.1 46 25) (a1 : m'.1 61 = m.1 61) (a2 : m'.1 62 = m.1 62) (a3 : m'.1 63 = m.1 63) : IvS m' c := by
  obtain ⟨h1, h2, h3, h4, h5⟩ := h
  refine ⟨h1, by rw [e0]; exact h2, by rw [a0]; exact h3, by rw [a1, a2, a3]; exact h4, fun h hh => ?_⟩
  rw [e1, e2, snA_congr a1 a2 a3, snA_congr a1 a2 a3]
  exact h5 h hh
theorem IvX.kept {m m' : gMem} {L : Nat} (h : IvX m L) (e0 : m'.1 1 1 = m.1 1 1) (e1 : m'.1 2 = m.1 2) (a0 : m'.1 46 2 = m.1 46 2) (a1 : m'.1 47 = m.1 47) : IvX m' L := by
  unfold IvX at *
  rw [e0, e1, a0, a1]
  exact h
