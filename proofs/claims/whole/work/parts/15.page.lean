/-! PAGES: what a telling does to a page (told 0 .. 2, knowing 3 .. 5, by tellers 6 .., by hearers 24 .., by places 42 ..) -/
theorem gupA_s (m : gMem) (g : Nat) (f : Nat → Int32) : (gupA m g f).1 g = f := by simp [gupA]
theorem gupA_k (m : gMem) {g k : Nat} (f : Nat → Int32) (h : k ≠ g) : (gupA m g f).1 k = m.1 k := by simp [gupA, gbeq h]
theorem gupA_self (m : gMem) (g : Nat) : gupA m g (m.1 g) = m := by
  refine Prod.ext (funext fun k => ?_) rfl
  by_cases h : k = g
  · rw [h, gupA_s]
  · rw [gupA_k m _ h]
theorem gup_gupA (m : gMem) (g i : Nat) (f : Nat → Int32) (x : Int32) : gup (gupA m g f) g i x = gupA m g (upd f i x) := by
  refine Prod.ext (funext fun k => ?_) rfl
  by_cases h : k = g
  · rw [h, gupA_s, gupd, gupA_s]
  · rw [gupA_k m _ h, gup_k _ _ h, gupA_k m _ h]
theorem gupA_gupA (m : gMem) (g : Nat) (f f' : Nat → Int32) : gupA (gupA m g f) g f' = gupA m g f' := by
  refine Prod.ext (funext fun k => ?_) rfl
  by_cases h : k = g
  · rw [h, gupA_s, gupA_s]
  · rw [gupA_k _ _ h, gupA_k m _ h, gupA_k m _ h]
theorem gup_asA (m : gMem) (g i : Nat) (x : Int32) : gup m g i x = gupA m g (upd (m.1 g) i x) := by
  conv => lhs; rw [← gupA_self m g]
  rw [gup_gupA]
theorem Fr.upA {S : List Nat} {m m1 : gMem} (h : Fr S m m1) {k : Nat} (hk : k ∈ S) (f : Nat → Int32) : Fr S m (gupA m1 k f) := by
  refine ⟨h.1, fun k' hk' => ?_⟩
  have hne : k' ≠ k := fun e => hk' (e ▸ hk)
  rw [gupA_k _ _ hne]
  exact h.2 k' hk'
theorem upd_s (f : Nat → Int32) (i : Nat) (x : Int32) : upd f i x i = x := by simp [upd]
theorem upd_n (f : Nat → Int32) {i j : Nat} (x : Int32) (h : j ≠ i) : upd f i x j = f j := by simp [upd, h]
section GoPage
variable {O : gOm} {d : Nat} {K : gM} {r : Option Value} {m m' : gMem} {pc : Nat} {L st : List Value}
theorem go_ialdA {n k i : Nat} {f : Nat → Int32} {x v : Int32} (hd : decode K.2.1 pc = .ok (.iaload, 1)) (hk : gK k = (8, n)) (hkn : k < gNC) (hx : x = nI i) (hi : i < n) (hn : n < 1000) (hv : f i = v) (kk : Go O d K r m' (pc + 1) L (.int v :: st) (gupA m k f)) : Go O d K r m' pc L (.int x :: .ref k :: st) (gupA m k f) :=
  go_iald hd hk hkn hx hi hn (by rw [gupA_s]; exact hv) kk
theorem go_iastA {n k i : Nat} {f : Nat → Int32} {x y : Int32} (hd : decode K.2.1 pc = .ok (.iastore, 1)) (hk : gK k = (8, n)) (hkn : k < gNC) (hx : x = nI i) (hi : i < n) (hn : n < 1000) (kk : Go O d K r m' (pc + 1) L st (gupA m k (upd f i y))) : Go O d K r m' pc L (.int y :: .int x :: .ref k :: st) (gupA m k f) :=
  go_iast hd hk hkn hx hi hn (by rw [gup_gupA]; exact kk)
end GoPage
/-- the halves -/
def hvP (f : Nat → Int32) (N : Nat) : Nat → Int32 := upd f 5 (f 5 ||| (if N = 3 then f 3 &&& f 4 else nI 0))
/-- the hearers -/
def atA (f : Nat → Int32) (n G : Nat) : Nat → Nat → Int32
  | 0 => f
  | q + 1 => upd (atA f n G q) (24 + 6 * n + q) (atA f n G q (24 + 6 * n + q) + nI (if G.testBit q then 1 else 0))
/-- a telling of n by p at place a, where G are -/
def tl1 (f : Nat → Int32) (n : Nat) : Nat → Int32 := upd f n (f n + nI 1)
def tl2 (f : Nat → Int32) (n G : Nat) : Nat → Int32 := upd (tl1 f n) (3 + n) (tl1 f n (3 + n) ||| nI G)
def tl3 (f : Nat → Int32) (n p G : Nat) : Nat → Int32 := upd (tl2 f n G) (6 + 6 * n + p) (tl2 f n G (6 + 6 * n + p) + nI 1)
def tl5 (f : Nat → Int32) (n p a G P : Nat) : Nat → Int32 := upd (atA (tl3 f n p G) n G P) (42 + 3 * n + a) (atA (tl3 f n p G) n G P (42 + 3 * n + a) + nI 1)
def tlP (f : Nat → Int32) (n p a G P N : Nat) : Nat → Int32 := hvP (tl5 f n p a G P) N
/-- whether a telling may be: one knows it, those that are there, how often told and at most, by the law -/
def mT (kp : Bool) (g : Nat) (told lim : Int32) (lw : Nat) (tl pl : Int32) : Bool := kp && decide (1 < pc6 g) && decide (told < lim) && (if lw = 1 then decide (tl = 0) else if lw = 2 then decide (pl < 3) else true)
def gOf (gr : Nat → Nat) : Option Nat → Nat
  | none => 0
  | some a => gr a
def plOf (f : Nat → Int32) (n : Nat) : Option Nat → Int32
  | none => 0
  | some a => f (42 + 3 * n + a)
theorem nI_nn {a b : Nat} (h : a < 2 ^ 31) (hb : 0 < b) (hb2 : b < 2 ^ 31) : ¬ nI a = -(nI b) := by
  intro e
  have e2 := congrArg Int32.toInt e
  rw [nI_toInt h, sb_negT hb2] at e2
  omega
theorem nI_n9 {a : Nat} (h : a < 2 ^ 31) : ¬ nI a = -9 := by
  have := nI_nn h (b := 9) (by omega) (by omega)
  exact this
