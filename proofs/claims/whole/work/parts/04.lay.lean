/-! THE PURE PICTURE: all cells that the class and the reference own, numbered; a memory of ints; what each cell holds -/
/-- ints by cell and place; the three references that change (0: today, 1: draft, 2: the outlook's day) -/
abbrev gMem : Type := (Nat → Nat → Int32) × (Nat → Nat)
/-- addresses of the cells; class numbers and slots; the classes of int arrays, boolean arrays, arrays of Standing -/
abbrev gOm : Type := (Nat → Nat) × ((Nat → ClassId) × (Nat → Nat → Nat)) × ClassId × ClassId × ClassId
/-- a cell's kind (0 .. 7: an object of that class; 8: ints; 9: booleans; 10: Standings) and how long it is -/
def gK : Nat → Nat × Nat
  | 0 => (6, 9)
  | 1 => (3, 2) | 2 => (8, 72)
  | 3 => (5, 6) | 4 => (8, 3) | 5 => (8, 18) | 6 => (8, 18) | 7 => (8, 9)
  | 8 => (5, 6) | 9 => (8, 3) | 10 => (8, 18) | 11 => (8, 18) | 12 => (8, 9)
  | 13 => (10, 2)
  | 14 => (5, 6) | 15 => (8, 3) | 16 => (8, 18) | 17 => (8, 18) | 18 => (8, 9)
  | 19 => (5, 6) | 20 => (8, 3) | 21 => (8, 18) | 22 => (8, 18) | 23 => (8, 9)
  | 24 => (0, 2) | 25 => (8, 16)
  | 26 => (4, 3) | 27 => (8, 6) | 28 => (8, 6)
  | 29 => (1, 8) | 30 => (8, 36) | 31 => (8, 18) | 32 => (8, 3) | 33 => (8, 3) | 34 => (8, 3)
  | 35 => (1, 8) | 36 => (8, 36) | 37 => (8, 18) | 38 => (8, 3) | 39 => (8, 3) | 40 => (8, 3)
  | 41 => (2, 7) | 42 => (8, 384) | 43 => (8, 64) | 44 => (8, 640) | 45 => (8, 8)
  | 46 => (7, 34)
  | 47 => (8, 72) | 48 => (8, 36) | 49 => (8, 3) | 50 => (8, 3) | 51 => (8, 3) | 52 => (8, 58)
  | 53 => (8, 36) | 54 => (8, 3) | 55 => (8, 3) | 56 => (8, 3) | 57 => (8, 928) | 58 => (8, 116) | 59 => (9, 2) | 60 => (8, 58)
  | 61 => (8, 8) | 62 => (8, 8) | 63 => (9, 8) | 64 => (8, 448) | 65 => (8, 640) | 66 => (8, 640) | 67 => (9, 640) | 68 => (9, 640)
  | _ => (11, 0)
/-- a field: none: an int; a cell for good; or one of the references that change -/
def gfk : Nat → Nat → Option (Nat ⊕ Nat)
  | 0, 0 => some (.inl 1) | 0, 1 => some (.inl 3) | 0, 2 => some (.inl 8) | 0, 3 => some (.inl 13) | 0, 4 => some (.inl 24) | 0, 5 => some (.inl 26) | 0, 6 => some (.inl 41) | 0, 7 => some (.inr 0) | 0, 8 => some (.inr 1)
  | 1, 0 => some (.inl 2)
  | 3, 0 => some (.inl 4) | 3, 1 => some (.inl 5) | 3, 2 => some (.inl 6) | 3, 3 => some (.inl 7)
  | 8, 0 => some (.inl 9) | 8, 1 => some (.inl 10) | 8, 2 => some (.inl 11) | 8, 3 => some (.inl 12)
  | 14, 0 => some (.inl 15) | 14, 1 => some (.inl 16) | 14, 2 => some (.inl 17) | 14, 3 => some (.inl 18)
  | 19, 0 => some (.inl 20) | 19, 1 => some (.inl 21) | 19, 2 => some (.inl 22) | 19, 3 => some (.inl 23)
  | 24, 0 => some (.inl 25)
  | 26, 0 => some (.inl 27) | 26, 1 => some (.inl 28)
  | 29, 0 => some (.inl 30) | 29, 1 => some (.inl 31) | 29, 2 => some (.inl 32) | 29, 3 => some (.inl 33) | 29, 4 => some (.inl 34)
  | 35, 0 => some (.inl 36) | 35, 1 => some (.inl 37) | 35, 2 => some (.inl 38) | 35, 3 => some (.inl 39) | 35, 4 => some (.inl 40)
  | 41, 0 => some (.inl 42) | 41, 1 => some (.inl 43) | 41, 2 => some (.inl 44) | 41, 3 => some (.inl 45) | 41, 4 => some (.inr 2)
  | 46, 1 => some (.inl 47) | 46, 7 => some (.inl 48) | 46, 8 => some (.inl 49) | 46, 9 => some (.inl 50) | 46, 10 => some (.inl 51) | 46, 12 => some (.inl 52)
  | 46, 16 => some (.inl 53) | 46, 17 => some (.inl 54) | 46, 18 => some (.inl 55) | 46, 19 => some (.inl 56) | 46, 20 => some (.inl 57) | 46, 22 => some (.inl 58) | 46, 23 => some (.inl 59) | 46, 24 => some (.inl 60)
  | 46, 26 => some (.inl 61) | 46, 27 => some (.inl 62) | 46, 28 => some (.inl 63) | 46, 29 => some (.inl 64) | 46, 30 => some (.inl 65) | 46, 31 => some (.inl 66) | 46, 32 => some (.inl 67) | 46, 33 => some (.inl 68)
  | _, _ => none
/-- the array of slots -/
def gsl (j : Nat) : Nat := bif j == 0 then 14 else 19
/-- a field's value in the pure picture, and at the machine -/
def gfp (m : gMem) (k j : Nat) : Value := match gfk k j with
  | none => .int (m.1 k j)
  | some (.inl t) => .ref t
  | some (.inr q) => .ref (m.2 q)
def gv (ad : Nat → Nat) : Value → Value
  | .ref a => .ref (ad a)
  | v => v
def gE (O : gOm) (m : gMem) (k : Nat) : va_E :=
  bif (gK k).1 == 8 then .inl (O.2.2.1, (gK k).2, .inl (m.1 k))
  else bif (gK k).1 == 9 then .inl (O.2.2.2.1, (gK k).2, .inl (m.1 k))
  else bif (gK k).1 == 10 then .inl (O.2.2.2.2, (gK k).2, .inr (.inr (.inr (.inr (fun j => some (O.1 (gsl j)))))))
  else .inr ((gK k).1, (List.range (gK k).2).map (fun j => gv O.1 (gfp m k j)))
abbrev gNC : Nat := 69
def gCells (O : gOm) (m : gMem) : va_W := (List.range gNC).map (fun k => (O.1 k, gE O m k))
abbrev gTys (O : gOm) : List (ClassId × FieldType) := [(O.2.2.1, .int), (O.2.2.2.1, .boolean), (O.2.2.2.2, .object RX5)]
/-- the cells that are written -/
def gA (O : gOm) : Nat → Prop := fun q => ∃ k, k < gNC ∧ O.1 k = q
/-- writes -/
def gup (m : gMem) (k i : Nat) (x : Int32) : gMem := (fun k' i' => bif k' == k && i' == i then x else m.1 k' i', m.2)
def gupA (m : gMem) (k : Nat) (f : Nat → Int32) : gMem := (fun k' => bif k' == k then f else m.1 k', m.2)
def gupR (m : gMem) (q t : Nat) : gMem := (m.1, fun q' => bif q' == q then t else m.2 q')
theorem gcat (ad : Nat → Nat) (v : Value) : (gv ad v).category = v.category := by cases v <;> rfl
theorem gCells_at (O : gOm) (m : gMem) {k : Nat} (h : k < gNC) : (gCells O m)[k]? = some (O.1 k, gE O m k) := by
  simp [gCells, h]
theorem gCells_lt (O : gOm) (m : gMem) {k : Nat} {q : Nat × va_E} (h : (gCells O m)[k]? = some q) : k < gNC ∧ q = (O.1 k, gE O m k) := by
  have hk : k < gNC := by
    have h1 := (List.getElem?_eq_some_iff.mp h).1
    simpa [gCells] using h1
  rw [gCells_at O m hk] at h
  exact ⟨hk, (Option.some.inj h).symm⟩
/-- a memory that differs in one cell alone -/
theorem gCells_set (O : gOm) (m m' : gMem) {k : Nat} (h : ∀ k', k' < gNC → k' ≠ k → gE O m' k' = gE O m k') : (gCells O m).set k (O.1 k, gE O m' k) = gCells O m' := by
  apply List.ext_getElem?
  intro i
  by_cases hi : i < gNC
  · rw [gCells_at O m' hi]
    by_cases hik : i = k
    · subst hik
      rw [List.getElem?_set_self (by simpa [gCells] using hi)]
    · rw [List.getElem?_set_ne (Ne.symm hik), gCells_at O m hi, h i hi hik]
  · rw [List.getElem?_eq_none (by simpa [gCells] using hi), List.getElem?_eq_none (by simpa [gCells] using hi)]
theorem gE_int (O : gOm) (m : gMem) {k n : Nat} (h : gK k = (8, n)) : gE O m k = .inl (O.2.2.1, n, .inl (m.1 k)) := by simp [gE, h]
theorem gE_bool (O : gOm) (m : gMem) {k n : Nat} (h : gK k = (9, n)) : gE O m k = .inl (O.2.2.2.1, n, .inl (m.1 k)) := by simp [gE, h]
theorem gE_slots (O : gOm) (m : gMem) {k n : Nat} (h : gK k = (10, n)) : gE O m k = .inl (O.2.2.2.2, n, .inr (.inr (.inr (.inr (fun j => some (O.1 (gsl j))))))) := by simp [gE, h]
theorem gE_obj (O : gOm) (m : gMem) {k ci n : Nat} (h : gK k = (ci, n)) (hc : ci < 8) : gE O m k = .inr (ci, (List.range n).map (fun j => gv O.1 (gfp m k j))) := by
  have h8 : (ci == 8) = false := by simp; omega
  have h9 : (ci == 9) = false := by simp; omega
  have h10 : (ci == 10) = false := by simp; omega
  simp [gE, h, h8, h9, h10]
/-- cells hold alike where the memory is alike in the cell -/
theorem gE_congr (O : gOm) {m m' : gMem} {k : Nat} (h1 : m.1 k = m'.1 k) (h2 : ∀ j q, gfk k j = some (.inr q) → m.2 q = m'.2 q) : gE O m k = gE O m' k := by
  have hf : ∀ j, gfp m k j = gfp m' k j := by
    intro j
    unfold gfp
    cases hg : gfk k j with
    | none => simp [h1]
    | some z =>
      cases z with
      | inl t => rfl
      | inr q => simp [h2 j q hg]
  unfold gE
  simp [h1, hf]
theorem gbeq {a b : Nat} (h : a ≠ b) : (a == b) = false := by simp [h]
theorem gup_cells (O : gOm) (m : gMem) (k i : Nat) (x : Int32) : (gCells O m).set k (O.1 k, gE O (gup m k i x) k) = gCells O (gup m k i x) :=
  gCells_set O m _ (fun k' _ hk => gE_congr O (by funext i'; simp [gup, gbeq hk]) (fun _ _ _ => rfl))
theorem gupA_cells (O : gOm) (m : gMem) (k : Nat) (f : Nat → Int32) : (gCells O m).set k (O.1 k, gE O (gupA m k f) k) = gCells O (gupA m k f) :=
  gCells_set O m _ (fun k' _ hk => gE_congr O (by simp [gupA, gbeq hk]) (fun _ _ _ => rfl))
/-- a reference that changes belongs to one field alone -/
theorem gfk_inr {k j q : Nat} (h : gfk k j = some (.inr q)) : (k = 0 ∧ j = 7 ∧ q = 0) ∨ (k = 0 ∧ j = 8 ∧ q = 1) ∨ (k = 41 ∧ j = 4 ∧ q = 2) := by
  unfold gfk at h
  split at h <;> simp_all
theorem gfk_sole {k j k' j' q : Nat} (h : gfk k j = some (.inr q)) (h' : gfk k' j' = some (.inr q)) : k' = k ∧ j' = j := by
  have a := gfk_inr h
  have b := gfk_inr h'
  omega
theorem gupR_cells (O : gOm) (m : gMem) {k j q : Nat} (t : Nat) (hq : gfk k j = some (.inr q)) : (gCells O m).set k (O.1 k, gE O (gupR m q t) k) = gCells O (gupR m q t) :=
  gCells_set O m _ (fun k' _ hk => gE_congr O rfl (fun j' q' h' => by
    have hne : q' ≠ q := fun e => hk (gfk_sole hq (e ▸ h')).1
    simp [gupR, gbeq hne]))
/-- the fields behind a write -/
theorem gfp_up (m : gMem) (k j j' : Nat) (x : Int32) (h : gfk k j = none) : gfp (gup m k j x) k j' = if j' = j then .int x else gfp m k j' := by
  by_cases hj : j' = j
  · subst hj
    simp [gfp, h, gup]
  · rw [if_neg hj]
    unfold gfp
    cases gfk k j' with
    | none => simp [gup, gbeq hj]
    | some z => cases z <;> rfl
theorem gfp_upR (m : gMem) {k j q : Nat} (j' t : Nat) (h : gfk k j = some (.inr q)) : gfp (gupR m q t) k j' = if j' = j then .ref t else gfp m k j' := by
  by_cases hj : j' = j
  · subst hj
    simp [gfp, h, gupR]
  · rw [if_neg hj]
    unfold gfp
    cases hg : gfk k j' with
    | none => rfl
    | some z =>
      cases z with
      | inl a => rfl
      | inr q' =>
        have hne : q' ≠ q := fun e => hj (gfk_sole h (e ▸ hg)).2
        simp [gupR, gbeq hne]
theorem grow_set {n j : Nat} (f g : Nat → Value) (v : Value) (h : ∀ j', j' < n → g j' = if j' = j then v else f j') : ((List.range n).map f).set j v = (List.range n).map g := by
  apply List.ext_getElem?
  intro i
  by_cases hi : i < n
  · by_cases hij : i = j
    · subst hij
      rw [List.getElem?_set_self (by simpa using hi)]
      simp [hi, h i hi]
    · rw [List.getElem?_set_ne (Ne.symm hij)]
      simp [hi, h i hi, hij]
  · rw [List.getElem?_eq_none (by simpa using hi), List.getElem?_eq_none (by simpa using hi)]
/-- the words that a method may use; those of nest mates -/
def gT : List Cond := lw_tbl.filter goodWord
def gIsNest : Cond → Bool
  | .methodLinkNest .. => true
  | .fieldLinkNest .. => true
  | _ => false
def gN : List Cond := tables_1.filter gIsNest
theorem gT_in {w : Cond} (h : w ∈ lw_tbl) (hg : goodWord w = true) : w ∈ gT := List.mem_filter.mpr ⟨h, hg⟩
theorem gT_of {w : Cond} (i : Nat) (h : tables_1[i]? = some w) (hg : goodWord w = true) : w ∈ gT := gT_in (List.mem_append_right _ (List.mem_of_getElem? h)) hg
theorem gT_sel {w : Cond} (i : Nat) (h : (k2_sels lw_privs)[i]? = some w) (hg : goodWord w = true) : w ∈ gT := gT_in (List.mem_append_left _ (List.mem_of_getElem? h)) hg
theorem gN_of {w : Cond} (i : Nat) (h : tables_1[i]? = some w) (hg : gIsNest w = true) : w ∈ gN := List.mem_filter.mpr ⟨List.mem_of_getElem? h, hg⟩
theorem gT_good {w : Cond} (h : w ∈ gT) : (w.onTables && w.keeps) = true ∨ ∃ ty, w = .arrayClass ty := good_of_word (List.mem_filter.mp h).2
theorem gT_goodIn : GoodIn gT gT := fun _ h => ⟨h, gT_good h⟩
theorem gN_tab {w : Cond} (h : w ∈ gN) : w.onTables = true := by
  have h2 := (List.mem_filter.mp h).2
  cases w <;> first | rfl | (simp [gIsNest] at h2)
theorem gN_warm {w : Cond} (h : w ∈ gN) {s U : State} (hW : s.WarmedH U.vm) (hZ : va_Nw w s) : va_Nw w U := by
  have h2 := (List.mem_filter.mp h).2
  cases w <;> first | exact va_Nw.warmF hW hZ | exact va_Nw.warmM hW hZ | (simp [gIsNest] at h2)
theorem gIn : ∀ q ∈ vwCl, ∀ w ∈ u_ws q.1 q.2.1 q.2.2, w ∈ lw_tbl := by decide +kernel
theorem gInG {ci : Nat} {C : String} {T : u_T} {N : Nat} (h : vwCl[ci]? = some (C, T, N)) : ∀ w ∈ u_ws C T N, w ∈ gT := by
  intro w hw
  refine gT_in (gIn _ (List.mem_of_getElem? h) w hw) ?_
  obtain ⟨j, -, rfl⟩ := List.mem_map.mp hw
  unfold u_lay
  split <;> rfl
/-- a class's number of fields, their types, their names -/
def gTyOf : Nat → Nat → FieldType
  | 0 => tyX0 | 1 => tyX1 | 2 => tyX2 | 3 => tyX3 | 4 => tyX4 | 5 => tyX5 | 6 => tyX6 | _ => tyX7
theorem gTyOk {ci : Nat} {C : String} {T : u_T} {N : Nat} (h : vwCl[ci]? = some (C, T, N)) : ∀ k, k < N → parseFieldDescriptor (T k).2.2.1 = some (gTyOf ci k) := by
  match ci, h with
  | 0, h => cases h; exact tyX0_ok
  | 1, h => cases h; exact tyX1_ok
  | 2, h => cases h; exact tyX2_ok
  | 3, h => cases h; exact tyX3_ok
  | 4, h => cases h; exact tyX4_ok
  | 5, h => cases h; exact tyX5_ok
  | 6, h => cases h; exact tyX6_ok
  | 7, h => cases h; exact tyX7_ok
  | k + 8, h => simp [vwCl] at h
theorem gNm {ci : Nat} {C : String} {T : u_T} {N : Nat} (h : vwCl[ci]? = some (C, T, N)) : ∀ a, a < N → ∀ b, b < N → a ≠ b → (T a).2.1 ≠ (T b).2.1 := by
  match ci, h with
  | 0, h => cases h; exact nmX0
  | 1, h => cases h; exact nmX1
  | 2, h => cases h; exact nmX2
  | 3, h => cases h; exact nmX3
  | 4, h => cases h; exact nmX4
  | 5, h => cases h; exact nmX5
  | 6, h => cases h; exact nmX6
  | 7, h => cases h; exact nmX7
  | k + 8, h => simp [vwCl] at h
/-- an object's kind is its class -/
theorem gK_cls : ∀ k, k < gNC → (gK k).1 < 8 → ∃ q, vwCl[(gK k).1]? = some q ∧ q.2.2 = (gK k).2 := by
  intro k hk h
  have key : ∀ k, k < gNC → (gK k).1 < 8 → ((vwCl.map (fun q => q.2.2))[(gK k).1]?) = some (gK k).2 := by decide +kernel
  have h2 := key k hk h
  rw [List.getElem?_map] at h2
  cases hq : vwCl[(gK k).1]? with
  | none => rw [hq] at h2; cases h2
  | some q => rw [hq] at h2; exact ⟨q, rfl, Option.some.inj h2⟩
