/-! ROWS OF THE JUDGEMENT that touch the cells -/
/-- a class file's entry names field j of class ci -/
def gFl (own : String) (ix ci j : Nat) : Prop := ∃ (C : String) (T : u_T) (N : Nat), vwCl[ci]? = some (C, T, N) ∧ (Cond.fieldLink own ix (T j).1 (T j).2.1 (T j).2.2.1 ∈ gT ∨ ∃ host, Cond.fieldLinkNest own ix (T j).1 (T j).2.1 (T j).2.2.1 host ∈ gN)
theorem gPinj {O : gOm} {s : State} (h : gWd O s) : ∀ i j, i < gNC → j < gNC → O.1 i = O.1 j → i = j := h.2.2.1
section GoMem
variable {O : gOm} {d : Nat} {K : gM} {r : Option Value} {m m' : gMem} {pc : Nat} {L st : List Value}
theorem go_get {ix ci n k j : Nat} {v : Value} (hd : decode K.2.1 pc = .ok (.getfield ix, 3)) (hF : gFl K.1.cls ix ci j) (hk : gK k = (ci, n)) (hc : ci < 8) (hj : j < n) (hkn : k < gNC) (hv : gfp m k j = v) (kk : Go O d K r m' (pc + 3) L (v :: st) m) : Go O d K r m' pc L (.ref k :: st) m := by
  intro p l e s mi as bl me c H lo ls hC hP hS hL
  subst hv
  obtain ⟨C, T, N, hcl, hlk⟩ := hF
  obtain ⟨q, hq1, hq2⟩ := gK_cls k hkn (by rw [hk]; exact hc)
  rw [hk] at hq1 hq2
  have hN : N = n := by
    have := hcl.symm.trans hq1
    cases this
    exact hq2
  subst hN
  have hat := gCells_at O m hkn
  rw [gE_obj O m hk hc] at hat
  have hfv : ((List.range N).map (fun j => gv O.1 (gfp m k j)))[j]? = some (gv O.1 (gfp m k j)) := by simp [hj]
  rcases hlk with h | ⟨host, h⟩
  · exact va_get hC.1 hC.2.1 hC.2.2.2.2.2.2.1 (gInG hcl) hC.2.2.2.2.2.1 hC.2.2.2.2.2.2.2.2.1 hP k hat hcl j hj (hC.2.2.2.2.2.2.1 _ h) (fun _ h => h) hfv hd (kk p l e s mi as bl me c H lo ls hC hP hS hL)
  · exact va_getN hC.1 hC.2.1 hC.2.2.2.2.2.2.1 (gInG hcl) hC.2.2.2.2.2.1 hC.2.2.2.2.2.2.2.2.1 hP k hat hcl j hj (va_Nw.use (gN_tab h) (hC.2.2.2.2.2.2.2.1 _ h)) (fun _ h => h) hfv hd (kk p l e s mi as bl me c H lo ls hC hP hS hL)
/-- a write of an int field (a boolean's value must be 0 or 1) -/
theorem go_puti {ix ci n k j : Nat} {x : Int32} (hd : decode K.2.1 pc = .ok (.putfield ix, 3)) (hF : gFl K.1.cls ix ci j) (hk : gK k = (ci, n)) (hc : ci < 8) (hj : j < n) (hkn : k < gNC) (hn : gfk k j = none) (hfin : ∀ C T N, vwCl[ci]? = some (C, T, N) → (T j).2.2.2 = false) (hty : gTyOf ci j = .int ∨ (gTyOf ci j = .boolean ∧ (x = 0 ∨ x = 1))) (kk : Go O d K r m' (pc + 3) L st (gup m k j x)) : Go O d K r m' pc L (.int x :: .ref k :: st) m := by
  intro p l e s mi as bl me c H lo ls hC hP hS hL
  obtain ⟨C, T, N, hcl, hlk⟩ := hF
  obtain ⟨q, hq1, hq2⟩ := gK_cls k hkn (by rw [hk]; exact hc)
  rw [hk] at hq1 hq2
  have hN : N = n := by
    have := hcl.symm.trans hq1
    cases this
    exact hq2
  subst hN
  have hD := gD O m (gPinj hC.2.2.2.2.2.2.2)
  have hat := gCells_at O m hkn
  rw [gE_obj O m hk hc] at hat
  have e1 : ((List.range N).map (fun j => gv O.1 (gfp m k j))).set j (.int x) = (List.range N).map (fun j' => gv O.1 (gfp (gup m k j x) k j')) :=
    grow_set _ _ _ (fun j' _ => by rw [gfp_up m k j j' x hn]; by_cases h : j' = j <;> simp [h, gv])
  have e2 : (gCells O m).set k (O.1 k, .inr (ci, ((List.range N).map (fun j => gv O.1 (gfp m k j))).set j (.int x))) = gCells O (gup m k j x) := by
    rw [e1, ← gE_obj O (gup m k j x) hk hc]
    exact gup_cells O m k j x
  have hn1 : narrow (gTyOf ci j) (.int x) = .int x := by
    rcases hty with h | ⟨h, h2⟩
    · rw [h]; rfl
    · rw [h]; rcases h2 with rfl | rfl <;> rfl
  have hf1 : fits (gTyOf ci j) (.int x) = true := by
    rcases hty with h | ⟨h, h2⟩
    · rw [h]; rfl
    · rw [h]; rcases h2 with rfl | rfl <;> rfl
  rcases hlk with h | ⟨host, h⟩
  · refine va_put hC.1 hC.2.1 hC.2.2.2.2.2.2.1 (gInG hcl) (gTyOf ci) (gTyOk hcl) (gNm hcl) hC.2.2.2.2.2.1 hC.2.2.2.2.2.2.2.2.1 hP hD hS k hat hcl j hj (hC.2.2.2.2.2.2.1 _ h) (fun _ h => h) (hfin C T N hcl) (gTyOk hcl j hj) hn1 hf1 (by simpa using hj) hd (fun H1 l1 a1 _ a3 => ?_)
    replace a1 : va_P O.2.1 vwCl (gCells O (gup m k j x)) H1 := by rw [← e2]; exact a1
    exact kk p l e s mi as bl me c H1 l1 ls hC a1 a3 hL
  · refine va_putN hC.1 hC.2.1 hC.2.2.2.2.2.2.1 (gInG hcl) (gTyOf ci) (gTyOk hcl) (gNm hcl) hC.2.2.2.2.2.1 hC.2.2.2.2.2.2.2.2.1 hP hD hS k hat hcl j hj (va_Nw.use (gN_tab h) (hC.2.2.2.2.2.2.2.1 _ h)) (fun _ h => h) (hfin C T N hcl) (gTyOk hcl j hj) hn1 hf1 (by simpa using hj) hd (fun H1 l1 a1 _ a3 => ?_)
    replace a1 : va_P O.2.1 vwCl (gCells O (gup m k j x)) H1 := by rw [← e2]; exact a1
    exact kk p l e s mi as bl me c H1 l1 ls hC a1 a3 hL
/-- a write of a reference that changes -/
theorem go_putr {ix ci n k j q t : Nat} (hd : decode K.2.1 pc = .ok (.putfield ix, 3)) (hF : gFl K.1.cls ix ci j) (hk : gK k = (ci, n)) (hc : ci < 8) (hj : j < n) (hkn : k < gNC) (hn : gfk k j = some (.inr q)) (hfin : ∀ C T N, vwCl[ci]? = some (C, T, N) → (T j).2.2.2 = false) (hty : ∃ C, gTyOf ci j = .object C) (kk : Go O d K r m' (pc + 3) L st (gupR m q t)) : Go O d K r m' pc L (.ref t :: .ref k :: st) m := by
  intro p l e s mi as bl me c H lo ls hC hP hS hL
  obtain ⟨C, T, N, hcl, hlk⟩ := hF
  obtain ⟨q', hq1, hq2⟩ := gK_cls k hkn (by rw [hk]; exact hc)
  rw [hk] at hq1 hq2
  have hN : N = n := by
    have := hcl.symm.trans hq1
    cases this
    exact hq2
  subst hN
  have hD := gD O m (gPinj hC.2.2.2.2.2.2.2)
  have hat := gCells_at O m hkn
  rw [gE_obj O m hk hc] at hat
  have e1 : ((List.range N).map (fun j => gv O.1 (gfp m k j))).set j (.ref (O.1 t)) = (List.range N).map (fun j' => gv O.1 (gfp (gupR m q t) k j')) :=
    grow_set _ _ _ (fun j' _ => by rw [gfp_upR m j' t hn]; by_cases h : j' = j <;> simp [h, gv])
  have e2 : (gCells O m).set k (O.1 k, .inr (ci, ((List.range N).map (fun j => gv O.1 (gfp m k j))).set j (.ref (O.1 t)))) = gCells O (gupR m q t) := by
    rw [e1, ← gE_obj O (gupR m q t) hk hc]
    exact gupR_cells O m t hn
  have hn1 : narrow (gTyOf ci j) (.ref (O.1 t)) = .ref (O.1 t) := by
    obtain ⟨C', h⟩ := hty
    rw [h]; rfl
  have hf1 : fits (gTyOf ci j) (.ref (O.1 t)) = true := by
    obtain ⟨C', h⟩ := hty
    rw [h]; rfl
  rcases hlk with h | ⟨host, h⟩
  · refine va_put hC.1 hC.2.1 hC.2.2.2.2.2.2.1 (gInG hcl) (gTyOf ci) (gTyOk hcl) (gNm hcl) hC.2.2.2.2.2.1 hC.2.2.2.2.2.2.2.2.1 hP hD hS k hat hcl j hj (hC.2.2.2.2.2.2.1 _ h) (fun _ h => h) (hfin C T N hcl) (gTyOk hcl j hj) hn1 hf1 (by simpa using hj) hd (fun H1 l1 a1 _ a3 => ?_)
    replace a1 : va_P O.2.1 vwCl (gCells O (gupR m q t)) H1 := by rw [← e2]; exact a1
    exact kk p l e s mi as bl me c H1 l1 ls hC a1 a3 hL
  · refine va_putN hC.1 hC.2.1 hC.2.2.2.2.2.2.1 (gInG hcl) (gTyOf ci) (gTyOk hcl) (gNm hcl) hC.2.2.2.2.2.1 hC.2.2.2.2.2.2.2.2.1 hP hD hS k hat hcl j hj (va_Nw.use (gN_tab h) (hC.2.2.2.2.2.2.2.1 _ h)) (fun _ h => h) (hfin C T N hcl) (gTyOk hcl j hj) hn1 hf1 (by simpa using hj) hd (fun H1 l1 a1 _ a3 => ?_)
    replace a1 : va_P O.2.1 vwCl (gCells O (gupR m q t)) H1 := by rw [← e2]; exact a1
    exact kk p l e s mi as bl me c H1 l1 ls hC a1 a3 hL
/-- arrays: the place is told as a number -/
theorem go_iald {n k i : Nat} {x v : Int32} (hd : decode K.2.1 pc = .ok (.iaload, 1)) (hk : gK k = (8, n)) (hkn : k < gNC) (hx : x = nI i) (hi : i < n) (hn : n < 1000) (hv : m.1 k i = v) (kk : Go O d K r m' (pc + 1) L (.int v :: st) m) : Go O d K r m' pc L (.int x :: .ref k :: st) m := by
  intro p l e s mi as bl me c H lo ls hC hP hS hL
  subst hx; subst hv
  have hat := gCells_at O m hkn
  rw [gE_int O m hk] at hat
  refine va_iald hC.1 hC.2.1 hC.2.2.2.2.2.2.2.2.1 hP k 0 hat rfl (vp_in_nI hi (by omega)) hd ?_
  rw [nI_clamp (by omega)]
  exact kk p l e s mi as bl me c H lo ls hC hP hS hL
theorem go_zald {n k i : Nat} {x v : Int32} (hd : decode K.2.1 pc = .ok (.baload, 1)) (hk : gK k = (9, n)) (hkn : k < gNC) (hx : x = nI i) (hi : i < n) (hn : n < 1000) (hv : m.1 k i = v) (kk : Go O d K r m' (pc + 1) L (.int v :: st) m) : Go O d K r m' pc L (.int x :: .ref k :: st) m := by
  intro p l e s mi as bl me c H lo ls hC hP hS hL
  subst hx; subst hv
  have hat := gCells_at O m hkn
  rw [gE_bool O m hk] at hat
  refine va_zald hC.1 hC.2.1 hC.2.2.2.2.2.2.2.2.1 hP k 1 hat rfl (vp_in_nI hi (by omega)) hd ?_
  rw [nI_clamp (by omega)]
  exact kk p l e s mi as bl me c H lo ls hC hP hS hL
theorem gupd (m : gMem) (k i : Nat) (x : Int32) : (gup m k i x).1 k = upd (m.1 k) i x := by
  funext j
  by_cases h : j = i
  · simp [gup, upd, h]
  · simp [gup, upd, h, gbeq h]
theorem go_iast {n k i : Nat} {x y : Int32} (hd : decode K.2.1 pc = .ok (.iastore, 1)) (hk : gK k = (8, n)) (hkn : k < gNC) (hx : x = nI i) (hi : i < n) (hn : n < 1000) (kk : Go O d K r m' (pc + 1) L st (gup m k i y)) : Go O d K r m' pc L (.int y :: .int x :: .ref k :: st) m := by
  intro p l e s mi as bl me c H lo ls hC hP hS hL
  subst hx
  have hD := gD O m (gPinj hC.2.2.2.2.2.2.2)
  have hat := gCells_at O m hkn
  rw [gE_int O m hk] at hat
  refine va_iast hC.1 hC.2.1 hC.2.2.2.2.2.2.2.2.1 hP hD hS k 0 hat rfl (vp_in_nI hi (by omega)) hd (fun H1 l1 a1 _ a3 => ?_)
  rw [nI_clamp (by omega), ← gupd, ← gE_int O (gup m k i y) hk, gup_cells] at a1
  exact kk p l e s mi as bl me c H1 l1 ls hC a1 a3 hL
theorem go_zast {n k i : Nat} {x y : Int32} (hd : decode K.2.1 pc = .ok (.bastore, 1)) (hk : gK k = (9, n)) (hkn : k < gNC) (hx : x = nI i) (hi : i < n) (hn : n < 1000) (hy : y = 0 ∨ y = 1) (kk : Go O d K r m' (pc + 1) L st (gup m k i y)) : Go O d K r m' pc L (.int y :: .int x :: .ref k :: st) m := by
  intro p l e s mi as bl me c H lo ls hC hP hS hL
  subst hx
  have hD := gD O m (gPinj hC.2.2.2.2.2.2.2)
  have hat := gCells_at O m hkn
  rw [gE_bool O m hk] at hat
  refine va_zast hC.1 hC.2.1 hC.2.2.2.2.2.2.2.2.1 hP hD hS k 1 hat rfl (vp_in_nI hi (by omega)) hd (fun H1 l1 a1 _ a3 => ?_)
  have hz : vp_nar .boolean y = y := by rcases hy with rfl | rfl <;> rfl
  rw [nI_clamp (by omega), hz, ← gupd, ← gE_bool O (gup m k i y) hk, gup_cells] at a1
  exact kk p l e s mi as bl me c H1 l1 ls hC a1 a3 hL
theorem go_aald {n k i : Nat} {x : Int32} (hd : decode K.2.1 pc = .ok (.aaload, 1)) (hk : gK k = (10, n)) (hkn : k < gNC) (hx : x = nI i) (hi : i < n) (hn : n < 1000) (kk : Go O d K r m' (pc + 1) L (.ref (gsl i) :: st) m) : Go O d K r m' pc L (.int x :: .ref k :: st) m := by
  intro p l e s mi as bl me c H lo ls hC hP hS hL
  subst hx
  have hat := gCells_at O m hkn
  rw [gE_slots O m hk] at hat
  refine va_aldq hC.1 hC.2.1 hC.2.2.2.2.2.2.2.2.1 hP k 2 hat rfl (vp_in_nI hi (by omega)) hd ?_
  rw [nI_clamp (by omega)]
  exact kk p l e s mi as bl me c H lo ls hC hP hS hL
theorem go_alen {n k : Nat} {v : Int32} (hd : decode K.2.1 pc = .ok (.arraylength, 1)) (hk : gK k = (8, n)) (hkn : k < gNC) (hv : nI n = v) (kk : Go O d K r m' (pc + 1) L (.int v :: st) m) : Go O d K r m' pc L (.ref k :: st) m := by
  intro p l e s mi as bl me c H lo ls hC hP hS hL
  subst hv
  have hat := gCells_at O m hkn
  rw [gE_int O m hk] at hat
  exact va_alen hC.1 hC.2.1 hC.2.2.2.2.2.2.2.2.1 hP k 0 hat rfl rfl hd (kk p l e s mi as bl me c H lo ls hC hP hS hL)
/-- the constants' array of the outlook -/
theorem go_gets {ix : Nat} (hd : decode K.2.1 pc = .ok (.getstatic ix, 3)) (hF : Cond.fieldLink K.1.cls ix "ToldNineTimes$Outlook" "CHOICES" "[I" ∈ gT) (kk : Go O d K r m' (pc + 3) L (.ref 69 :: st) m) : Go O d K r m' pc L st m :=
  fun p l e s mi as bl me c H lo ls hC hP hS hL => va_gets hC.1 hC.2.1 hC.2.2.2.2.2.2.2.2.2.2.1 hS hC.2.2.2.2.2.1 (hC.2.2.2.2.2.2.1 _ hF) (fun _ h => h) hd (kk p l e s mi as bl me c H lo ls hC hP hS hL)
theorem go_cald {i : Nat} {x : Int32} (hd : decode K.2.1 pc = .ok (.iaload, 1)) (hx : x = nI i) (hi : i < 4) (kk : Go O d K r m' (pc + 1) L (.int (gch i) :: st) m) : Go O d K r m' pc L (.int x :: .ref 69 :: st) m := by
  intro p l e s mi as bl me c H lo ls hC hP hS hL
  subst hx
  refine va_ti hC.1 hC.2.1 hC.2.2.2.2.2.2.2.2.2.2.2 hS (vp_in_nI hi (by omega)) (v := .int (gch i)) ?_ hd (kk p l e s mi as bl me c H lo ls hC hP hS hL)
  rw [nI_clamp (by omega)]
theorem go_clen (hd : decode K.2.1 pc = .ok (.arraylength, 1)) (kk : Go O d K r m' (pc + 1) L (.int (nI 4) :: st) m) : Go O d K r m' pc L (.ref 69 :: st) m :=
  fun p l e s mi as bl me c H lo ls hC hP hS hL => va_tlen hC.1 hC.2.1 hC.2.2.2.2.2.2.2.2.2.2.2 hS rfl hd (kk p l e s mi as bl me c H lo ls hC hP hS hL)
end GoMem
