/-! CALLS: a callee's judgement at its entry is its contract -/
theorem gWd.blind {O : gOm} {U : State} {g : JFrame} {mk : MethodId} {a : Array Value} (h : gWd O U) : gWd O (U.calling g mk a) :=
  ⟨fun w hw => va_Nw.same (gN_tab hw) (rfl : U.vm = (U.calling g mk a).vm) (h.1 w hw), va_K.moved (u := U) (U := U.calling g mk a) (Vm.Alike.refl U.vm) h.2.1, h.2.2.1, va_Z.moved (u := U) (U := U.calling g mk a) (Vm.Alike.refl U.vm) h.2.2.2.1, va_T.moved (u := U) (U := U.calling g mk a) (Vm.Alike.refl U.vm) h.2.2.2.2⟩
theorem gWd.warm {O : gOm} {s U : State} {H : Heap} {locs : List Loc} (h : gWd O s) (hS : va_S (gA O) s.heap H locs) (hU : U.heap = H) (hW : s.WarmedH U.vm) : gWd O U := by
  have h4 := (va_Z.moved hW.alike h.2.2.2.1).kept (H1 := U.heap) (by rw [hU]; exact hS.2.1)
  have h5 := (va_T.moved hW.alike h.2.2.2.2).kept (H1 := U.heap) (by rw [hU]; exact hS.2.1)
  exact ⟨fun w hw => gN_warm hw hW (h.1 w hw), va_K.moved hW.alike h.2.1, h.2.2.1, h4, h5⟩
abbrev gWs (K : gM) : List Cond := Cond.code K.1 K.2.1 K.2.2.1 K.2.2.2 :: gT
abbrev gPc (O : gOm) (as : List Value) (m : gMem) : Array Value → State → Prop := va_Pc (as.map (gv O.1)) (fun U => gWd O U ∧ va_P O.2.1 vwCl (gCells O m) U.heap)
theorem gPc.blind (O : gOm) (as : List Value) (m : gMem) : FrameBlind (gPc O as m) := fun _ _ _ _ h => ⟨h.1, h.2.1.blind, h.2.2⟩
theorem go_met {O : gOm} {d : Nat} {K : gM} {as : List Value} {r : Option Value} {m m' : gMem} (l : Launch) (hy : plainName K.1.cls = true) (hen : (gsp as).length ≤ K.2.2.1) (h : Ca O d K as r m m') : Met l K.1 (gWs K) (gRm d) (gPc O as m) (gQ O r m') 0 0 (gA O) := by
  refine Met.ofW (cc := K.2.1) (maxL := K.2.2.1) (ret := K.2.2.2) hy rfl ?_
  intro p e s mi args below meth c s₁ B hml hv
  obtain ⟨rfl, hW, hP⟩ := hv
  have hts := atoms_spec (ws := gWs K) B.pre
  rw [lg_entry_eq]
  exact h p l e s mi _ below meth c s.heap [] _ ⟨B.exec, B.bytes, hml, B.returns, B.notSynchronized, findClass_of_methodNamed B.named, fun w hw => hts w (List.mem_cons_of_mem _ hw), hW⟩ hP va_S.rf (gLs.entry O as hen)
/-- what a call needs of the tables -/
def gLc (K : gM) (n : Nat) : Prop := Cond.initialized K.1.cls ∈ gT ∧ Cond.code K.1 K.2.1 K.2.2.1 K.2.2.2 ∈ gT ∧ plainName K.1.cls = true ∧ (K.1.cls ≠ "java/lang/invoke/MethodHandle" ∧ K.1.cls ≠ "java/lang/invoke/VarHandle" ∧ (parseMethodDescriptor K.1.desc).map (fun d => d.parameters.length) = some n) ∧ K.2.2.1 ≤ 45
def gLk (own : String) (ix : Nat) (y : MethodName) : Prop := Cond.methodLink own ix y ∈ gT ∨ ∃ host, Cond.methodLinkNest own ix y host ∈ gN
def gLv (K : gM) (n : Nat) : Prop := Cond.instanceMethod K.1 ∈ gT ∧ Cond.selects K.1.cls K.1 K.1 ∈ gT ∧ gLc K n
def gLt (K : gM) (n : Nat) : Prop := Cond.static K.1 ∈ gT ∧ gLc K n
theorem gWs_good {K : gM} {n : Nat} (h : gLc K n) : GoodIn gT (gWs K) := by
  intro w hw
  rcases List.mem_cons.mp hw with rfl | hw
  · exact ⟨h.2.1, gT_good h.2.1⟩
  · exact ⟨hw, gT_good hw⟩
theorem gRm_ok {K : gM} {n d : Nat} (h : gLc K n) : (gRm d).frames + 1 ≤ (gRm (d + 1)).frames ∧ 8 + (K.2.2.1 + 11) + (gRm d).locals ≤ (gRm (d + 1)).locals := by
  have := h.2.2.2.2
  simp only [gRm]
  omega
section GoCall
variable {p : Program} {l : Launch} {e : Env} {R : Room} {s : State} {mi : MethodId} {args : Array Value} {below : List Frame} {meth : Method} {c : Code} {H : Heap} {locs : List Loc} {cells slots : Nat} {Q : State → Prop}
theorem gv_run {O : gOm} {r1 : Option Value} {m1 : gMem} {pc : Nat} {ls : Array Slot} {rest st0 : List Value} {a : Array Value} (hr : va_Run p l e R s mi args below meth c H locs cells slots 0 0 (F0 mi pc ls st0) rest (gQ O r1 m1 a) (gA O)) (hS : va_S (gA O) s.heap H locs)
    (kk : ∀ (H1 : Heap) (locs1 : List Loc), va_P O.2.1 vwCl (gCells O m1) H1 → va_S (gA O) s.heap H1 locs1 → W p l e R s mi args below meth c H1 locs1 cells slots Q (F0 mi (pc + 3) ls ((r1.map (gv O.1)).toList ++ rest))) : W p l e R s mi args below meth c H locs cells slots Q (F0 mi pc ls st0) := by
  intro T hT X
  obtain ⟨v, st₀, t, T', L, h0, X', hL, e1, e2, ⟨⟨hv, hp⟩, hz, hk⟩, st⟩ := hr T hT X
  cases hv
  rw [h0] at hz hk
  obtain ⟨t2, a1, b1⟩ := kk T'.heap (locs ++ L) (by rw [e1]; exact hp)
    ⟨Nat.le_trans hS.1 (by rw [e1]; exact hz), fun q h1 h2 => by rw [e1, hk q (Nat.lt_of_lt_of_le h1 hS.1) h2]; exact hS.2.1 q h1 h2, fun q hq => by
      rcases List.mem_append.mp hq with h | h
      · exact hS.2.2 q h
      · exact hL q h⟩ T' rfl X'
  exact ⟨t2, st t2 a1, b1⟩
end GoCall
theorem gback {O : gOm} {r1 : Option Value} {st : List Value} : (r1.map (gv O.1)).toList ++ st.map (gv O.1) = (r1.toList ++ st).map (gv O.1) := by cases r1 <;> rfl
theorem gcats {O : gOm} (st : List Value) : ((st.map (gv O.1)).map fun v => v.category).sum = (st.map fun v => v.category).sum := by
  rw [List.map_map]
  congr 1
  exact List.map_congr_left (fun v _ => gcat O.1 v)
section GoCall2
variable {O : gOm} {d : Nat} {K : gM} {r : Option Value} {m m' : gMem} {pc : Nat} {L st : List Value}
theorem go_callV {ix ci nf k n : Nat} {K' : gM} {r1 : Option Value} {m1 : gMem} (as : List Value) {st0 : List Value} (hd : decode K.2.1 pc = .ok (.invokevirtual ix, 3)) (hlk : gLk K.1.cls ix K'.1) (hl : gLv K' n) (hk : gK k = (ci, nf)) (hci : ci < 8) (hcl : (vwCl.map (fun q => q.1))[ci]? = some K'.1.cls) (hkn : k < gNC) (hst : st0 = as.reverse ++ .ref k :: st) (hn : as.length = n) (hW : (st.map fun v => v.category).sum ≤ 8) (hen : (gsp (.ref k :: as)).length ≤ K'.2.2.1)
    (hc : Ca O d K' (.ref k :: as) r1 m m1) (kk : Go O (d + 1) K r m' (pc + 3) L (r1.toList ++ st) m1) : Go O (d + 1) K r m' pc L st0 m := by
  intro p l e s mi args below meth c H lo ls hC hP hS hL
  subst hst
  have hM := go_met l hl.2.2.2.2.1 hen hc
  obtain ⟨q, hq1, hq2⟩ : ∃ q, vwCl[ci]? = some q ∧ q.1 = K'.1.cls := by
    rw [List.getElem?_map] at hcl
    cases hq : vwCl[ci]? with
    | none => rw [hq] at hcl; cases hcl
    | some q => rw [hq] at hcl; exact ⟨q, rfl, Option.some.inj hcl⟩
  have hat := gCells_at O m hkn
  rw [gE_obj O m hk hci] at hat
  have hrec := va_recv hC.2.2.2.2.2.2.2.2.1 hP hq1 hat
  rw [hq2] at hrec
  have hpre : PreV s H K'.1.cls (O.1 k) (gPc O (.ref k :: as) m) (as.map (gv O.1)) := ⟨gPc.blind O _ m, hrec, fun U hU hWm => ⟨rfl, hC.2.2.2.2.2.2.2.warm hS hU hWm, by rw [hU]; exact hP⟩⟩
  have hstk : (as.reverse ++ .ref k :: st).map (gv O.1) = (as.map (gv O.1)).reverse ++ .ref (O.1 k) :: st.map (gv O.1) := by simp [gv, List.map_reverse]
  have hts := hC.2.2.2.2.2.2.1
  have hroom : ((st.map (gv O.1)).map fun v => v.category).sum ≤ 8 := by rw [gcats]; exact hW
  have hkk : ∀ (H1 : Heap) (locs1 : List Loc), va_P O.2.1 vwCl (gCells O m1) H1 → va_S (gA O) s.heap H1 locs1 → W p l e (gRm (d + 1)) s mi args below meth c H1 locs1 0 0 (MQ below (gQ O r m') args s 0 0 (gA O)) (F0 mi (pc + 3) ls ((r1.map (gv O.1)).toList ++ st.map (gv O.1))) := fun H1 l1 h1 h2 => by
    rw [gback]
    exact kk p l e s mi args below meth c H1 l1 ls hC h1 h2 hL
  rw [hstk]
  rcases hlk with h | ⟨host, h⟩
  · exact gv_run (va_runV (C := K'.1.cls) (ws := gWs K') (n := n) (As := as.map (gv O.1)) (rest := st.map (gv O.1)) ⟨hC.1, hC.2.1, hC.2.2.1, hC.2.2.2.2.2.1, hts⟩ hM ⟨callB_of n hts (gWs_good hl.2.2) rfl rfl rfl (hts _ hl.2.2.1) (hts _ h) hl.2.2.2.2.2.1 (gRm_ok hl.2.2), hts _ hl.1, hts _ hl.2.1⟩ hpre rfl (by simpa using hn) hL.2.1 rfl (lv_room hroom) hd ⟨Nat.le_refl _, Nat.le_refl _⟩) hS hkk
  · exact gv_run (va_runVN (C := K'.1.cls) (ws := gWs K') (n := n) (As := as.map (gv O.1)) (rest := st.map (gv O.1)) ⟨hC.1, hC.2.1, hC.2.2.1, hC.2.2.2.2.2.1, hts⟩ hM ⟨va_cnB n hts (gWs_good hl.2.2) rfl rfl rfl (hC.2.2.2.2.2.2.2.1 _ h) (hts _ hl.2.2.1) hl.2.2.2.2.2.1 (gRm_ok hl.2.2), hts _ hl.1, hts _ hl.2.1⟩ hpre rfl (by simpa using hn) hL.2.1 rfl (lv_room hroom) hd ⟨Nat.le_refl _, Nat.le_refl _⟩) hS hkk
theorem go_callS {ix n : Nat} {K' : gM} {r1 : Option Value} {m1 : gMem} (as : List Value) {st0 : List Value} (hd : decode K.2.1 pc = .ok (.invokestatic ix, 3)) (hlk : gLk K.1.cls ix K'.1) (hl : gLt K' n) (hst : st0 = as.reverse ++ st) (hn : as.length = n) (hW : (st.map fun v => v.category).sum ≤ 8) (hen : (gsp as).length ≤ K'.2.2.1)
    (hc : Ca O d K' as r1 m m1) (kk : Go O (d + 1) K r m' (pc + 3) L (r1.toList ++ st) m1) : Go O (d + 1) K r m' pc L st0 m := by
  intro p l e s mi args below meth c H lo ls hC hP hS hL
  subst hst
  have hM := go_met l hl.2.2.2.1 hen hc
  have hpre : PreS s H (gPc O as m) (as.map (gv O.1)) := ⟨gPc.blind O _ m, fun U hU hWm => ⟨rfl, hC.2.2.2.2.2.2.2.warm hS hU hWm, by rw [hU]; exact hP⟩⟩
  have hstk : (as.reverse ++ st).map (gv O.1) = (as.map (gv O.1)).reverse ++ st.map (gv O.1) := by simp [List.map_reverse]
  have hts := hC.2.2.2.2.2.2.1
  have hroom : ((st.map (gv O.1)).map fun v => v.category).sum ≤ 8 := by rw [gcats]; exact hW
  have hkk : ∀ (H1 : Heap) (locs1 : List Loc), va_P O.2.1 vwCl (gCells O m1) H1 → va_S (gA O) s.heap H1 locs1 → W p l e (gRm (d + 1)) s mi args below meth c H1 locs1 0 0 (MQ below (gQ O r m') args s 0 0 (gA O)) (F0 mi (pc + 3) ls ((r1.map (gv O.1)).toList ++ st.map (gv O.1))) := fun H1 l1 h1 h2 => by
    rw [gback]
    exact kk p l e s mi args below meth c H1 l1 ls hC h1 h2 hL
  rw [hstk]
  rcases hlk with h | ⟨host, h⟩
  · exact gv_run (va_runS (ws := gWs K') (n := n) (As := as.map (gv O.1)) (rest := st.map (gv O.1)) ⟨hC.1, hC.2.1, hC.2.2.1, hC.2.2.2.2.2.1, hts⟩ hM ⟨callB_of n hts (gWs_good hl.2) rfl rfl rfl (hts _ hl.2.1) (hts _ h) hl.2.2.2.2.1 (gRm_ok hl.2), hts _ hl.1⟩ hpre rfl (by simpa using hn) hL.2.1 rfl (lv_room hroom) hd ⟨Nat.le_refl _, Nat.le_refl _⟩) hS hkk
  · exact gv_run (va_runSN (ws := gWs K') (n := n) (As := as.map (gv O.1)) (rest := st.map (gv O.1)) ⟨hC.1, hC.2.1, hC.2.2.1, hC.2.2.2.2.2.1, hts⟩ hM ⟨va_cnB n hts (gWs_good hl.2) rfl rfl rfl (hC.2.2.2.2.2.2.2.1 _ h) (hts _ hl.2.1) hl.2.2.2.2.1 (gRm_ok hl.2), hts _ hl.1, trivial⟩ hpre rfl (by simpa using hn) hL.2.1 rfl (lv_room hroom) hd ⟨Nat.le_refl _, Nat.le_refl _⟩) hS hkk
/-- System.arraycopy between int arrays -/
theorem go_copy {ix n0 n1 k0 k1 sp dp n : Nat} {xs xd xn : Int32} (hd : decode K.2.1 pc = .ok (.invokestatic ix, 3)) (hlk : Cond.methodLink K.1.cls ix arraycopyName ∈ gT) (hnat : Cond.native arraycopyName ∈ gT) (hstt : Cond.static arraycopyName ∈ gT) (hini : Cond.initialized "java/lang/System" ∈ gT) (hk0 : gK k0 = (8, n0)) (hk1 : gK k1 = (8, n1)) (hkn0 : k0 < gNC) (hkn1 : k1 < gNC) (hs : xs = nI sp) (hdp : xd = nI dp) (hn : xn = nI n) (h1 : sp + n ≤ n0) (h2 : dp + n ≤ n1) (hn0 : n0 < 1000) (hn1 : n1 < 1000) (hW : (st.map fun v => v.category).sum ≤ 8)
    (kk : Go O (d + 1) K r m' (pc + 3) L st (gupA m k1 (va_cpy (m.1 k0) (m.1 k1) sp dp n))) : Go O (d + 1) K r m' pc L (.int xn :: .int xd :: .ref k1 :: .int xs :: .ref k0 :: st) m := by
  intro p l e s mi args below meth c H lo ls hC hP hS hL
  subst hs; subst hdp; subst hn
  have hts := hC.2.2.2.2.2.2.1
  have hD := gD O m (gPinj hC.2.2.2.2.2.2.2)
  have hat0 := gCells_at O m hkn0
  rw [gE_int O m hk0] at hat0
  have hat1 := gCells_at O m hkn1
  rw [gE_int O m hk1] at hat1
  have hroom : ((st.map (gv O.1)).map fun v => v.category).sum ≤ 8 := by rw [gcats]; exact hW
  have c0 : (nI sp).toNatClampNeg = sp := nI_clamp (by omega)
  have c1 : (nI dp).toNatClampNeg = dp := nI_clamp (by omega)
  have c2 : (nI n).toNatClampNeg = n := nI_clamp (by omega)
  refine va_copyi hC.1 hC.2.1 (hC.2.2.1.trans hL.2.1.symm) hC.2.2.2.2.2.1 (hts _ hlk) (hts _ hnat) (hts _ hstt) (hts _ hini) hC.2.2.2.2.2.2.2.2.1 hP hD hS k0 k1 0 0 hat0 hat1 rfl rfl rfl (nI_pos (by omega)) (nI_pos (by omega)) (nI_pos (by omega)) (by rw [c0, c2]; exact h1) (by rw [c1, c2]; exact h2) (fun _ _ => rfl) (by simp only [gRm]; omega) ?_ hd (fun H1 l1 a1 _ a3 => ?_)
  · have : nativeFrameWords "java/lang/System" "arraycopy" 5 + 11 ≤ 64 := by decide +kernel
    simp only [gRm]
    omega
  · rw [c0, c1, c2] at a1
    have e1 : (gupA m k1 (va_cpy (m.1 k0) (m.1 k1) sp dp n)).1 k1 = va_cpy (m.1 k0) (m.1 k1) sp dp n := by simp [gupA]
    rw [← e1, ← gE_int O (gupA m k1 _) hk1, gupA_cells] at a1
    exact kk p l e s mi args below meth c H1 l1 ls hC a1 a3 hL
end GoCall2
