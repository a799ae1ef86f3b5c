/-! A CONSTRUCTOR CALLED: its own cells are cut out, the others stay -/
theorem mWd.blind {O : mOm} {U : State} {g : JFrame} {mk : MethodId} {a : Array Value} (h : mWd O U) : mWd O (U.calling g mk a) :=
  ⟨fun w hw => va_Nw.same (gN_tab hw) (rfl : U.vm = (U.calling g mk a).vm) (h.1 w hw), va_K.moved (u := U) (U := U.calling g mk a) (Vm.Alike.refl U.vm) h.2.1, va_AO.moved (u := U) (U := U.calling g mk a) (Vm.Alike.refl U.vm) h.2.2⟩
theorem mWd.warm {O : mOm} {s U : State} (h : mWd O s) (hW : s.WarmedH U.vm) : mWd O U :=
  ⟨fun w hw => gN_warm hw hW (h.1 w hw), va_K.moved hW.alike h.2.1, va_AO.moved hW.alike h.2.2⟩
abbrev mPc (O : mOm) (as : List Value) (sz : Nat) (wc : va_W) : Array Value → State → Prop := va_Pc as (fun U => U.heap.size = sz ∧ mWd O U ∧ va_P O.1 vwCl wc U.heap ∧ va_D (fun _ => True) wc)
theorem mPc.blind (O : mOm) (as : List Value) (sz : Nat) (wc : va_W) : FrameBlind (mPc O as sz wc) := fun _ _ _ _ h => ⟨h.1, h.2.1, h.2.2.1.blind, h.2.2.2⟩
theorem gm_met {O : mOm} {d mc ms sz : Nat} {K : gM} {as : List Value} {wc : va_W} {Wf : List Nat → va_W} (l : Launch) (hy : plainName K.1.cls = true) (hen : (gsp as).length ≤ K.2.2.1) (h : Cm O d mc ms K as wc Wf) : Met l K.1 (gWs K) (mRm d mc ms) (mPc O as sz wc) (mQ O (va_A wc sz) Wf) mc ms (va_A wc sz) := by
  refine Met.ofW (cc := K.2.1) (maxL := K.2.2.1) (ret := K.2.2.2) hy rfl ?_
  intro p e s mi args below meth c s₁ B hml hv
  obtain ⟨rfl, hsz, hW, hP, hD0⟩ := hv
  subst hsz
  have hts := atoms_spec (ws := gWs K) B.pre
  have hD := hD0.self (sz := s.heap.size)
  have hle := gLs.entry mId as hen
  rw [show as.map (gv mId.1) = as from (List.map_congr_left (fun v _ => mgv v)).trans (List.map_id _)] at hle
  rw [lg_entry_eq]
  exact h p l e s mi _ below meth c s.heap [] _ (va_A wc s.heap.size) ⟨B.exec, B.bytes, hml, B.returns, B.notSynchronized, findClass_of_methodNamed B.named, fun w hw => hts w (List.mem_cons_of_mem _ hw), hW, (name_of_methodNamed B.named B.method).1⟩ hP hD (fun q h => Or.inr h) va_S.rf hle
section MvRun
variable {p : Program} {l : Launch} {e : Env} {R : Room} {s : State} {mi : MethodId} {args : Array Value} {below : List Frame} {meth : Method} {c : Code} {H : Heap} {locs : List Loc} {cells slots : Nat} {Q : State → Prop}
theorem mv_run {O : mOm} {A0 A1 : Nat → Prop} {Wf : List Nat → va_W} {mc ms pc : Nat} {ls : Array Slot} {rest st0 : List Value} {a : Array Value} (hr : va_Run p l e R s mi args below meth c H locs cells slots mc ms (F0 mi pc ls st0) rest (mQ O A1 Wf a) A1) (hS : va_S A0 s.heap H locs) (hA : ∀ q, A1 q → A0 q)
    (kk : ∀ (u : List Nat) (H1 : Heap) (locs1 : List Loc), va_P O.1 vwCl (Wf u) H1 → va_D A1 (Wf u) → (∀ q : Nat, q < H.size → ¬ A1 q → H1[q]? = H[q]?) → va_S A0 s.heap H1 locs1 → W p l e R s mi args below meth c H1 locs1 (cells + mc) (slots + ms) Q (F0 mi (pc + 3) ls rest)) : W p l e R s mi args below meth c H locs cells slots Q (F0 mi pc ls st0) := by
  intro T hT X
  obtain ⟨v, st₀, t, T', L, h0, X', hL, e1, e2, ⟨⟨hv, u, hp, hd⟩, hz, hk⟩, st⟩ := hr T hT X
  cases hv
  rw [h0] at hz hk
  obtain ⟨t2, a1, b1⟩ := kk u T'.heap (locs ++ L) (by rw [e1]; exact hp) hd (fun q h1 h2 => by rw [e1]; exact hk q h1 h2)
    ⟨Nat.le_trans hS.1 (by rw [e1]; exact hz), fun q h1 h2 => by rw [e1, hk q (Nat.lt_of_lt_of_le h1 hS.1) (fun z => h2 (hA q z))]; exact hS.2.1 q h1 h2, fun q hq => by
      rcases List.mem_append.mp hq with h | h
      · exact hS.2.2 q h
      · exact hA _ (hL q h)⟩ T' rfl X'
  exact ⟨t2, st t2 a1, b1⟩
end MvRun
def gLi (K : gM) (n : Nat) : Prop := Cond.instanceMethod K.1 ∈ gT ∧ gLc K n ∧ K.1.name = "<init>" ∧ K.2.2.2 = none
theorem mRm_ok {K : gM} {n d mc ms mc' ms' : Nat} (h : gLc K n) : (mRm d mc' ms').frames + 1 ≤ (mRm (d + 1) mc ms).frames ∧ 8 + (K.2.2.1 + 11) + (mRm d mc' ms').locals ≤ (mRm (d + 1) mc ms).locals := by
  have := h.2.2.2.2
  simp only [mRm]
  omega
section GmCall
variable {O : mOm} {d mc ms : Nat} {K : gM} {Wf : List Nat → va_W} {ws ws1 : va_W} {pc : Nat} {L st : List Value} {ce sl : Nat}
theorem gm_aast {n v q0 qk a i : Nat} {x : Int32} {vs : List Value} {f : Nat → Option Nat} (hd : decode K.2.1 pc = .ok (.aastore, 1)) (ha : ws[q0]? = some (a, .inl (O.2.2.2, n, .inr (.inr (.inr (.inr f)))))) (hv : ws[qk]? = some (v, .inr (5, vs))) (hx : x = nI i) (hi : i < n) (hn : n < 1000) (hc : ws.set q0 (a, .inl (O.2.2.2, n, .inr (.inr (.inr (.inr (va_up f i (some v))))))) = ws1) (kk : Gm O d mc ms K Wf (pc + 1) L st ws1 ce sl) : Gm O d mc ms K Wf pc L (.ref v :: .int x :: .ref a :: st) ws ce sl := by
  intro p l e s mi as bl me c H lo ls A hC hP hD hA hS hL
  subst hc; subst hx
  have hw := hC.2.2.2.2.2.2.2.1
  refine va_astq (r := (RX5, TX5, 6)) hC.1 hC.2.1 hw.2.1 hP hD hS q0 2 qk 5 ha rfl hv rfl (vp_in_nI hi (by omega)) hd (fun H1 l1 a1 a2 a3 => ?_)
  rw [nI_clamp (by omega)] at a1 a2
  exact kk p l e s mi as bl me c H1 l1 ls A hC a1 a2 hA a3 hL
theorem gm_ctor {ix n h mc' ms' : Nat} {K' : gM} {Wf' : List Nat → va_W} (as : List Value) (isC isR : List Nat) {wc wr : va_W} {st0 : List Value} (hd : decode K.2.1 pc = .ok (.invokespecial ix, 3)) (hlk : gLk K.1.cls ix K'.1) (hl : gLi K' n) (hCs : isC.map (fun i => ws[i]?) = wc.map some) (hRs : isR.map (fun i => ws[i]?) = wr.map some) (hnC : va_nd isC = true) (hnR : va_nd isR = true) (hdis : ∀ i ∈ isR, i ∉ isC) (hst : st0 = as.reverse ++ .ref h :: st) (hn : as.length = n) (hW : (st.map fun v => v.category).sum ≤ 8) (hen : (gsp (.ref h :: as)).length ≤ K'.2.2.1) (hce : ce + mc' ≤ mc) (hsl : sl + ms' ≤ ms)
    (hc : Cm O d mc' ms' K' (.ref h :: as) wc Wf') (kk : ∀ u : List Nat, Gm O (d + 1) mc ms K Wf (pc + 3) L st (wr ++ Wf' u) (ce + mc') (sl + ms')) : Gm O (d + 1) mc ms K Wf pc L st0 ws ce sl := by
  intro p l e s mi args below meth c H lo ls A hC hP hD hA hS hL
  subst hst
  have hts := hC.2.2.2.2.2.2.1
  have hw := hC.2.2.2.2.2.2.2.1
  have hM := gm_met (sz := H.size) l hl.2.1.2.2.1 hen hc
  have hP' : va_P O.1 vwCl wc H := by
    intro k q hk
    have h1 : (isC.map (fun i => ws[i]?))[k]? = some (some q) := by rw [hCs, List.getElem?_map, hk]; rfl
    rw [List.getElem?_map] at h1
    cases hi : isC[k]? with
    | none => rw [hi] at h1; cases h1
    | some i => rw [hi] at h1; exact hP i q (Option.some.inj h1)
  have hD' : va_D A wc := hD.sub isC hnC hCs
  have hF := va_free (wc := wc) hD hS hA isC hCs
  have hpre : PreS s H (mPc O (.ref h :: as) H.size wc) (.ref h :: as) := ⟨mPc.blind O _ _ _, fun U hU hWm => ⟨rfl, by rw [hU], hw.warm hWm, by rw [hU]; exact hP', hD'.weaken (fun _ _ _ _ => trivial)⟩⟩
  have hlc : gLc (K'.1, K'.2.1, K'.2.2.1, none) n := by
    have := hl.2.1
    rw [← hl.2.2.2]
    exact this
  have hwsE : gWs K' = Cond.code K'.1 K'.2.1 K'.2.2.1 none :: gT := by
    show Cond.code K'.1 K'.2.1 K'.2.2.1 K'.2.2.2 :: gT = _
    rw [hl.2.2.2]
  have hkk : ∀ (u : List Nat) (H1 : Heap) (locs1 : List Loc), va_P O.1 vwCl (Wf' u) H1 → va_D (va_A wc H.size) (Wf' u) → (∀ q : Nat, q < H.size → ¬ va_A wc H.size q → H1[q]? = H[q]?) → va_S A s.heap H1 locs1 → W p l e (mRm (d + 1) mc ms) s mi args below meth c H1 locs1 (ce + mc') (sl + ms') (MQ below (mQ O A Wf) args s mc ms A) (F0 mi (pc + 3) ls st) := fun u H1 l1 b1 b2 b3 b4 => by
    obtain ⟨j1, j2⟩ := va_join (wr := wr) (w1 := Wf' u) hP hD isC isR hCs hRs hnR hdis b3 hF b1 b2
    exact kk u p l e s mi args below meth c H1 l1 ls A hC j1 j2 hA b4 hL
  rcases hlk with h | ⟨host, h⟩
  · exact mv_run (va_runI (ws := gWs K') (n := n) (As := as) (rest := st) ⟨hC.1, hC.2.1, hC.2.2.1, hC.2.2.2.2.2.1, hts⟩ hM ⟨callB_of n hts (gWs_good hl.2.1) hwsE rfl rfl (hts _ hl.2.1.1) (hts _ h) hl.2.1.2.2.2.1 (mRm_ok hl.2.1), hl.2.2.1, hts _ hl.1⟩ hpre rfl hn hL.2.1 rfl (lv_room hW) hd ⟨hce, hsl⟩) hS hF hkk
  · exact mv_run (va_runIN (ws := gWs K') (n := n) (As := as) (rest := st) ⟨hC.1, hC.2.1, hC.2.2.1, hC.2.2.2.2.2.1, hts⟩ hM ⟨va_cnB n hts (gWs_good hl.2.1) hwsE rfl rfl (hw.1 _ h) (hts _ hl.2.1.1) hl.2.1.2.2.2.1 (mRm_ok hl.2.1), hl.2.2.1, hts _ hl.1⟩ hpre rfl hn hL.2.1 rfl (lv_room hW) hd ⟨hce, hsl⟩) hS hF hkk
end GmCall
