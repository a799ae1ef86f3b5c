/-! WHAT IS MADE: constructors, walked over the cells that they reach; addresses are variables -/
/-- classes and array classes -/
abbrev mOm : Type := ((Nat → ClassId) × (Nat → Nat → Nat)) × ClassId × ClassId × ClassId
abbrev mTys (O : mOm) : List (ClassId × FieldType) := [(O.2.1, .int), (O.2.2.1, .boolean), (O.2.2.2, .object RX5)]
def mWd (O : mOm) (s : State) : Prop := (∀ w ∈ gN, va_Nw w s) ∧ va_K O.1 vwCl (mTys O) s ∧ va_AO RX5 s
def mCx (O : mOm) (K : gM) (p : Program) (s : State) (mi : MethodId) (args : Array Value) (meth : Method) (c : Code) : Prop :=
  p.tables.exec = Jvm.exec ∧ c.code = K.2.1 ∧ c.maxLocals = K.2.2.1 ∧ meth.sig.returnType = K.2.2.2 ∧ meth.locks = false ∧ s.vm.findClass K.1.cls = some mi.cls ∧ (∀ w ∈ gT, w.before args s = true) ∧ mWd O s ∧ meth.name = K.1.name
def mQ (O : mOm) (A : Nat → Prop) (Wf : List Nat → va_W) : Array Value → State → Outcome → State → Prop := fun _ st oc t => (oc = .returned none ∧ ∃ u, va_P O.1 vwCl (Wf u) t.heap ∧ va_D A (Wf u)) ∧ va_F A st t
def mRm (d mc ms : Nat) : Room := { frames := d, cells := mc, slots := ms, locals := 64 * d + 64 }
/-- addresses as they are: locals by gLs with the identity -/
abbrev mId : gOm := (fun i => i, ((fun _ => 0), (fun _ _ => 0)), 0, 0, 0)
theorem mgv (v : Value) : gv (fun i => i) v = v := by cases v <;> rfl
def Gm (O : mOm) (d mc ms : Nat) (K : gM) (Wf : List Nat → va_W) (pc : Nat) (L st : List Value) (ws : va_W) (ce sl : Nat) : Prop :=
  ∀ (p : Program) (l : Launch) (e : Env) (s : State) (mi : MethodId) (args : Array Value) (below : List Frame) (meth : Method) (c : Code) (H : Heap) (locs : List Loc) (ls : Array Slot) (A : Nat → Prop),
    mCx O K p s mi args meth c → va_P O.1 vwCl ws H → va_D A ws → (∀ q, s.heap.size ≤ q → A q) → va_S A s.heap H locs → gLs mId L K.2.2.1 ls →
    W p l e (mRm d mc ms) s mi args below meth c H locs ce sl (MQ below (mQ O A Wf) args s mc ms A) (F0 mi pc ls st)
def Cm (O : mOm) (d mc ms : Nat) (K : gM) (as : List Value) (ws : va_W) (Wf : List Nat → va_W) : Prop := Gm O d mc ms K Wf 0 (gent as K.2.2.1) [] ws 0 0
theorem mLs_at {L : List Value} {nL i : Nat} {ls : Array Slot} {v : Value} (h : gLs mId L nL ls) (hl : L[i]? = some v) (hv : v ≠ .null) : ls[i]? = some (.val v) := by
  have := h.2.2.2 i v hl hv
  rwa [show gv mId.1 v = v from mgv v] at this
section GmRows
variable {O : mOm} {d mc ms : Nat} {K : gM} {Wf : List Nat → va_W} {ws ws1 : va_W} {pc : Nat} {L st : List Value} {ce sl : Nat}
theorem gm_aload_n {i : Fin 4} {x : Nat} (hd : decode K.2.1 pc = .ok (.aload_n i, 1)) (hl : L[(i : Nat)]? = some (.ref x)) (k : Gm O d mc ms K Wf (pc + 1) L (.ref x :: st) ws ce sl) : Gm O d mc ms K Wf pc L (st) ws ce sl := fun p l e s mi as bl me c H lo ls A hC hP hD hA hS hL => lv_aload_n hC.1 hC.2.1 hd rfl (mLs_at hL hl (fun h => by cases h)) (k p l e s mi as bl me c H lo ls A hC hP hD hA hS hL)
theorem gm_iload_n {i : Fin 4} {x : Int32} (hd : decode K.2.1 pc = .ok (.iload_n i, 1)) (hl : L[(i : Nat)]? = some (.int x)) (k : Gm O d mc ms K Wf (pc + 1) L (.int x :: st) ws ce sl) : Gm O d mc ms K Wf pc L (st) ws ce sl := fun p l e s mi as bl me c H lo ls A hC hP hD hA hS hL => lv_iload_n hC.1 hC.2.1 hd rfl (mLs_at hL hl (fun h => by cases h)) (k p l e s mi as bl me c H lo ls A hC hP hD hA hS hL)
theorem gm_iconst {n : Int} (v : Int32) (hd : decode K.2.1 pc = .ok (.iconst n, 1)) (hv : Int32.ofInt n = v) (k : Gm O d mc ms K Wf (pc + 1) L (.int v :: st) ws ce sl) : Gm O d mc ms K Wf pc L (st) ws ce sl := fun p l e s mi as bl me c H lo ls A hC hP hD hA hS hL => lv_iconst hC.1 hC.2.1 hd hv (k p l e s mi as bl me c H lo ls A hC hP hD hA hS hL)
theorem gm_bipush {n : Int} (v : Int32) (hd : decode K.2.1 pc = .ok (.bipush n, 2)) (hv : (Int8.ofInt n).toInt32 = v) (k : Gm O d mc ms K Wf (pc + 2) L (.int v :: st) ws ce sl) : Gm O d mc ms K Wf pc L (st) ws ce sl := fun p l e s mi as bl me c H lo ls A hC hP hD hA hS hL => lv_bipush hC.1 hC.2.1 hd hv (k p l e s mi as bl me c H lo ls A hC hP hD hA hS hL)
theorem gm_sipush {n : Int} (v : Int32) (hd : decode K.2.1 pc = .ok (.sipush n, 3)) (hv : (Int16.ofInt n).toInt32 = v) (k : Gm O d mc ms K Wf (pc + 3) L (.int v :: st) ws ce sl) : Gm O d mc ms K Wf pc L (st) ws ce sl := fun p l e s mi as bl me c H lo ls A hC hP hD hA hS hL => lv_sipush hC.1 hC.2.1 hd hv (k p l e s mi as bl me c H lo ls A hC hP hD hA hS hL)
theorem gm_dup {v : Value} (hd : decode K.2.1 pc = .ok (.dup, 1)) (hc : v.category = 1) (k : Gm O d mc ms K Wf (pc + 1) L (v :: v :: st) ws ce sl) : Gm O d mc ms K Wf pc L (v :: st) ws ce sl := fun p l e s mi as bl me c H lo ls A hC hP hD hA hS hL => lv_dup hC.1 hC.2.1 hd hc (k p l e s mi as bl me c H lo ls A hC hP hD hA hS hL)
theorem gm_istore_n {i : Fin 4} {x : Int32} {L' : List Value} (hd : decode K.2.1 pc = .ok (.istore_n i, 1)) (hi : (i : Nat) < K.2.2.1) (hl : gst L i (.int x) = L') (k : Gm O d mc ms K Wf (pc + 1) L' st ws ce sl) : Gm O d mc ms K Wf pc L (.int x :: st) ws ce sl := fun p l e s mi as bl me c H lo ls A hC hP hD hA hS hL => lv_istore_n hC.1 hC.2.1 hd rfl hL.has hi rfl (fun ls' h' => k p l e s mi as bl me c H lo ls' A hC hP hD hA hS (hl ▸ hL.store1 (v := .int x) hi h'))
theorem gm_iinc {i : Nat} {n : Int} {x v : Int32} {L' : List Value} (hd : decode K.2.1 pc = .ok (.iinc i n, 3)) (hx : L[i]? = some (.int x)) (hi : i < K.2.2.1) (hv : x + Int32.ofInt n = v) (hl : gst L i (.int v) = L') (k : Gm O d mc ms K Wf (pc + 3) L' st ws ce sl) : Gm O d mc ms K Wf pc L st ws ce sl := by
  intro p l e s mi as bl me c H lo ls A hC hP hD hA hS hL
  obtain ⟨j, hj⟩ := List.getElem?_of_mem (gLl_mem (O := mId).mpr ⟨.int x, hx, (fun h => by cases h), rfl⟩)
  exact lv_iinc (k := j) hC.1 hC.2.1 hd hL.has hj hv hi rfl (fun ls' h' => k p l e s mi as bl me c H lo ls' A hC hP hD hA hS (hl ▸ hL.store1 (v := .int v) hi h'))
theorem gm_icmp_ge {x y : Int32} {off : Int} (tgt : Nat) (hd : decode K.2.1 pc = .ok (.if_icmp .ge off, 3)) (ht : (pc : Int) + off = (tgt : Int)) (kt : y ≤ x → Gm O d mc ms K Wf tgt L st ws ce sl) (kf : ¬ y ≤ x → Gm O d mc ms K Wf (pc + 3) L st ws ce sl) : Gm O d mc ms K Wf pc L (.int y :: .int x :: st) ws ce sl := fun p l e s mi as bl me c H lo ls A hC hP hD hA hS hL => lv_icmp_ge hC.1 hC.2.1 hd ht (fun h => kt h p l e s mi as bl me c H lo ls A hC hP hD hA hS hL) (fun h => kf h p l e s mi as bl me c H lo ls A hC hP hD hA hS hL)
theorem gm_goto {off : Int} (tgt : Nat) (hd : decode K.2.1 pc = .ok (.goto off, 3)) (ht : (pc : Int) + off = (tgt : Int)) (k : Gm O d mc ms K Wf tgt L st ws ce sl) : Gm O d mc ms K Wf pc L st ws ce sl := fun p l e s mi as bl me c H lo ls A hC hP hD hA hS hL => lv_goto hC.1 hC.2.1 hd ht (k p l e s mi as bl me c H lo ls A hC hP hD hA hS hL)
theorem gm_vret (u : List Nat) (hd : decode K.2.1 pc = .ok (.return_, 1)) (ht : K.2.2.2 = none) (hc : Wf u = ws) (hce : ce = mc) (hsl : sl = ms) : Gm O d mc ms K Wf pc L [] ws ce sl := by
  subst hc; subst hce; subst hsl
  exact fun p l e s mi as bl me c H lo ls A hC hP hD hA hS hL => W.vret hC.1 hC.2.1 (hC.2.2.2.1.trans ht) (fun t h _ => ⟨⟨rfl, u, by rw [h]; exact hP, hD⟩, hS.F h⟩) hS.2.2 hd hC.2.2.2.2.1
theorem gm_objInit {ix k : Nat} (hd : decode K.2.1 pc = .ok (.invokespecial ix, 3)) (h1 : Cond.methodLink K.1.cls ix objectInit ∈ gT) (h2 : Cond.instanceMethod objectInit ∈ gT) (h3 : Cond.code objectInit ⟨#[0xb1]⟩ 1 none ∈ gT) (hr : (st.map fun v => v.category).sum ≤ 8) (hd1 : 1 ≤ d) (kk : Gm O d mc ms K Wf (pc + 3) L st ws ce sl) : Gm O d mc ms K Wf pc L (.ref k :: st) ws ce sl := by
  intro p l e s mi as bl me c H lo ls A hC hP hD hA hS hL
  have hts := hC.2.2.2.2.2.2.1
  refine W.objInit hC.1 hC.2.1 hC.2.2.2.2.2.1 (hts _ h1) (hts _ h2) (hts _ h3) rfl (hL.2.1.trans hC.2.2.1.symm) rfl hd hd1 ?_ (kk p l e s mi as bl me c H lo ls A hC hP hD hA hS hL)
  have := lv_room (m := mi) (pc := pc) (ls := ls) (rest := .ref k :: st) hr
  show _ ≤ 64 * d + 64
  omega
theorem gm_get {ix ci a q0 j : Nat} {fs : List Value} {v : Value} (hd : decode K.2.1 pc = .ok (.getfield ix, 3)) (hF : gFl K.1.cls ix ci j) (he : ws[q0]? = some (a, .inr (ci, fs))) (hj : fs[j]? = some v) (hN : ∀ C T N, vwCl[ci]? = some (C, T, N) → j < N) (kk : Gm O d mc ms K Wf (pc + 3) L (v :: st) ws ce sl) : Gm O d mc ms K Wf pc L (.ref a :: st) ws ce sl := by
  intro p l e s mi as bl me c H lo ls A hC hP hD hA hS hL
  obtain ⟨C, T, N, hcl, hlk⟩ := hF
  have hts := hC.2.2.2.2.2.2.1
  have hw := hC.2.2.2.2.2.2.2.1
  rcases hlk with h | ⟨host, h⟩
  · exact va_get hC.1 hC.2.1 hts (gInG hcl) hC.2.2.2.2.2.1 hw.2.1 hP q0 he hcl j (hN C T N hcl) (hts _ h) (fun _ h => h) hj hd (kk p l e s mi as bl me c H lo ls A hC hP hD hA hS hL)
  · exact va_getN hC.1 hC.2.1 hts (gInG hcl) hC.2.2.2.2.2.1 hw.2.1 hP q0 he hcl j (hN C T N hcl) (va_Nw.use (gN_tab h) (hw.1 _ h)) (fun _ h => h) hj hd (kk p l e s mi as bl me c H lo ls A hC hP hD hA hS hL)
/-- a field's entry in the class's own file -/
def gFo (own : String) (ix ci j : Nat) : Prop := ∃ (C : String) (T : u_T) (N : Nat), vwCl[ci]? = some (C, T, N) ∧ j < N ∧ Cond.fieldLink own ix (T j).1 (T j).2.1 (T j).2.2.1 ∈ gT ∧ ((T j).2.2.2 = true → (T j).1 = own)
theorem gm_put {ix ci a q0 j t : Nat} {fs : List Value} (hd : decode K.2.1 pc = .ok (.putfield ix, 3)) (hF : gFo K.1.cls ix ci j) (he : ws[q0]? = some (a, .inr (ci, fs))) (hj : j < fs.length) (hin : K.1.name = "<init>") (hty : (∃ C, gTyOf ci j = .object C) ∨ ∃ t, gTyOf ci j = .array t) (hc : ws.set q0 (a, .inr (ci, fs.set j (.ref t))) = ws1) (kk : Gm O d mc ms K Wf (pc + 3) L st ws1 ce sl) : Gm O d mc ms K Wf pc L (.ref t :: .ref a :: st) ws ce sl := by
  intro p l e s mi as bl me c H lo ls A hC hP hD hA hS hL
  subst hc
  obtain ⟨C, T, N, hcl, hjN, h, hown⟩ := hF
  have hts := hC.2.2.2.2.2.2.1
  have hw := hC.2.2.2.2.2.2.2.1
  have hn1 : narrow (gTyOf ci j) (.ref t) = .ref t := by
    rcases hty with ⟨C', h⟩ | ⟨t', h⟩ <;> (rw [h]; rfl)
  have hf1 : fits (gTyOf ci j) (.ref t) = true := by
    rcases hty with ⟨C', h⟩ | ⟨t', h⟩ <;> (rw [h]; rfl)
  cases hfin : (T j).2.2.2 with
  | true => exact va_putF hC.1 hC.2.1 hts (gInG hcl) (gTyOf ci) (gTyOk hcl) (gNm hcl) hC.2.2.2.2.2.1 hw.2.1 hP hD hS q0 he hcl j hjN (hts _ h) (fun _ h => h) hfin (hC.2.2.2.2.2.2.2.2.trans hin) (hown hfin) (gTyOk hcl j hjN) hn1 hf1 hj hd (fun H1 l1 a1 a2 a3 => kk p l e s mi as bl me c H1 l1 ls A hC a1 a2 hA a3 hL)
  | false => exact va_put hC.1 hC.2.1 hts (gInG hcl) (gTyOf ci) (gTyOk hcl) (gNm hcl) hC.2.2.2.2.2.1 hw.2.1 hP hD hS q0 he hcl j hjN (hts _ h) (fun _ h => h) hfin (gTyOk hcl j hjN) hn1 hf1 hj hd (fun H1 l1 a1 a2 a3 => kk p l e s mi as bl me c H1 l1 ls A hC a1 a2 hA a3 hL)
theorem gm_new {ix ci N : Nat} {C : String} {T : u_T} {fs : List Value} (hd : decode K.2.1 pc = .ok (.new ix, 3)) (hcl : vwCl[ci]? = some (C, T, N)) (h1 : Cond.classLink K.1.cls ix C ∈ gT) (h2 : Cond.instantiable C N ∈ gT) (h3 : Cond.initialized C ∈ gT) (hfs : ∀ j, j < N → defaultValue (gTyOf ci j) = vp_V fs j) (hce : ce + 1 ≤ mc) (hsl : sl + N ≤ ms) (kk : ∀ q : Nat, Gm O d mc ms K Wf (pc + 3) L (.ref q :: st) (ws ++ [(q, .inr (ci, fs))]) (ce + 1) (sl + N)) : Gm O d mc ms K Wf pc L st ws ce sl := by
  intro p l e s mi as bl me c H lo ls A hC hP hD hA hS hL
  have hts := hC.2.2.2.2.2.2.1
  have hw := hC.2.2.2.2.2.2.2.1
  exact va_new hC.1 hC.2.1 hts (gInG hcl) (gTyOf ci) (gTyOk hcl) hC.2.2.2.2.2.1 (hts _ h1) (hts _ h2) (hts _ h3) hw.2.1 hP hD hS hA hcl hfs hce hsl hd (fun q H1 a1 a2 a3 => kk q p l e s mi as bl me c H1 lo ls A hC a1 a2 hA a3 hL)
theorem gm_newI {n : Nat} {x : Int32} (hd : decode K.2.1 pc = .ok (.newarray .int, 2)) (hw1 : Cond.arrayClass .int ∈ gT) (hx : x = nI n) (hn : n < 1000) (hce : ce + 1 ≤ mc) (hsl : sl + n ≤ ms) (kk : ∀ q : Nat, Gm O d mc ms K Wf (pc + 2) L (.ref q :: st) (ws ++ [(q, .inl (O.2.1, n, .inl (fun _ => 0)))]) (ce + 1) (sl + n)) : Gm O d mc ms K Wf pc L (.int x :: st) ws ce sl := by
  intro p l e s mi as bl me c H lo ls A hC hP hD hA hS hL
  subst hx
  have hts := hC.2.2.2.2.2.2.1
  have hw := hC.2.2.2.2.2.2.2.1
  refine va_newa (atype := .int) hC.1 hC.2.1 (hts _ hw1) rfl hw.2.1 hP hD hS hA (a0 := (n, .inl (fun _ => 0))) (fun cA => rfl) (nI_pos (by omega)) (nI_clamp (by omega)) (by show n * 4 ≤ _; omega) hce hsl hd (fun q cA H1 a0 a1 a2 a3 => ?_)
  have e1 : s.vm.findClass ("[" ++ (FieldType.int).toString) = some O.2.1 := (hw.2.1.2 0 _ rfl).2
  have e2 : s.vm.findClass ("[" ++ (FieldType.int).toString) = some cA := (a0.2 3 (cA, .int) rfl).2
  obtain rfl : O.2.1 = cA := Option.some.inj (e1.symm.trans e2)
  exact kk q p l e s mi as bl me c H1 lo ls A hC a1 a2 hA a3 hL
theorem gm_newZ {n : Nat} {x : Int32} (hd : decode K.2.1 pc = .ok (.newarray .boolean, 2)) (hw1 : Cond.arrayClass .boolean ∈ gT) (hx : x = nI n) (hn : n < 1000) (hce : ce + 1 ≤ mc) (hsl : sl + n ≤ ms) (kk : ∀ q : Nat, Gm O d mc ms K Wf (pc + 2) L (.ref q :: st) (ws ++ [(q, .inl (O.2.2.1, n, .inl (fun _ => 0)))]) (ce + 1) (sl + n)) : Gm O d mc ms K Wf pc L (.int x :: st) ws ce sl := by
  intro p l e s mi as bl me c H lo ls A hC hP hD hA hS hL
  subst hx
  have hts := hC.2.2.2.2.2.2.1
  have hw := hC.2.2.2.2.2.2.2.1
  refine va_newa (atype := .boolean) hC.1 hC.2.1 (hts _ hw1) rfl hw.2.1 hP hD hS hA (a0 := (n, .inl (fun _ => 0))) (fun cA => rfl) (nI_pos (by omega)) (nI_clamp (by omega)) (by show n * 1 ≤ _; omega) hce hsl hd (fun q cA H1 a0 a1 a2 a3 => ?_)
  have e1 : s.vm.findClass ("[" ++ (FieldType.boolean).toString) = some O.2.2.1 := (hw.2.1.2 1 _ rfl).2
  have e2 : s.vm.findClass ("[" ++ (FieldType.boolean).toString) = some cA := (a0.2 3 (cA, .boolean) rfl).2
  obtain rfl : O.2.2.1 = cA := Option.some.inj (e1.symm.trans e2)
  exact kk q p l e s mi as bl me c H1 lo ls A hC a1 a2 hA a3 hL
theorem gm_newS {ix n : Nat} {x : Int32} (hd : decode K.2.1 pc = .ok (.anewarray ix, 3)) (h1 : Cond.classLink K.1.cls ix RX5 ∈ gT) (hx : x = nI n) (hn : n < 1000) (hce : ce + 1 ≤ mc) (hsl : sl + n ≤ ms) (kk : ∀ q : Nat, Gm O d mc ms K Wf (pc + 3) L (.ref q :: st) (ws ++ [(q, .inl (O.2.2.2, n, .inr (.inr (.inr (.inr (fun _ => none))))))]) (ce + 1) (sl + n)) : Gm O d mc ms K Wf pc L (.int x :: st) ws ce sl := by
  intro p l e s mi as bl me c H lo ls A hC hP hD hA hS hL
  subst hx
  have hts := hC.2.2.2.2.2.2.1
  have hw := hC.2.2.2.2.2.2.2.1
  refine va_newq (C := RX5) hC.1 hC.2.1 hC.2.2.2.2.2.1 (hts _ h1) hw.2.2 hw.2.1 hP hD hS hA (nI_pos (by omega)) (nI_clamp (by omega)) (by omega) hce hsl hd (fun q cA H1 a0 a1 a2 a3 => ?_)
  obtain ⟨_, _, _, _, _, e1⟩ := (hw.2.1.2 2 (O.2.2.2, .object RX5) rfl).2
  obtain ⟨_, _, _, _, _, e2⟩ := (a0.2 3 (cA, .object RX5) rfl).2
  obtain rfl : O.2.2.2 = cA := Option.some.inj (e1.symm.trans e2)
  exact kk q p l e s mi as bl me c H1 lo ls A hC a1 a2 hA a3 hL
end GmRows
