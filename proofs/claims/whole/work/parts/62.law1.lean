/-! THE CLAIM OUT OF ONE WALK OF THE LAW'S BODY. Your part is whole_start (and what it stands on); all else here is the same for every law, but numbers. -/
def R_law : String := "ToldNineTimesLaw"
def lw_P (b : Addr) (xs : List Int32) (args : Array Value) (s : State) : Prop := args = #[.ref b] ∧ s.IntsAt b xs ∧ xs.length ≤ 3072 ∧ (Jvm.Cond.and given_1 narrow_1).before args s = true
def lw_Q (_ : Array Value) (s : State) (o : Outcome) (t : State) : Prop := o = .returned (some (.int 1)) ∧ Framed s o t [] 600000 7302250
def lw_Z (below : List Frame) (a : Array Value) (s : State) : State → Prop := fun t => ∃ o, t.status = .running ∧ Ended t below o ∧ lw_Q a s o t
/-- the law's own end, with 1 on the stack, nothing written that was there before, its room as the claim has it -/
theorem lw_ret {p : Program} {l : Launch} {e : Env} {s : State} {m : MethodId} {below : List Frame} {meth : Method} {c : Code} {b : Nat} (hx : p.tables.exec = Jvm.exec) (hb : c.code = code) (hr : meth.sig.returnType = ret) (hlocks : meth.locks = false) {pc : Nat} {H : Heap} {ls : Array Slot} (hdg : decode code pc = .ok (.ireturn, 1)) : W p l e room_1 s m #[Value.ref b] below meth c H [] 600000 7302250 (lw_Z below #[Value.ref b] s) (F0 m pc ls [.int 1]) := by
  intro T hT X
  obtain ⟨fs, hret, hrun, hended, hW, hframe⟩ := X.leave (v := some (.int 1)) (hlocks := hlocks) (fun h => by rw [hr] at h; cases h)
  have hmeth' : T.vm.method? m = some meth := X.method'
  refine ⟨T.setFrames fs, ?_, .returned (some (.int 1)), hrun, hended, rfl, ⟨_, rfl⟩, hW, hframe⟩
  jvm_step X.here [X.here.top, hx, hb, hdg, hmeth', hr, ret, narrow_b1]
  (try refine ⟨rfl, ?_⟩); (try refine ⟨rfl, ?_⟩)
  first | (intro acts; rw [hret _ acts rfl rfl rfl]) | rw [hret _ _ rfl rfl rfl]
  exact Steps.refl _
/-- what holds at the law's entry: the machine, the code, the tables' words (any of lw_tbl by 'hts w (by decide +kernel)'), the script of L ints xs at the cell b, what the Statement gives of the start (any of its parts by flat_of_before) -/
def lw_At (p : Program) (s : State) (m : MethodId) (meth : Method) (c : Code) (b L : Nat) (xs : Nat → Int32) : Prop :=
  p.tables.exec = Jvm.exec ∧ c.code = code ∧ meth.sig.returnType = ret ∧ c.maxLocals = 4 ∧ s.vm.findClass R_law = some m.cls ∧ (∀ w ∈ lw_tbl, w.before #[Value.ref b] s = true) ∧ va_X b L xs s s.heap ∧ b < s.heap.size ∧ meth.locks = false ∧ (Jvm.Cond.and given_1 narrow_1).before #[Value.ref b] s = true
/-! THE LAW'S WALK -/
def LwC (O : gOm) (p : Program) (s : State) (mi : MethodId) (meth : Method) (c : Code) (b L : Nat) (xs : Nat → Int32) : Prop := lw_At p s mi meth c b L xs ∧ gWd O s ∧ O.1 70 = b ∧ ∀ k, k < gNC → s.heap.size ≤ O.1 k
/-- from here, with these cells, the law comes to its end with true -/
def Lw (O : gOm) (p : Program) (l : Launch) (e : Env) (s : State) (mi : MethodId) (below : List Frame) (meth : Method) (c : Code) (b : Nat) (pc : Nat) (Ls st : List Value) (m : gMem) : Prop := ∀ (H : Heap) (locs : List Loc) (ls : Array Slot), va_P O.2.1 vwCl (gCells O m) H → va_S (fun q : Nat => s.heap.size ≤ q) s.heap H locs → gLs O Ls 4 ls → W p l e room_1 s mi #[Value.ref b] below meth c H locs 69 5969 (lw_Z below #[Value.ref b] s) (F0 mi pc ls (st.map (gv O.1)))
section LqRows
variable {O : gOm} {p : Program} {l : Launch} {e : Env} {s : State} {mi : MethodId} {below : List Frame} {meth : Method} {c : Code} {b L : Nat} {xs : Nat → Int32} {m : gMem} {pc : Nat} {Ls st : List Value}
theorem lq_iconst (C : LwC O p s mi meth c b L xs) {n : Int} (v : Int32) (hd : decode code pc = .ok (.iconst n, 1)) (hv : Int32.ofInt n = v) (k : Lw O p l e s mi below meth c b (pc + 1) Ls (.int v :: st) m) : Lw O p l e s mi below meth c b pc Ls st m := fun H lo ls hP hS hL => lv_iconst C.1.1 C.1.2.1 hd hv (k H lo ls hP hS hL)
theorem lq_bipush (C : LwC O p s mi meth c b L xs) {n : Int} (v : Int32) (hd : decode code pc = .ok (.bipush n, 2)) (hv : (Int8.ofInt n).toInt32 = v) (k : Lw O p l e s mi below meth c b (pc + 2) Ls (.int v :: st) m) : Lw O p l e s mi below meth c b pc Ls st m := fun H lo ls hP hS hL => lv_bipush C.1.1 C.1.2.1 hd hv (k H lo ls hP hS hL)
theorem lq_ldc2 (C : LwC O p s mi meth c b L xs) {ix : Nat} {v : Int64} (hw : Cond.constantLong RL ix v ∈ gT) (hd : decode code pc = .ok (.ldc2_w ix, 3)) (k : Lw O p l e s mi below meth c b (pc + 3) Ls (.long v :: st) m) : Lw O p l e s mi below meth c b pc Ls st m := fun H lo ls hP hS hL => lv_ldc2 (own := RL) C.1.1 C.1.2.1 C.1.2.2.2.2.1 (C.1.2.2.2.2.2.1 _ (List.mem_filter.mp hw).1) hd (k H lo ls hP hS hL)
theorem lq_iload_n (C : LwC O p s mi meth c b L xs) {i : Fin 4} {x : Int32} (hd : decode code pc = .ok (.iload_n i, 1)) (hl : Ls[(i : Nat)]? = some (.int x)) (k : Lw O p l e s mi below meth c b (pc + 1) Ls (.int x :: st) m) : Lw O p l e s mi below meth c b pc Ls st m := fun H lo ls hP hS hL => lv_iload_n C.1.1 C.1.2.1 hd rfl (hL.2.2.2 _ _ hl (fun h => by cases h)) (k H lo ls hP hS hL)
theorem lq_aload_n (C : LwC O p s mi meth c b L xs) {i : Fin 4} {x : Nat} (hd : decode code pc = .ok (.aload_n i, 1)) (hl : Ls[(i : Nat)]? = some (.ref x)) (k : Lw O p l e s mi below meth c b (pc + 1) Ls (.ref x :: st) m) : Lw O p l e s mi below meth c b pc Ls st m := fun H lo ls hP hS hL => lv_aload_n C.1.1 C.1.2.1 hd rfl (hL.2.2.2 _ _ hl (fun h => by cases h)) (k H lo ls hP hS hL)
theorem lq_iadd (C : LwC O p s mi meth c b L xs) {x y v : Int32} (hd : decode code pc = .ok (.iadd, 1)) (hv : x + y = v) (k : Lw O p l e s mi below meth c b (pc + 1) Ls (.int v :: st) m) : Lw O p l e s mi below meth c b pc Ls (.int y :: .int x :: st) m := fun H lo ls hP hS hL => lv_iadd C.1.1 C.1.2.1 hd (hv ▸ (k H lo ls hP hS hL))
theorem lq_isub (C : LwC O p s mi meth c b L xs) {x y v : Int32} (hd : decode code pc = .ok (.isub, 1)) (hv : x - y = v) (k : Lw O p l e s mi below meth c b (pc + 1) Ls (.int v :: st) m) : Lw O p l e s mi below meth c b pc Ls (.int y :: .int x :: st) m := fun H lo ls hP hS hL => lv_isub C.1.1 C.1.2.1 hd (hv ▸ (k H lo ls hP hS hL))
theorem lq_iand (C : LwC O p s mi meth c b L xs) {x y v : Int32} (hd : decode code pc = .ok (.iand, 1)) (hv : x &&& y = v) (k : Lw O p l e s mi below meth c b (pc + 1) Ls (.int v :: st) m) : Lw O p l e s mi below meth c b pc Ls (.int y :: .int x :: st) m := fun H lo ls hP hS hL => lv_iand C.1.1 C.1.2.1 hd (hv ▸ (k H lo ls hP hS hL))
theorem lq_iadd_n (C : LwC O p s mi meth c b L xs) {x y : Nat} (hd : decode code pc = .ok (.iadd, 1)) (k : Lw O p l e s mi below meth c b (pc + 1) Ls (.int (nI (x + y)) :: st) m) : Lw O p l e s mi below meth c b pc Ls (.int (nI y) :: .int (nI x) :: st) m := lq_iadd C hd (nI_add x y) k
theorem lq_land (C : LwC O p s mi meth c b L xs) {x y v : Int64} (hd : decode code pc = .ok (.land, 1)) (hv : x &&& y = v) (k : Lw O p l e s mi below meth c b (pc + 1) Ls (.long v :: st) m) : Lw O p l e s mi below meth c b pc Ls (.long y :: .long x :: st) m := fun H lo ls hP hS hL => lv_land C.1.1 C.1.2.1 hd (hv ▸ (k H lo ls hP hS hL))
theorem lq_lor (C : LwC O p s mi meth c b L xs) {x y v : Int64} (hd : decode code pc = .ok (.lor, 1)) (hv : x ||| y = v) (k : Lw O p l e s mi below meth c b (pc + 1) Ls (.long v :: st) m) : Lw O p l e s mi below meth c b pc Ls (.long y :: .long x :: st) m := fun H lo ls hP hS hL => lv_lor C.1.1 C.1.2.1 hd (hv ▸ (k H lo ls hP hS hL))
theorem lq_lshl (C : LwC O p s mi meth c b L xs) {x v : Int64} {y : Int32} (hd : decode code pc = .ok (.lshl, 1)) (hv : x <<< (y.toInt64 &&& 63) = v) (k : Lw O p l e s mi below meth c b (pc + 1) Ls (.long v :: st) m) : Lw O p l e s mi below meth c b pc Ls (.int y :: .long x :: st) m := fun H lo ls hP hS hL => lv_lshl C.1.1 C.1.2.1 hd hv (k H lo ls hP hS hL)
theorem lq_i2l (C : LwC O p s mi meth c b L xs) {x : Int32} {v : Int64} (hd : decode code pc = .ok (.i2l, 1)) (hv : x.toInt64 = v) (k : Lw O p l e s mi below meth c b (pc + 1) Ls (.long v :: st) m) : Lw O p l e s mi below meth c b pc Ls (.int x :: st) m := fun H lo ls hP hS hL => lv_i2l C.1.1 C.1.2.1 hd hv (k H lo ls hP hS hL)
theorem lq_lcmp (C : LwC O p s mi meth c b L xs) {x y : Int64} {v : Int32} (hd : decode code pc = .ok (.lcmp, 1)) (hv : lg_cmp x y = v) (k : Lw O p l e s mi below meth c b (pc + 1) Ls (.int v :: st) m) : Lw O p l e s mi below meth c b pc Ls (.long y :: .long x :: st) m := fun H lo ls hP hS hL => W.lcmp C.1.1 C.1.2.1 hd (hv ▸ (k H lo ls hP hS hL))
theorem lq_if_eq (C : LwC O p s mi meth c b L xs) {x : Int32} {off : Int} (tgt : Nat) (hd : decode code pc = .ok (.ifCond .eq off, 3)) (ht : (pc : Int) + off = (tgt : Int)) (kt : x = 0 → Lw O p l e s mi below meth c b tgt Ls st m) (kf : ¬ x = 0 → Lw O p l e s mi below meth c b (pc + 3) Ls st m) : Lw O p l e s mi below meth c b pc Ls (.int x :: st) m := fun H lo ls hP hS hL => lv_if_eq C.1.1 C.1.2.1 hd ht (fun h => kt h H lo ls hP hS hL) (fun h => kf h H lo ls hP hS hL)
theorem lq_icmp_eq (C : LwC O p s mi meth c b L xs) {x y : Int32} {off : Int} (tgt : Nat) (hd : decode code pc = .ok (.if_icmp .eq off, 3)) (ht : (pc : Int) + off = (tgt : Int)) (kt : x = y → Lw O p l e s mi below meth c b tgt Ls st m) (kf : ¬ x = y → Lw O p l e s mi below meth c b (pc + 3) Ls st m) : Lw O p l e s mi below meth c b pc Ls (.int y :: .int x :: st) m := fun H lo ls hP hS hL => lv_icmp_eq C.1.1 C.1.2.1 hd ht (fun h => kt h H lo ls hP hS hL) (fun h => kf h H lo ls hP hS hL)
theorem lq_icmp_gt (C : LwC O p s mi meth c b L xs) {x y : Int32} {off : Int} (tgt : Nat) (hd : decode code pc = .ok (.if_icmp .gt off, 3)) (ht : (pc : Int) + off = (tgt : Int)) (kt : y < x → Lw O p l e s mi below meth c b tgt Ls st m) (kf : ¬ y < x → Lw O p l e s mi below meth c b (pc + 3) Ls st m) : Lw O p l e s mi below meth c b pc Ls (.int y :: .int x :: st) m := fun H lo ls hP hS hL => lv_icmp_gt C.1.1 C.1.2.1 hd ht (fun h => kt h H lo ls hP hS hL) (fun h => kf h H lo ls hP hS hL)
theorem lq_goto (C : LwC O p s mi meth c b L xs) {off : Int} (tgt : Nat) (hd : decode code pc = .ok (.goto off, 3)) (ht : (pc : Int) + off = (tgt : Int)) (k : Lw O p l e s mi below meth c b tgt Ls st m) : Lw O p l e s mi below meth c b pc Ls st m := fun H lo ls hP hS hL => lv_goto C.1.1 C.1.2.1 hd ht (k H lo ls hP hS hL)
theorem lq_tableOut (C : LwC O p s mi meth c b L xs) {dflt lo hi : Int} {offs : Array Int} {len : Nat} {x : Int32} (tgt : Nat) (hd : decode code pc = .ok (.tableswitch dflt lo hi offs, len)) (h : x.toInt < lo ∨ hi < x.toInt) (ht : (pc : Int) + dflt = (tgt : Int)) (k : Lw O p l e s mi below meth c b tgt Ls st m) : Lw O p l e s mi below meth c b pc Ls (.int x :: st) m := fun H lo ls hP hS hL => lv_tableOut C.1.1 C.1.2.1 hd h ht (k H lo ls hP hS hL)
theorem lq_tableIn (C : LwC O p s mi meth c b L xs) {dflt lo hi : Int} {offs : Array Int} {len : Nat} {x : Int32} {off : Int} (tgt : Nat) (hd : decode code pc = .ok (.tableswitch dflt lo hi offs, len)) (h1 : ¬ x.toInt < lo) (h2 : ¬ hi < x.toInt) (ho : offs[(x.toInt - lo).toNat]? = some off) (ht : (pc : Int) + off = (tgt : Int)) (k : Lw O p l e s mi below meth c b tgt Ls st m) : Lw O p l e s mi below meth c b pc Ls (.int x :: st) m := fun H lo ls hP hS hL => lv_tableIn C.1.1 C.1.2.1 hd h1 h2 ho ht (k H lo ls hP hS hL)
theorem lq_iinc (C : LwC O p s mi meth c b L xs) {i : Nat} {n : Int} {x v : Int32} {L' : List Value} (hd : decode code pc = .ok (.iinc i n, 3)) (hx : Ls[i]? = some (.int x)) (hi : i < 4) (hv : x + Int32.ofInt n = v) (hl : gst Ls i (.int v) = L') (k : Lw O p l e s mi below meth c b (pc + 3) L' st m) : Lw O p l e s mi below meth c b pc Ls st m := by
  intro H lo ls hP hS hL
  obtain ⟨j, hj⟩ := List.getElem?_of_mem (gLl_mem (O := O).mpr ⟨.int x, hx, (fun h => by cases h), rfl⟩)
  exact lv_iinc (k := j) C.1.1 C.1.2.1 hd hL.has hj hv hi rfl (fun ls' h' => k H lo ls' hP hS (hl ▸ hL.store1 (v := .int v) hi h'))
theorem lq_end (C : LwC O p s mi meth c b L xs) (hd : decode code pc = .ok (.ireturn, 1)) : Lw O p l e s mi below meth c b pc Ls [.int 1] m := fun H lo ls hP hS hL => va_forget (fun q hq => hS.2.2 q hq) (W.widen (k := 600000) (n := 7302250) (by omega) (by omega) (lw_ret C.1.1 C.1.2.1 C.1.2.2.1 C.1.2.2.2.2.2.2.2.2.1 hd))
theorem lq_sld (C : LwC O p s mi meth c b L xs) {x : Int32} {j : Nat} (hd : decode code pc = .ok (.iaload, 1)) (hx : x = nI j) (hj : j < L) (hL3 : L ≤ 3072) (k : Lw O p l e s mi below meth c b (pc + 1) Ls (.int (xs j) :: st) m) : Lw O p l e s mi below meth c b pc Ls (.int x :: .ref 70 :: st) m := by
  intro H lo ls hP hS hL
  obtain ⟨⟨hx', hb, hr, hml, hown, hts, hX, hbl, hlocks, hgv⟩, hW, h70, hnew⟩ := C
  subst hx
  show W p l e room_1 s mi _ below meth c H lo 69 5969 _ (F0 mi pc ls (.int (nI j) :: .ref (O.1 70) :: st.map (gv O.1)))
  rw [h70]
  refine va_sld hx' hb hX hbl (Nat.not_le.mpr hbl) hS (vp_in_nI hj (by omega)) hd ?_
  rw [nI_clamp (by omega)]
  exact k H lo ls hP hS hL
theorem lq_slen (C : LwC O p s mi meth c b L xs) (hd : decode code pc = .ok (.arraylength, 1)) (k : Lw O p l e s mi below meth c b (pc + 1) Ls (.int (nI L) :: st) m) : Lw O p l e s mi below meth c b pc Ls (.ref 70 :: st) m := by
  intro H lo ls hP hS hL
  obtain ⟨⟨hx', hb, hr, hml, hown, hts, hX, hbl, hlocks, hgv⟩, hW, h70, hnew⟩ := C
  show W p l e room_1 s mi _ below meth c H lo 69 5969 _ (F0 mi pc ls (.ref (O.1 70) :: st.map (gv O.1)))
  rw [h70]
  exact va_slen hx' hb hX hbl (Nat.not_le.mpr hbl) hS hd (k H lo ls hP hS hL)
theorem lv_runA {args : Array Value} {H : Heap} {locs : List Loc} {cells slots : Nat} {R : Room} {Q : State → Prop} {A0 : Nat → Prop} {r1 : Option Value} {m1 : gMem} {ls : Array Slot} {rest st0 : List Value} {a : Array Value} (hr : va_Run p l e R s mi args below meth c H locs cells slots 0 0 (F0 mi pc ls st0) rest (gQ O r1 m1 a) (gA O)) (hS : va_S A0 s.heap H locs) (hA : ∀ q, gA O q → A0 q)
    (kk : ∀ (H1 : Heap) (locs1 : List Loc), va_P O.2.1 vwCl (gCells O m1) H1 → va_S A0 s.heap H1 locs1 → W p l e R s mi args below meth c H1 locs1 cells slots Q (F0 mi (pc + 3) ls ((r1.map (gv O.1)).toList ++ rest))) : W p l e R s mi args below meth c H locs cells slots Q (F0 mi pc ls st0) := by
  intro T hT X
  obtain ⟨v, st₀, t, T', L, h0, X', hL, e1, e2, ⟨⟨hv, hp⟩, hz, hk⟩, st⟩ := hr T hT X
  cases hv
  rw [h0] at hz hk
  obtain ⟨t2, a1, b1⟩ := kk T'.heap (locs ++ L) (by rw [e1]; exact hp)
    ⟨Nat.le_trans hS.1 (by rw [e1]; exact hz), fun q h1 h2 => by rw [e1, hk q (Nat.lt_of_lt_of_le h1 hS.1) (fun z => h2 (hA q z))]; exact hS.2.1 q h1 h2, fun q hq => by
      rcases List.mem_append.mp hq with h | h
      · exact hS.2.2 q h
      · exact hA _ (hL q h)⟩ T' rfl X'
  exact ⟨t2, st t2 a1, b1⟩
theorem lq_callV1 (C : LwC O p s mi meth c b L xs) {ix ci nf k n : Nat} {K' : gM} {v : Value} {m1 : gMem} (as : List Value) {st0 : List Value} (hd : decode code pc = .ok (.invokevirtual ix, 3)) (hlk : gLk RL ix K'.1) (hl : gLv K' n) (hk : gK k = (ci, nf)) (hci : ci < 8) (hcl : (vwCl.map (fun q => q.1))[ci]? = some K'.1.cls) (hkn : k < gNC) (hst : st0 = as.reverse ++ .ref k :: st) (hn : as.length = n) (hW : (st.map fun v => v.category).sum ≤ 8) (hen : (gsp (.ref k :: as)).length ≤ K'.2.2.1)
    (hc : Ca O 40 K' (.ref k :: as) (some v) m m1) (kk : Lw O p l e s mi below meth c b (pc + 3) Ls (v :: st) m1) : Lw O p l e s mi below meth c b pc Ls st0 m := by
  intro H lo ls hP hS hL
  subst hst
  obtain ⟨⟨hx', hb, hr, hml, hown, hts0, hX, hbl, hlocks, hgv⟩, hWd, h70, hnew⟩ := C
  have hM := go_met l hl.2.2.2.2.1 hen hc
  obtain ⟨q, hq1, hq2⟩ : ∃ q, vwCl[ci]? = some q ∧ q.1 = K'.1.cls := by
    rw [List.getElem?_map] at hcl
    cases hq : vwCl[ci]? with
    | none => rw [hq] at hcl; cases hcl
    | some q => rw [hq] at hcl; exact ⟨q, rfl, Option.some.inj hcl⟩
  have hat := gCells_at O m hkn
  rw [gE_obj O m hk hci] at hat
  have hrec := va_recv hWd.2.1 hP hq1 hat
  rw [hq2] at hrec
  have hSg : va_S (gA O) s.heap H [] := ⟨hS.1, fun q h1 _ => hS.2.1 q h1 (Nat.not_le.mpr h1), fun _ h => by cases h⟩
  have hpre : PreV s H K'.1.cls (O.1 k) (gPc O (.ref k :: as) m) (as.map (gv O.1)) := ⟨gPc.blind O _ m, hrec, fun U hU hWm => ⟨rfl, hWd.warm hSg hU hWm, by rw [hU]; exact hP⟩⟩
  have hstk : (as.reverse ++ .ref k :: st).map (gv O.1) = (as.map (gv O.1)).reverse ++ .ref (O.1 k) :: st.map (gv O.1) := by simp [gv, List.map_reverse]
  have hts : ∀ w ∈ gT, w.before #[Value.ref b] s = true := fun w hw => hts0 w (List.mem_filter.mp hw).1
  have hroom : ((st.map (gv O.1)).map fun v => v.category).sum ≤ 8 := by rw [gcats]; exact hW
  have hAg : ∀ q, gA O q → s.heap.size ≤ q := fun q h => by
    obtain ⟨k, h1, h2⟩ := h
    rw [← h2]
    exact hnew k h1
  have hRm : (gRm 40).frames + 1 ≤ room_1.frames ∧ 8 + (K'.2.2.1 + 11) + (gRm 40).locals ≤ room_1.locals := by
    have := hl.2.2.2.2.2.2
    refine ⟨?_, ?_⟩
    · show 40 + 1 ≤ 2048
      omega
    · show 8 + (K'.2.2.1 + 11) + (64 * 40 + 64) ≤ 84000
      omega
  have hkk : ∀ (H1 : Heap) (locs1 : List Loc), va_P O.2.1 vwCl (gCells O m1) H1 → va_S (fun q : Nat => s.heap.size ≤ q) s.heap H1 locs1 → W p l e room_1 s mi #[Value.ref b] below meth c H1 locs1 69 5969 (lw_Z below #[Value.ref b] s) (F0 mi (pc + 3) ls (((some v).map (gv O.1)).toList ++ st.map (gv O.1))) := fun H1 l1 h1 h2 => kk H1 l1 ls h1 h2 hL
  rw [hstk]
  rcases hlk with h | ⟨host, h⟩
  · exact lv_runA (va_runV (own := RL) (C := K'.1.cls) (ws := gWs K') (n := n) (As := as.map (gv O.1)) (rest := st.map (gv O.1)) ⟨hx', hb, hml, hown, hts⟩ hM ⟨callB_of n hts (gWs_good hl.2.2) rfl rfl rfl (hts _ hl.2.2.1) (hts _ h) hl.2.2.2.2.2.1 hRm, hts _ hl.1, hts _ hl.2.1⟩ hpre rfl (by simpa using hn) hL.2.1 rfl (lv_room hroom) hd ⟨Nat.le_of_ble_eq_true rfl, Nat.le_of_ble_eq_true rfl⟩) hS hAg hkk
  · exact lv_runA (va_runVN (own := RL) (C := K'.1.cls) (ws := gWs K') (n := n) (As := as.map (gv O.1)) (rest := st.map (gv O.1)) ⟨hx', hb, hml, hown, hts⟩ hM ⟨va_cnB n hts (gWs_good hl.2.2) rfl rfl rfl (hWd.1 _ h) (hts _ hl.2.2.1) hl.2.2.2.2.2.1 hRm, hts _ hl.1, hts _ hl.2.1⟩ hpre rfl (by simpa using hn) hL.2.1 rfl (lv_room hroom) hd ⟨Nat.le_of_ble_eq_true rfl, Nat.le_of_ble_eq_true rfl⟩) hS hAg hkk
end LqRows
