/-! THE JUDGEMENT: from this pc, locals, stack and memory the method comes to its end with answer r and memory m' -/
/-- a method: its name, its bytes, its locals, what it returns -/
abbrev gM : Type := MethodName × ByteArray × Nat × Option FieldType
def gRm (d : Nat) : Room := { frames := d, cells := 0, slots := 0, locals := 64 * d + 64 }
def gch (j : Nat) : Int32 := bif j == 0 then 0 else bif j == 1 then 1 else bif j == 2 then 2 else 4
/-- what holds of the tables and of the cells that nobody writes, at a method's start -/
def gWd (O : gOm) (s : State) : Prop := (∀ w ∈ gN, va_Nw w s) ∧ va_K O.2.1 vwCl (gTys O) s ∧ (∀ i j, i < gNC → j < gNC → O.1 i = O.1 j → i = j) ∧ va_Z "ToldNineTimes$Outlook" "CHOICES" "[I" (.ref (O.1 69)) (gA O) s s.heap ∧ va_T .int (O.1 69) 4 (fun j => .int (gch j)) (gA O) s s.heap
def gCx (O : gOm) (K : gM) (p : Program) (s : State) (mi : MethodId) (args : Array Value) (meth : Method) (c : Code) : Prop :=
  p.tables.exec = Jvm.exec ∧ c.code = K.2.1 ∧ c.maxLocals = K.2.2.1 ∧ meth.sig.returnType = K.2.2.2 ∧ meth.locks = false ∧ s.vm.findClass K.1.cls = some mi.cls ∧ (∀ w ∈ gT, w.before args s = true) ∧ gWd O s
/-- the locals: null stands for what isn't known -/
def gLs (O : gOm) (L : List Value) (nL : Nat) (ls : Array Slot) : Prop := L.length = nL ∧ ls.size = nL ∧ lv_wf ls ∧ ∀ (i : Nat) (v : Value), L[i]? = some v → v ≠ .null → ls[i]? = some (.val (gv O.1 v))
def gQ (O : gOm) (r : Option Value) (m' : gMem) : Array Value → State → Outcome → State → Prop := fun _ st oc t => (oc = .returned (r.map (gv O.1)) ∧ va_P O.2.1 vwCl (gCells O m') t.heap) ∧ va_F (gA O) st t
def Go (O : gOm) (d : Nat) (K : gM) (r : Option Value) (m' : gMem) (pc : Nat) (L st : List Value) (m : gMem) : Prop :=
  ∀ (p : Program) (l : Launch) (e : Env) (s : State) (mi : MethodId) (args : Array Value) (below : List Frame) (meth : Method) (c : Code) (H : Heap) (locs : List Loc) (ls : Array Slot),
    gCx O K p s mi args meth c → va_P O.2.1 vwCl (gCells O m) H → va_S (gA O) s.heap H locs → gLs O L K.2.2.1 ls →
    W p l e (gRm d) s mi args below meth c H locs 0 0 (MQ below (gQ O r m') args s 0 0 (gA O)) (F0 mi pc ls (st.map (gv O.1)))
/-- locals behind a store; at a method's entry -/
def gc2 (v : Value) : Bool := v.category == 2
def gst (L : List Value) (i : Nat) (v : Value) : List Value :=
  (bif (i != 0) && ((L[i - 1]?).any gc2) then L.set (i - 1) .null else L).set i v
def gst2 (L : List Value) (i : Nat) (v : Value) : List Value := (gst L i v).set (i + 1) .null
def gsp : List Value → List Value
  | [] => []
  | v :: vs => bif gc2 v then v :: .null :: gsp vs else v :: gsp vs
def gent (as : List Value) (n : Nat) : List Value := gsp as ++ List.replicate (n - (gsp as).length) .null
def Ca (O : gOm) (d : Nat) (K : gM) (as : List Value) (r : Option Value) (m m' : gMem) : Prop := Go O d K r m' 0 (gent as K.2.2.1) [] m
theorem gD (O : gOm) (m : gMem) (h : ∀ i j, i < gNC → j < gNC → O.1 i = O.1 j → i = j) : va_D (gA O) (gCells O m) := by
  refine ⟨fun i j p q hp hq e => ?_, fun k q hq => ?_⟩
  · obtain ⟨h1, e1⟩ := gCells_lt O m hp
    obtain ⟨h2, e2⟩ := gCells_lt O m hq
    subst e1; subst e2
    exact h i j h1 h2 e
  · obtain ⟨h1, e1⟩ := gCells_lt O m hq
    subst e1
    exact ⟨k, h1, rfl⟩
/-- the kit's list of locals -/
def gLl (O : gOm) (L : List Value) : List (Nat × Value) := (List.range L.length).filterMap (fun i => match L[i]? with
  | some v => if v = .null then none else some (i, gv O.1 v)
  | none => none)
theorem gLl_mem {O : gOm} {L : List Value} {i : Nat} {w : Value} : (i, w) ∈ gLl O L ↔ ∃ v, L[i]? = some v ∧ v ≠ .null ∧ w = gv O.1 v := by
  constructor
  · intro h
    obtain ⟨j, hj, hv⟩ := List.mem_filterMap.mp h
    cases hL : L[j]? with
    | none => rw [hL] at hv; cases hv
    | some v =>
      rw [hL] at hv
      by_cases hn : v = .null
      · simp [hn] at hv
      · simp only [hn, if_false, Option.some.injEq, Prod.mk.injEq] at hv
        obtain ⟨e1, e2⟩ := hv
        subst e1
        exact ⟨v, hL, hn, e2.symm⟩
  · rintro ⟨v, h1, h2, h3⟩
    refine List.mem_filterMap.mpr ⟨i, List.mem_range.mpr (List.getElem?_eq_some_iff.mp h1).1, ?_⟩
    rw [h1]
    simp [h2, h3]
theorem gLs.has {O : gOm} {L : List Value} {nL : Nat} {ls : Array Slot} (h : gLs O L nL ls) : lv_has ls nL (gLl O L) := by
  obtain ⟨_, h1, h2, h3⟩ := h
  refine ⟨h1, h2, fun q hq => ?_⟩
  obtain ⟨i, w⟩ := q
  obtain ⟨v, a, b, c⟩ := gLl_mem.mp hq
  rw [c]
  exact h3 i v a b
theorem gst_len (L : List Value) (i : Nat) (v : Value) : (gst L i v).length = L.length := by
  unfold gst
  cases (i != 0) && ((L[i - 1]?).any gc2) <;> simp
theorem gst2_len (L : List Value) (i : Nat) (v : Value) : (gst2 L i v).length = L.length := by simp [gst2, gst_len]
theorem gst_at {L : List Value} {i j : Nat} {v w : Value} (hj : j ≠ i) (h : (gst L i v)[j]? = some w) (hw : w ≠ .null) : L[j]? = some w ∧ ¬ (j + 1 = i ∧ w.category = 2) := by
  unfold gst at h
  rw [List.getElem?_set_ne (Ne.symm hj)] at h
  cases hc : (i != 0) && ((L[i - 1]?).any gc2) with
  | false =>
    rw [hc] at h
    simp only [cond_false] at h
    refine ⟨h, fun hq => ?_⟩
    have e : i - 1 = j := by omega
    rw [e, h] at hc
    have : (i != 0) = true := by simp; omega
    rw [this] at hc
    simp [gc2, hq.2] at hc
  | true =>
    rw [hc] at h
    simp only [cond_true] at h
    by_cases hq : j = i - 1
    · rw [hq] at h
      rw [List.getElem?_set] at h
      split at h
      · split at h
        · cases h; exact absurd rfl hw
        · cases h
      · rename_i hx; exact absurd rfl hx
    · rw [List.getElem?_set_ne (Ne.symm hq)] at h
      refine ⟨h, fun hz => hq ?_⟩
      omega
theorem gLs.store1 {O : gOm} {L : List Value} {nL i : Nat} {ls ls' : Array Slot} {v : Value} (h : gLs O L nL ls) (hi : i < nL) (h' : lv_has ls' nL ((i, gv O.1 v) :: (gLl O L).filter (fun q => !(q.1 == i) && !(q.1 + 1 == i && q.2.category == 2)))) : gLs O (gst L i v) nL ls' := by
  refine ⟨(gst_len L i v).trans h.1, h'.1, h'.2.1, fun j w hj hw => ?_⟩
  by_cases hji : j = i
  · subst hji
    have e : (gst L j v)[j]? = some v := by
      unfold gst
      rw [List.getElem?_set_self]
      cases (j != 0) && ((L[j - 1]?).any gc2) <;> simp [h.1, hi]
    rw [e] at hj
    cases hj
    exact h'.2.2 (j, gv O.1 v) List.mem_cons_self
  · obtain ⟨a1, a2⟩ := gst_at hji hj hw
    refine h'.2.2 (j, gv O.1 w) (List.mem_cons_of_mem _ (List.mem_filter.mpr ⟨gLl_mem.mpr ⟨w, a1, hw, rfl⟩, ?_⟩))
    simp only [gcat]
    simp [hji]
    by_cases e : j + 1 = i
    · exact Or.inr (fun z => a2 ⟨e, z⟩)
    · exact Or.inl e
theorem gLs.store2 {O : gOm} {L : List Value} {nL i : Nat} {ls ls' : Array Slot} {v : Value} (h : gLs O L nL ls) (hi : i + 1 < nL) (h' : lv_has ls' nL ((i, gv O.1 v) :: (gLl O L).filter (fun q => !(q.1 == i) && (!(q.1 == i + 1) && !(q.1 + 1 == i && q.2.category == 2))))) : gLs O (gst2 L i v) nL ls' := by
  refine ⟨(gst2_len L i v).trans h.1, h'.1, h'.2.1, fun j w hj hw => ?_⟩
  unfold gst2 at hj
  by_cases hj1 : j = i + 1
  · subst hj1
    rw [List.getElem?_set] at hj
    split at hj
    · split at hj
      · cases hj; exact absurd rfl hw
      · cases hj
    · rename_i hx; exact absurd rfl hx
  · rw [List.getElem?_set_ne (Ne.symm hj1)] at hj
    by_cases hji : j = i
    · subst hji
      have e : (gst L j v)[j]? = some v := by
        unfold gst
        rw [List.getElem?_set_self]
        cases (j != 0) && ((L[j - 1]?).any gc2) <;> simp [h.1] <;> omega
      rw [e] at hj
      cases hj
      exact h'.2.2 (j, gv O.1 v) List.mem_cons_self
    · obtain ⟨a1, a2⟩ := gst_at hji hj hw
      refine h'.2.2 (j, gv O.1 w) (List.mem_cons_of_mem _ (List.mem_filter.mpr ⟨gLl_mem.mpr ⟨w, a1, hw, rfl⟩, ?_⟩))
      simp only [gcat]
      simp [hji, hj1]
      by_cases e : j + 1 = i
      · exact Or.inr (fun z => a2 ⟨e, z⟩)
      · exact Or.inl e
theorem gsp_args (O : gOm) : ∀ (as : List Value) (b i : Nat) (v : Value), (gsp as)[i]? = some v → v ≠ .null → (b + i, gv O.1 v) ∈ lv_args b (as.map (gv O.1))
  | [], b, i, v, h, _ => by simp [gsp] at h
  | a :: as, b, i, v, h, hv => by
    simp only [List.map_cons, lv_args, gcat]
    unfold gsp at h
    by_cases hc : a.category = 2
    · simp only [gc2, hc, beq_self_eq_true, cond_true] at h
      rw [if_pos hc]
      match i, h with
      | 0, h => simp at h; subst h; exact List.mem_cons_self
      | 1, h => simp at h; exact absurd h.symm hv
      | i + 2, h =>
        refine List.mem_cons_of_mem _ ?_
        have := gsp_args O as (b + 2) i v (by simpa using h) hv
        rwa [show b + 2 + i = b + (i + 2) by omega] at this
    · have hc' : (a.category == 2) = false := by simp [hc]
      simp only [gc2, hc', cond_false] at h
      rw [if_neg hc]
      match i, h with
      | 0, h => simp at h; subst h; exact List.mem_cons_self
      | i + 1, h =>
        refine List.mem_cons_of_mem _ ?_
        have := gsp_args O as (b + 1) i v (by simpa using h) hv
        rwa [show b + 1 + i = b + (i + 1) by omega] at this
theorem gsp_len (O : gOm) : ∀ as : List Value, (lg_sl (as.map (gv O.1))).length = (gsp as).length
  | [] => rfl
  | a :: as => by
    have ih := gsp_len O as
    unfold lg_sl at ih ⊢
    rw [List.map_cons, List.flatMap_cons, List.length_append, ih, gcat]
    show _ = (bif gc2 a then a :: .null :: gsp as else a :: gsp as).length
    by_cases hc : a.category = 2
    · simp [gc2, hc]; omega
    · have hc' : (a.category == 2) = false := by simp [hc]
      simp only [gc2, hc', cond_false, if_neg hc, List.length_cons, List.length_nil]
      omega
theorem gLs.entry (O : gOm) (as : List Value) {n : Nat} (h : (gsp as).length ≤ n) : gLs O (gent as n) n ((lg_sl (as.map (gv O.1)) ++ List.replicate (n - (lg_sl (as.map (gv O.1))).length) Slot.unset).toArray) := by
  have h0 := lv_entry (as.map (gv O.1)) (n := n) (by rw [gsp_len]; exact h)
  refine ⟨by simp [gent]; omega, h0.1, h0.2.1, fun i v hi hv => ?_⟩
  by_cases hl : i < (gsp as).length
  · unfold gent at hi
    rw [List.getElem?_append_left hl] at hi
    have := gsp_args O as 0 i v hi hv
    rw [Nat.zero_add] at this
    exact h0.2.2 _ this
  · unfold gent at hi
    rw [List.getElem?_append_right (by omega)] at hi
    rw [List.getElem?_replicate] at hi
    split at hi
    · cases hi; exact absurd rfl hv
    · cases hi
section GoRows
variable {O : gOm} {d : Nat} {K : gM} {r : Option Value} {m m' : gMem} {pc : Nat} {L st : List Value}
theorem go_iconst {n : Int} (v : Int32) (hd : decode K.2.1 pc = .ok (.iconst n, 1)) (hv : Int32.ofInt n = v) (k : Go O d K r m' (pc + 1) L (.int v :: st) m) : Go O d K r m' pc L (st) m := fun p l e s mi as bl me c H lo ls hC hP hS hL => lv_iconst hC.1 hC.2.1 hd hv (k p l e s mi as bl me c H lo ls hC hP hS hL)
theorem go_bipush {n : Int} (v : Int32) (hd : decode K.2.1 pc = .ok (.bipush n, 2)) (hv : (Int8.ofInt n).toInt32 = v) (k : Go O d K r m' (pc + 2) L (.int v :: st) m) : Go O d K r m' pc L (st) m := fun p l e s mi as bl me c H lo ls hC hP hS hL => lv_bipush hC.1 hC.2.1 hd hv (k p l e s mi as bl me c H lo ls hC hP hS hL)
theorem go_sipush {n : Int} (v : Int32) (hd : decode K.2.1 pc = .ok (.sipush n, 3)) (hv : (Int16.ofInt n).toInt32 = v) (k : Go O d K r m' (pc + 3) L (.int v :: st) m) : Go O d K r m' pc L (st) m := fun p l e s mi as bl me c H lo ls hC hP hS hL => lv_sipush hC.1 hC.2.1 hd hv (k p l e s mi as bl me c H lo ls hC hP hS hL)
theorem go_lconst {n : Fin 2} (v : Int64) (hd : decode K.2.1 pc = .ok (.lconst n, 1)) (hv : Int64.ofNat (n : Nat) = v) (k : Go O d K r m' (pc + 1) L (.long v :: st) m) : Go O d K r m' pc L (st) m := fun p l e s mi as bl me c H lo ls hC hP hS hL => lv_lconst hC.1 hC.2.1 hd hv (k p l e s mi as bl me c H lo ls hC hP hS hL)
theorem go_ldc {ix : Nat} {v : Int32} (hw : Cond.constant K.1.cls ix v ∈ gT) (hd : decode K.2.1 pc = .ok (.ldc ix, 2)) (k : Go O d K r m' (pc + 2) L (.int v :: st) m) : Go O d K r m' pc L (st) m := fun p l e s mi as bl me c H lo ls hC hP hS hL => lv_ldc hC.1 hC.2.1 hC.2.2.2.2.2.1 (hC.2.2.2.2.2.2.1 _ hw) hd (k p l e s mi as bl me c H lo ls hC hP hS hL)
theorem go_ldcw {ix : Nat} {v : Int32} (hw : Cond.constant K.1.cls ix v ∈ gT) (hd : decode K.2.1 pc = .ok (.ldc_w ix, 3)) (k : Go O d K r m' (pc + 3) L (.int v :: st) m) : Go O d K r m' pc L (st) m := fun p l e s mi as bl me c H lo ls hC hP hS hL => lv_ldcw hC.1 hC.2.1 hC.2.2.2.2.2.1 (hC.2.2.2.2.2.2.1 _ hw) hd (k p l e s mi as bl me c H lo ls hC hP hS hL)
theorem go_ldc2 {ix : Nat} {v : Int64} (hw : Cond.constantLong K.1.cls ix v ∈ gT) (hd : decode K.2.1 pc = .ok (.ldc2_w ix, 3)) (k : Go O d K r m' (pc + 3) L (.long v :: st) m) : Go O d K r m' pc L (st) m := fun p l e s mi as bl me c H lo ls hC hP hS hL => lv_ldc2 hC.1 hC.2.1 hC.2.2.2.2.2.1 (hC.2.2.2.2.2.2.1 _ hw) hd (k p l e s mi as bl me c H lo ls hC hP hS hL)
theorem go_iload_n {i : Fin 4} {x : Int32} (hd : decode K.2.1 pc = .ok (.iload_n i, 1)) (hl : L[(i : Nat)]? = some (.int x)) (k : Go O d K r m' (pc + 1) L (.int x :: st) m) : Go O d K r m' pc L (st) m := fun p l e s mi as bl me c H lo ls hC hP hS hL => lv_iload_n hC.1 hC.2.1 hd rfl (hL.2.2.2 _ _ hl (fun h => by cases h)) (k p l e s mi as bl me c H lo ls hC hP hS hL)
theorem go_iload {i : Nat} {x : Int32} (hd : decode K.2.1 pc = .ok (.iload i, 2)) (hl : L[i]? = some (.int x)) (k : Go O d K r m' (pc + 2) L (.int x :: st) m) : Go O d K r m' pc L (st) m := fun p l e s mi as bl me c H lo ls hC hP hS hL => lv_iload hC.1 hC.2.1 hd (hL.2.2.2 _ _ hl (fun h => by cases h)) (k p l e s mi as bl me c H lo ls hC hP hS hL)
theorem go_istore_n {i : Fin 4} {x : Int32} {L' : List Value} (hd : decode K.2.1 pc = .ok (.istore_n i, 1)) (hi : (i : Nat) < K.2.2.1) (hl : gst L i (.int x) = L') (k : Go O d K r m' (pc + 1) L' st m) : Go O d K r m' pc L (.int x :: st) m := fun p l e s mi as bl me c H lo ls hC hP hS hL => lv_istore_n hC.1 hC.2.1 hd rfl hL.has hi rfl (fun ls' h' => k p l e s mi as bl me c H lo ls' hC hP hS (hl ▸ hL.store1 (v := .int x) hi h'))
theorem go_istore {i : Nat} {x : Int32} {L' : List Value} (hd : decode K.2.1 pc = .ok (.istore i, 2)) (hi : (i : Nat) < K.2.2.1) (hl : gst L i (.int x) = L') (k : Go O d K r m' (pc + 2) L' st m) : Go O d K r m' pc L (.int x :: st) m := fun p l e s mi as bl me c H lo ls hC hP hS hL => lv_istore hC.1 hC.2.1 hd hL.has hi rfl (fun ls' h' => k p l e s mi as bl me c H lo ls' hC hP hS (hl ▸ hL.store1 (v := .int x) hi h'))
theorem go_lload_n {i : Fin 4} {x : Int64} (hd : decode K.2.1 pc = .ok (.lload_n i, 1)) (hl : L[(i : Nat)]? = some (.long x)) (k : Go O d K r m' (pc + 1) L (.long x :: st) m) : Go O d K r m' pc L (st) m := fun p l e s mi as bl me c H lo ls hC hP hS hL => lv_lload_n hC.1 hC.2.1 hd rfl (hL.2.2.2 _ _ hl (fun h => by cases h)) (k p l e s mi as bl me c H lo ls hC hP hS hL)
theorem go_lload {i : Nat} {x : Int64} (hd : decode K.2.1 pc = .ok (.lload i, 2)) (hl : L[i]? = some (.long x)) (k : Go O d K r m' (pc + 2) L (.long x :: st) m) : Go O d K r m' pc L (st) m := fun p l e s mi as bl me c H lo ls hC hP hS hL => lv_lload hC.1 hC.2.1 hd (hL.2.2.2 _ _ hl (fun h => by cases h)) (k p l e s mi as bl me c H lo ls hC hP hS hL)
theorem go_lstore_n {i : Fin 4} {x : Int64} {L' : List Value} (hd : decode K.2.1 pc = .ok (.lstore_n i, 1)) (hi : (i : Nat) + 1 < K.2.2.1) (hl : gst2 L i (.long x) = L') (k : Go O d K r m' (pc + 1) L' st m) : Go O d K r m' pc L (.long x :: st) m := fun p l e s mi as bl me c H lo ls hC hP hS hL => lv_lstore_n hC.1 hC.2.1 hd rfl hL.has hi rfl (fun ls' h' => k p l e s mi as bl me c H lo ls' hC hP hS (hl ▸ hL.store2 (v := .long x) hi h'))
theorem go_lstore {i : Nat} {x : Int64} {L' : List Value} (hd : decode K.2.1 pc = .ok (.lstore i, 2)) (hi : (i : Nat) + 1 < K.2.2.1) (hl : gst2 L i (.long x) = L') (k : Go O d K r m' (pc + 2) L' st m) : Go O d K r m' pc L (.long x :: st) m := fun p l e s mi as bl me c H lo ls hC hP hS hL => lv_lstore hC.1 hC.2.1 hd hL.has hi rfl (fun ls' h' => k p l e s mi as bl me c H lo ls' hC hP hS (hl ▸ hL.store2 (v := .long x) hi h'))
theorem go_aload_n {i : Fin 4} {x : Nat} (hd : decode K.2.1 pc = .ok (.aload_n i, 1)) (hl : L[(i : Nat)]? = some (.ref x)) (k : Go O d K r m' (pc + 1) L (.ref x :: st) m) : Go O d K r m' pc L (st) m := fun p l e s mi as bl me c H lo ls hC hP hS hL => lv_aload_n hC.1 hC.2.1 hd rfl (hL.2.2.2 _ _ hl (fun h => by cases h)) (k p l e s mi as bl me c H lo ls hC hP hS hL)
theorem go_aload {i : Nat} {x : Nat} (hd : decode K.2.1 pc = .ok (.aload i, 2)) (hl : L[i]? = some (.ref x)) (k : Go O d K r m' (pc + 2) L (.ref x :: st) m) : Go O d K r m' pc L (st) m := fun p l e s mi as bl me c H lo ls hC hP hS hL => lv_aload hC.1 hC.2.1 hd (hL.2.2.2 _ _ hl (fun h => by cases h)) (k p l e s mi as bl me c H lo ls hC hP hS hL)
theorem go_astore_n {i : Fin 4} {x : Nat} {L' : List Value} (hd : decode K.2.1 pc = .ok (.astore_n i, 1)) (hi : (i : Nat) < K.2.2.1) (hl : gst L i (.ref x) = L') (k : Go O d K r m' (pc + 1) L' st m) : Go O d K r m' pc L (.ref x :: st) m := fun p l e s mi as bl me c H lo ls hC hP hS hL => lv_astore_n hC.1 hC.2.1 hd rfl hL.has hi rfl (fun ls' h' => k p l e s mi as bl me c H lo ls' hC hP hS (hl ▸ hL.store1 (v := .ref x) hi h'))
theorem go_astore {i : Nat} {x : Nat} {L' : List Value} (hd : decode K.2.1 pc = .ok (.astore i, 2)) (hi : (i : Nat) < K.2.2.1) (hl : gst L i (.ref x) = L') (k : Go O d K r m' (pc + 2) L' st m) : Go O d K r m' pc L (.ref x :: st) m := fun p l e s mi as bl me c H lo ls hC hP hS hL => lv_astore hC.1 hC.2.1 hd hL.has hi rfl (fun ls' h' => k p l e s mi as bl me c H lo ls' hC hP hS (hl ▸ hL.store1 (v := .ref x) hi h'))
theorem go_iinc {i : Nat} {n : Int} {x v : Int32} {L' : List Value} (hd : decode K.2.1 pc = .ok (.iinc i n, 3)) (hx : L[i]? = some (.int x)) (hi : i < K.2.2.1) (hv : x + Int32.ofInt n = v) (hl : gst L i (.int v) = L') (k : Go O d K r m' (pc + 3) L' st m) : Go O d K r m' pc L st m := by
  intro p l e s mi as bl me c H lo ls hC hP hS hL
  obtain ⟨j, hj⟩ := List.getElem?_of_mem (gLl_mem (O := O).mpr ⟨.int x, hx, (fun h => by cases h), rfl⟩)
  exact lv_iinc (k := j) hC.1 hC.2.1 hd hL.has hj hv hi rfl (fun ls' h' => k p l e s mi as bl me c H lo ls' hC hP hS (hl ▸ hL.store1 (v := .int v) hi h'))
theorem go_iadd {x y v : Int32} (hd : decode K.2.1 pc = .ok (.iadd, 1)) (hv : x + y = v) (k : Go O d K r m' (pc + 1) L (.int v :: st) m) : Go O d K r m' pc L (.int y :: .int x :: st) m := fun p l e s mi as bl me c H lo ls hC hP hS hL => lv_iadd hC.1 hC.2.1 hd (hv ▸ (k p l e s mi as bl me c H lo ls hC hP hS hL))
theorem go_isub {x y v : Int32} (hd : decode K.2.1 pc = .ok (.isub, 1)) (hv : x - y = v) (k : Go O d K r m' (pc + 1) L (.int v :: st) m) : Go O d K r m' pc L (.int y :: .int x :: st) m := fun p l e s mi as bl me c H lo ls hC hP hS hL => lv_isub hC.1 hC.2.1 hd (hv ▸ (k p l e s mi as bl me c H lo ls hC hP hS hL))
theorem go_imul {x y v : Int32} (hd : decode K.2.1 pc = .ok (.imul, 1)) (hv : x * y = v) (k : Go O d K r m' (pc + 1) L (.int v :: st) m) : Go O d K r m' pc L (.int y :: .int x :: st) m := fun p l e s mi as bl me c H lo ls hC hP hS hL => lv_imul hC.1 hC.2.1 hd (hv ▸ (k p l e s mi as bl me c H lo ls hC hP hS hL))
theorem go_iand {x y v : Int32} (hd : decode K.2.1 pc = .ok (.iand, 1)) (hv : x &&& y = v) (k : Go O d K r m' (pc + 1) L (.int v :: st) m) : Go O d K r m' pc L (.int y :: .int x :: st) m := fun p l e s mi as bl me c H lo ls hC hP hS hL => lv_iand hC.1 hC.2.1 hd (hv ▸ (k p l e s mi as bl me c H lo ls hC hP hS hL))
theorem go_ior {x y v : Int32} (hd : decode K.2.1 pc = .ok (.ior, 1)) (hv : x ||| y = v) (k : Go O d K r m' (pc + 1) L (.int v :: st) m) : Go O d K r m' pc L (.int y :: .int x :: st) m := fun p l e s mi as bl me c H lo ls hC hP hS hL => lv_ior hC.1 hC.2.1 hd (hv ▸ (k p l e s mi as bl me c H lo ls hC hP hS hL))
theorem go_ixor {x y v : Int32} (hd : decode K.2.1 pc = .ok (.ixor, 1)) (hv : x ^^^ y = v) (k : Go O d K r m' (pc + 1) L (.int v :: st) m) : Go O d K r m' pc L (.int y :: .int x :: st) m := fun p l e s mi as bl me c H lo ls hC hP hS hL => lv_ixor hC.1 hC.2.1 hd (hv ▸ (k p l e s mi as bl me c H lo ls hC hP hS hL))
theorem go_ishl {x y v : Int32} (hd : decode K.2.1 pc = .ok (.ishl, 1)) (hv : x <<< (y &&& 31) = v) (k : Go O d K r m' (pc + 1) L (.int v :: st) m) : Go O d K r m' pc L (.int y :: .int x :: st) m := fun p l e s mi as bl me c H lo ls hC hP hS hL => lv_ishl hC.1 hC.2.1 hd (hv ▸ (k p l e s mi as bl me c H lo ls hC hP hS hL))
theorem go_ishr {x y v : Int32} (hd : decode K.2.1 pc = .ok (.ishr, 1)) (hv : x >>> (y &&& 31) = v) (k : Go O d K r m' (pc + 1) L (.int v :: st) m) : Go O d K r m' pc L (.int y :: .int x :: st) m := fun p l e s mi as bl me c H lo ls hC hP hS hL => lv_ishr hC.1 hC.2.1 hd (hv ▸ (k p l e s mi as bl me c H lo ls hC hP hS hL))
theorem go_idiv {x y v : Int32} (hd : decode K.2.1 pc = .ok (.idiv, 1)) (hne : ¬ y = 0) (hv : x / y = v) (k : Go O d K r m' (pc + 1) L (.int v :: st) m) : Go O d K r m' pc L (.int y :: .int x :: st) m := fun p l e s mi as bl me c H lo ls hC hP hS hL => lv_idiv hC.1 hC.2.1 hd hne (hv ▸ (k p l e s mi as bl me c H lo ls hC hP hS hL))
theorem go_irem {x y v : Int32} (hd : decode K.2.1 pc = .ok (.irem, 1)) (hne : ¬ y = 0) (hv : x - x / y * y = v) (k : Go O d K r m' (pc + 1) L (.int v :: st) m) : Go O d K r m' pc L (.int y :: .int x :: st) m := fun p l e s mi as bl me c H lo ls hC hP hS hL => lv_irem hC.1 hC.2.1 hd hne (hv ▸ (k p l e s mi as bl me c H lo ls hC hP hS hL))
theorem go_iushr {x y v : Int32} (hd : decode K.2.1 pc = .ok (.iushr, 1)) (hv : (x.toUInt32 >>> (y.toUInt32 &&& Int32.toUInt32 31)).toInt32 = v) (k : Go O d K r m' (pc + 1) L (.int v :: st) m) : Go O d K r m' pc L (.int y :: .int x :: st) m := fun p l e s mi as bl me c H lo ls hC hP hS hL => lv_iushr hC.1 hC.2.1 hd hv (k p l e s mi as bl me c H lo ls hC hP hS hL)
theorem go_ladd {x y v : Int64} (hd : decode K.2.1 pc = .ok (.ladd, 1)) (hv : x + y = v) (k : Go O d K r m' (pc + 1) L (.long v :: st) m) : Go O d K r m' pc L (.long y :: .long x :: st) m := fun p l e s mi as bl me c H lo ls hC hP hS hL => lv_ladd hC.1 hC.2.1 hd (hv ▸ (k p l e s mi as bl me c H lo ls hC hP hS hL))
theorem go_lsub {x y v : Int64} (hd : decode K.2.1 pc = .ok (.lsub, 1)) (hv : x - y = v) (k : Go O d K r m' (pc + 1) L (.long v :: st) m) : Go O d K r m' pc L (.long y :: .long x :: st) m := fun p l e s mi as bl me c H lo ls hC hP hS hL => lv_lsub hC.1 hC.2.1 hd (hv ▸ (k p l e s mi as bl me c H lo ls hC hP hS hL))
theorem go_lmul {x y v : Int64} (hd : decode K.2.1 pc = .ok (.lmul, 1)) (hv : x * y = v) (k : Go O d K r m' (pc + 1) L (.long v :: st) m) : Go O d K r m' pc L (.long y :: .long x :: st) m := fun p l e s mi as bl me c H lo ls hC hP hS hL => lv_lmul hC.1 hC.2.1 hd (hv ▸ (k p l e s mi as bl me c H lo ls hC hP hS hL))
theorem go_land {x y v : Int64} (hd : decode K.2.1 pc = .ok (.land, 1)) (hv : x &&& y = v) (k : Go O d K r m' (pc + 1) L (.long v :: st) m) : Go O d K r m' pc L (.long y :: .long x :: st) m := fun p l e s mi as bl me c H lo ls hC hP hS hL => lv_land hC.1 hC.2.1 hd (hv ▸ (k p l e s mi as bl me c H lo ls hC hP hS hL))
theorem go_lor {x y v : Int64} (hd : decode K.2.1 pc = .ok (.lor, 1)) (hv : x ||| y = v) (k : Go O d K r m' (pc + 1) L (.long v :: st) m) : Go O d K r m' pc L (.long y :: .long x :: st) m := fun p l e s mi as bl me c H lo ls hC hP hS hL => lv_lor hC.1 hC.2.1 hd (hv ▸ (k p l e s mi as bl me c H lo ls hC hP hS hL))
theorem go_ldiv {x y v : Int64} (hd : decode K.2.1 pc = .ok (.ldiv, 1)) (hne : ¬ y = 0) (hv : x / y = v) (k : Go O d K r m' (pc + 1) L (.long v :: st) m) : Go O d K r m' pc L (.long y :: .long x :: st) m := fun p l e s mi as bl me c H lo ls hC hP hS hL => lv_ldiv hC.1 hC.2.1 hd hne (hv ▸ (k p l e s mi as bl me c H lo ls hC hP hS hL))
theorem go_lrem {x y v : Int64} (hd : decode K.2.1 pc = .ok (.lrem, 1)) (hne : ¬ y = 0) (hv : x - x / y * y = v) (k : Go O d K r m' (pc + 1) L (.long v :: st) m) : Go O d K r m' pc L (.long y :: .long x :: st) m := fun p l e s mi as bl me c H lo ls hC hP hS hL => lv_lrem hC.1 hC.2.1 hd hne (hv ▸ (k p l e s mi as bl me c H lo ls hC hP hS hL))
theorem go_lushr {x v : Int64} {y : Int32} (hd : decode K.2.1 pc = .ok (.lushr, 1)) (hv : (x.toUInt64 >>> (y.toInt64.toUInt64 &&& Int64.toUInt64 63)).toInt64 = v) (k : Go O d K r m' (pc + 1) L (.long v :: st) m) : Go O d K r m' pc L (.int y :: .long x :: st) m := fun p l e s mi as bl me c H lo ls hC hP hS hL => lv_lushr hC.1 hC.2.1 hd hv (k p l e s mi as bl me c H lo ls hC hP hS hL)
theorem go_lshl {x v : Int64} {y : Int32} (hd : decode K.2.1 pc = .ok (.lshl, 1)) (hv : x <<< (y.toInt64 &&& 63) = v) (k : Go O d K r m' (pc + 1) L (.long v :: st) m) : Go O d K r m' pc L (.int y :: .long x :: st) m := fun p l e s mi as bl me c H lo ls hC hP hS hL => lv_lshl hC.1 hC.2.1 hd hv (k p l e s mi as bl me c H lo ls hC hP hS hL)
theorem go_lshr {x v : Int64} {y : Int32} (hd : decode K.2.1 pc = .ok (.lshr, 1)) (hv : x >>> (y.toInt64 &&& 63) = v) (k : Go O d K r m' (pc + 1) L (.long v :: st) m) : Go O d K r m' pc L (.int y :: .long x :: st) m := fun p l e s mi as bl me c H lo ls hC hP hS hL => lv_lshr hC.1 hC.2.1 hd hv (k p l e s mi as bl me c H lo ls hC hP hS hL)
theorem go_lcmp {x y : Int64} {v : Int32} (hd : decode K.2.1 pc = .ok (.lcmp, 1)) (hv : lg_cmp x y = v) (k : Go O d K r m' (pc + 1) L (.int v :: st) m) : Go O d K r m' pc L (.long y :: .long x :: st) m := fun p l e s mi as bl me c H lo ls hC hP hS hL => W.lcmp hC.1 hC.2.1 hd (hv ▸ (k p l e s mi as bl me c H lo ls hC hP hS hL))
theorem go_i2l {x : Int32} {v : Int64} (hd : decode K.2.1 pc = .ok (.i2l, 1)) (hv : x.toInt64 = v) (k : Go O d K r m' (pc + 1) L (.long v :: st) m) : Go O d K r m' pc L (.int x :: st) m := fun p l e s mi as bl me c H lo ls hC hP hS hL => lv_i2l hC.1 hC.2.1 hd hv (k p l e s mi as bl me c H lo ls hC hP hS hL)
theorem go_l2i {x : Int64} {v : Int32} (hd : decode K.2.1 pc = .ok (.l2i, 1)) (hv : x.toInt32 = v) (k : Go O d K r m' (pc + 1) L (.int v :: st) m) : Go O d K r m' pc L (.long x :: st) m := fun p l e s mi as bl me c H lo ls hC hP hS hL => lv_l2i hC.1 hC.2.1 hd hv (k p l e s mi as bl me c H lo ls hC hP hS hL)
theorem go_dup {v : Value} (hd : decode K.2.1 pc = .ok (.dup, 1)) (hc : v.category = 1) (k : Go O d K r m' (pc + 1) L (v :: v :: st) m) : Go O d K r m' pc L (v :: st) m := fun p l e s mi as bl me c H lo ls hC hP hS hL => lv_dup hC.1 hC.2.1 hd ((gcat O.1 v).trans hc) (k p l e s mi as bl me c H lo ls hC hP hS hL)
theorem go_pop {v : Value} (hd : decode K.2.1 pc = .ok (.pop, 1)) (hc : v.category = 1) (k : Go O d K r m' (pc + 1) L (st) m) : Go O d K r m' pc L (v :: st) m := fun p l e s mi as bl me c H lo ls hC hP hS hL => lv_pop hC.1 hC.2.1 hd ((gcat O.1 v).trans hc) (k p l e s mi as bl me c H lo ls hC hP hS hL)
theorem go_dup2 {v w : Value} (hd : decode K.2.1 pc = .ok (.dup2, 1)) (hc : v.category = 1) (hc2 : w.category = 1) (k : Go O d K r m' (pc + 1) L (v :: w :: v :: w :: st) m) : Go O d K r m' pc L (v :: w :: st) m := fun p l e s mi as bl me c H lo ls hC hP hS hL => lv_dup2_11 hC.1 hC.2.1 hd ((gcat O.1 v).trans hc) ((gcat O.1 w).trans hc2) (k p l e s mi as bl me c H lo ls hC hP hS hL)
theorem go_if_eq {x : Int32} {off : Int} (tgt : Nat) (hd : decode K.2.1 pc = .ok (.ifCond .eq off, 3)) (ht : (pc : Int) + off = (tgt : Int)) (kt : x = 0 → Go O d K r m' tgt L st m) (kf : ¬ x = 0 → Go O d K r m' (pc + 3) L st m) : Go O d K r m' pc L (.int x :: st) m := fun p l e s mi as bl me c H lo ls hC hP hS hL => lv_if_eq hC.1 hC.2.1 hd ht (fun h => kt h p l e s mi as bl me c H lo ls hC hP hS hL) (fun h => kf h p l e s mi as bl me c H lo ls hC hP hS hL)
theorem go_icmp_eq {x y : Int32} {off : Int} (tgt : Nat) (hd : decode K.2.1 pc = .ok (.if_icmp .eq off, 3)) (ht : (pc : Int) + off = (tgt : Int)) (kt : x = y → Go O d K r m' tgt L st m) (kf : ¬ x = y → Go O d K r m' (pc + 3) L st m) : Go O d K r m' pc L (.int y :: .int x :: st) m := fun p l e s mi as bl me c H lo ls hC hP hS hL => lv_icmp_eq hC.1 hC.2.1 hd ht (fun h => kt h p l e s mi as bl me c H lo ls hC hP hS hL) (fun h => kf h p l e s mi as bl me c H lo ls hC hP hS hL)
theorem go_if_ne {x : Int32} {off : Int} (tgt : Nat) (hd : decode K.2.1 pc = .ok (.ifCond .ne off, 3)) (ht : (pc : Int) + off = (tgt : Int)) (kt : ¬ x = 0 → Go O d K r m' tgt L st m) (kf : x = 0 → Go O d K r m' (pc + 3) L st m) : Go O d K r m' pc L (.int x :: st) m := fun p l e s mi as bl me c H lo ls hC hP hS hL => lv_if_ne hC.1 hC.2.1 hd ht (fun h => kt h p l e s mi as bl me c H lo ls hC hP hS hL) (fun h => kf h p l e s mi as bl me c H lo ls hC hP hS hL)
theorem go_icmp_ne {x y : Int32} {off : Int} (tgt : Nat) (hd : decode K.2.1 pc = .ok (.if_icmp .ne off, 3)) (ht : (pc : Int) + off = (tgt : Int)) (kt : ¬ x = y → Go O d K r m' tgt L st m) (kf : x = y → Go O d K r m' (pc + 3) L st m) : Go O d K r m' pc L (.int y :: .int x :: st) m := fun p l e s mi as bl me c H lo ls hC hP hS hL => lv_icmp_ne hC.1 hC.2.1 hd ht (fun h => kt h p l e s mi as bl me c H lo ls hC hP hS hL) (fun h => kf h p l e s mi as bl me c H lo ls hC hP hS hL)
theorem go_if_lt {x : Int32} {off : Int} (tgt : Nat) (hd : decode K.2.1 pc = .ok (.ifCond .lt off, 3)) (ht : (pc : Int) + off = (tgt : Int)) (kt : x < 0 → Go O d K r m' tgt L st m) (kf : ¬ x < 0 → Go O d K r m' (pc + 3) L st m) : Go O d K r m' pc L (.int x :: st) m := fun p l e s mi as bl me c H lo ls hC hP hS hL => lv_if_lt hC.1 hC.2.1 hd ht (fun h => kt h p l e s mi as bl me c H lo ls hC hP hS hL) (fun h => kf h p l e s mi as bl me c H lo ls hC hP hS hL)
theorem go_icmp_lt {x y : Int32} {off : Int} (tgt : Nat) (hd : decode K.2.1 pc = .ok (.if_icmp .lt off, 3)) (ht : (pc : Int) + off = (tgt : Int)) (kt : x < y → Go O d K r m' tgt L st m) (kf : ¬ x < y → Go O d K r m' (pc + 3) L st m) : Go O d K r m' pc L (.int y :: .int x :: st) m := fun p l e s mi as bl me c H lo ls hC hP hS hL => lv_icmp_lt hC.1 hC.2.1 hd ht (fun h => kt h p l e s mi as bl me c H lo ls hC hP hS hL) (fun h => kf h p l e s mi as bl me c H lo ls hC hP hS hL)
theorem go_if_ge {x : Int32} {off : Int} (tgt : Nat) (hd : decode K.2.1 pc = .ok (.ifCond .ge off, 3)) (ht : (pc : Int) + off = (tgt : Int)) (kt : 0 ≤ x → Go O d K r m' tgt L st m) (kf : ¬ 0 ≤ x → Go O d K r m' (pc + 3) L st m) : Go O d K r m' pc L (.int x :: st) m := fun p l e s mi as bl me c H lo ls hC hP hS hL => lv_if_ge hC.1 hC.2.1 hd ht (fun h => kt h p l e s mi as bl me c H lo ls hC hP hS hL) (fun h => kf h p l e s mi as bl me c H lo ls hC hP hS hL)
theorem go_icmp_ge {x y : Int32} {off : Int} (tgt : Nat) (hd : decode K.2.1 pc = .ok (.if_icmp .ge off, 3)) (ht : (pc : Int) + off = (tgt : Int)) (kt : y ≤ x → Go O d K r m' tgt L st m) (kf : ¬ y ≤ x → Go O d K r m' (pc + 3) L st m) : Go O d K r m' pc L (.int y :: .int x :: st) m := fun p l e s mi as bl me c H lo ls hC hP hS hL => lv_icmp_ge hC.1 hC.2.1 hd ht (fun h => kt h p l e s mi as bl me c H lo ls hC hP hS hL) (fun h => kf h p l e s mi as bl me c H lo ls hC hP hS hL)
theorem go_if_gt {x : Int32} {off : Int} (tgt : Nat) (hd : decode K.2.1 pc = .ok (.ifCond .gt off, 3)) (ht : (pc : Int) + off = (tgt : Int)) (kt : 0 < x → Go O d K r m' tgt L st m) (kf : ¬ 0 < x → Go O d K r m' (pc + 3) L st m) : Go O d K r m' pc L (.int x :: st) m := fun p l e s mi as bl me c H lo ls hC hP hS hL => lv_if_gt hC.1 hC.2.1 hd ht (fun h => kt h p l e s mi as bl me c H lo ls hC hP hS hL) (fun h => kf h p l e s mi as bl me c H lo ls hC hP hS hL)
theorem go_icmp_gt {x y : Int32} {off : Int} (tgt : Nat) (hd : decode K.2.1 pc = .ok (.if_icmp .gt off, 3)) (ht : (pc : Int) + off = (tgt : Int)) (kt : y < x → Go O d K r m' tgt L st m) (kf : ¬ y < x → Go O d K r m' (pc + 3) L st m) : Go O d K r m' pc L (.int y :: .int x :: st) m := fun p l e s mi as bl me c H lo ls hC hP hS hL => lv_icmp_gt hC.1 hC.2.1 hd ht (fun h => kt h p l e s mi as bl me c H lo ls hC hP hS hL) (fun h => kf h p l e s mi as bl me c H lo ls hC hP hS hL)
theorem go_if_le {x : Int32} {off : Int} (tgt : Nat) (hd : decode K.2.1 pc = .ok (.ifCond .le off, 3)) (ht : (pc : Int) + off = (tgt : Int)) (kt : x ≤ 0 → Go O d K r m' tgt L st m) (kf : ¬ x ≤ 0 → Go O d K r m' (pc + 3) L st m) : Go O d K r m' pc L (.int x :: st) m := fun p l e s mi as bl me c H lo ls hC hP hS hL => lv_if_le hC.1 hC.2.1 hd ht (fun h => kt h p l e s mi as bl me c H lo ls hC hP hS hL) (fun h => kf h p l e s mi as bl me c H lo ls hC hP hS hL)
theorem go_icmp_le {x y : Int32} {off : Int} (tgt : Nat) (hd : decode K.2.1 pc = .ok (.if_icmp .le off, 3)) (ht : (pc : Int) + off = (tgt : Int)) (kt : x ≤ y → Go O d K r m' tgt L st m) (kf : ¬ x ≤ y → Go O d K r m' (pc + 3) L st m) : Go O d K r m' pc L (.int y :: .int x :: st) m := fun p l e s mi as bl me c H lo ls hC hP hS hL => lv_icmp_le hC.1 hC.2.1 hd ht (fun h => kt h p l e s mi as bl me c H lo ls hC hP hS hL) (fun h => kf h p l e s mi as bl me c H lo ls hC hP hS hL)
theorem go_goto {off : Int} (tgt : Nat) (hd : decode K.2.1 pc = .ok (.goto off, 3)) (ht : (pc : Int) + off = (tgt : Int)) (k : Go O d K r m' tgt L st m) : Go O d K r m' pc L st m := fun p l e s mi as bl me c H lo ls hC hP hS hL => lv_goto hC.1 hC.2.1 hd ht (k p l e s mi as bl me c H lo ls hC hP hS hL)
theorem go_tableOut {dflt lo hi : Int} {offs : Array Int} {len : Nat} {x : Int32} (tgt : Nat) (hd : decode K.2.1 pc = .ok (.tableswitch dflt lo hi offs, len)) (h : x.toInt < lo ∨ hi < x.toInt) (ht : (pc : Int) + dflt = (tgt : Int)) (k : Go O d K r m' tgt L st m) : Go O d K r m' pc L (.int x :: st) m := fun p l e s mi as bl me c H lo' ls hC hP hS hL => lv_tableOut hC.1 hC.2.1 hd h ht (k p l e s mi as bl me c H lo' ls hC hP hS hL)
theorem go_tableIn {dflt lo hi : Int} {offs : Array Int} {len : Nat} {x : Int32} {off : Int} (tgt : Nat) (hd : decode K.2.1 pc = .ok (.tableswitch dflt lo hi offs, len)) (h1 : ¬ x.toInt < lo) (h2 : ¬ hi < x.toInt) (ho : offs[(x.toInt - lo).toNat]? = some off) (ht : (pc : Int) + off = (tgt : Int)) (k : Go O d K r m' tgt L st m) : Go O d K r m' pc L (.int x :: st) m := fun p l e s mi as bl me c H lo' ls hC hP hS hL => lv_tableIn hC.1 hC.2.1 hd h1 h2 ho ht (k p l e s mi as bl me c H lo' ls hC hP hS hL)
theorem go_lookup {dflt : Int} {ps : Array (Int × Int)} {len : Nat} {x : Int32} {off : Int} (tgt : Nat) (hd : decode K.2.1 pc = .ok (.lookupswitch dflt ps, len)) (hp : (ps.toList.zip (ps.toList.drop 1)).all (fun (a, next) => a.1 < next.1) = true) (ho : Op.lookupswitch.offset ps.toList dflt x.toInt = off) (ht : (pc : Int) + off = (tgt : Int)) (k : Go O d K r m' tgt L st m) : Go O d K r m' pc L (.int x :: st) m := fun p l e s mi as bl me c H lo ls hC hP hS hL => lv_lookup hC.1 hC.2.1 hd hp ho ht (k p l e s mi as bl me c H lo ls hC hP hS hL)
theorem go_top {x : Int32} (y : Int32) (h : x = y) (k : Go O d K r m' pc L (.int y :: st) m) : Go O d K r m' pc L (.int x :: st) m := h ▸ k
theorem go_topl {x : Int64} (y : Int64) (h : x = y) (k : Go O d K r m' pc L (.long y :: st) m) : Go O d K r m' pc L (.long x :: st) m := h ▸ k
theorem go_mem {m1 : gMem} (h : m = m1) (k : Go O d K r m' pc L st m1) : Go O d K r m' pc L st m := h ▸ k
theorem go_iret {v : Int32} (hd : decode K.2.1 pc = .ok (.ireturn, 1)) (ht : K.2.2.2 = some .int) (hr : r = some (.int v)) (hm : m' = m) : Go O d K r m' pc L [.int v] m := by
  subst hr; subst hm
  exact fun p l e s mi as bl me c H lo ls hC hP hS hL => W.iret hC.1 hC.2.1 (hC.2.2.2.1.trans ht) (fun t h _ => ⟨⟨rfl, by rw [h]; exact hP⟩, hS.F h⟩) hS.2.2 hd hC.2.2.2.2.1
theorem go_zret {v : Int32} (hd : decode K.2.1 pc = .ok (.ireturn, 1)) (ht : K.2.2.2 = some .boolean) (hz : v = 0 ∨ v = 1) (hr : r = some (.int v)) (hm : m' = m) : Go O d K r m' pc L [.int v] m := by
  subst hr; subst hm
  exact fun p l e s mi as bl me c H lo ls hC hP hS hL => W.zret hC.1 hC.2.1 (hC.2.2.2.1.trans ht) (by rcases hz with rfl | rfl <;> rfl) (fun t h _ => ⟨⟨rfl, by rw [h]; exact hP⟩, hS.F h⟩) hS.2.2 hd hC.2.2.2.2.1
theorem go_lret {v : Int64} (hd : decode K.2.1 pc = .ok (.lreturn, 1)) (ht : K.2.2.2 = some .long) (hr : r = some (.long v)) (hm : m' = m) : Go O d K r m' pc L [.long v] m := by
  subst hr; subst hm
  exact fun p l e s mi as bl me c H lo ls hC hP hS hL => W.lret hC.1 hC.2.1 (hC.2.2.2.1.trans ht) (fun t h _ => ⟨⟨rfl, by rw [h]; exact hP⟩, hS.F h⟩) hS.2.2 hd hC.2.2.2.2.1
theorem go_vret (hd : decode K.2.1 pc = .ok (.return_, 1)) (ht : K.2.2.2 = none) (hr : r = none) (hm : m' = m) : Go O d K r m' pc L [] m := by
  subst hr; subst hm
  exact fun p l e s mi as bl me c H lo ls hC hP hS hL => W.vret hC.1 hC.2.1 (hC.2.2.2.1.trans ht) (fun t h _ => ⟨⟨rfl, by rw [h]; exact hP⟩, hS.F h⟩) hS.2.2 hd hC.2.2.2.2.1
end GoRows
