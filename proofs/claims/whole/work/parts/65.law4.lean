/-! THE LAW'S START -/
def lw_w6 (O : mOm) (h : Nat) (u : List Nat) : va_W := [(h, .inr (6, [.ref (u.getD 0 0), .ref (u.getD 2 0), .ref (u.getD 7 0), .ref (u.getD 12 0), .ref (u.getD 23 0), .ref (u.getD 25 0), .ref (u.getD 40 0), .ref (u.getD 28 0), .ref (u.getD 34 0)])), ((u.getD 0 0), .inr (3, [.ref (u.getD 1 0), .int 0])), ((u.getD 1 0), .inl (O.2.1, 72, .inl (fun _ => 0))), ((u.getD 2 0), .inr (5, [.ref (u.getD 3 0), .ref (u.getD 4 0), .ref (u.getD 5 0), .ref (u.getD 6 0), .int 0, .int 0])), ((u.getD 3 0), .inl (O.2.1, 3, .inl (fun _ => 0))), ((u.getD 4 0), .inl (O.2.1, 18, .inl (fun _ => 0))), ((u.getD 5 0), .inl (O.2.1, 18, .inl (fun _ => 0))), ((u.getD 6 0), .inl (O.2.1, 9, .inl (fun _ => 0))), ((u.getD 7 0), .inr (5, [.ref (u.getD 8 0), .ref (u.getD 9 0), .ref (u.getD 10 0), .ref (u.getD 11 0), .int 0, .int 0])), ((u.getD 8 0), .inl (O.2.1, 3, .inl (fun _ => 0))), ((u.getD 9 0), .inl (O.2.1, 18, .inl (fun _ => 0))), ((u.getD 10 0), .inl (O.2.1, 18, .inl (fun _ => 0))), ((u.getD 11 0), .inl (O.2.1, 9, .inl (fun _ => 0))), ((u.getD 12 0), .inl (O.2.2.2, 2, .inr (.inr (.inr (.inr (va_up (va_up (fun _ => none) 0 (some (u.getD 13 0))) 1 (some (u.getD 18 0)))))))), ((u.getD 13 0), .inr (5, [.ref (u.getD 14 0), .ref (u.getD 15 0), .ref (u.getD 16 0), .ref (u.getD 17 0), .int 0, .int 0])), ((u.getD 14 0), .inl (O.2.1, 3, .inl (fun _ => 0))), ((u.getD 15 0), .inl (O.2.1, 18, .inl (fun _ => 0))), ((u.getD 16 0), .inl (O.2.1, 18, .inl (fun _ => 0))), ((u.getD 17 0), .inl (O.2.1, 9, .inl (fun _ => 0))), ((u.getD 18 0), .inr (5, [.ref (u.getD 19 0), .ref (u.getD 20 0), .ref (u.getD 21 0), .ref (u.getD 22 0), .int 0, .int 0])), ((u.getD 19 0), .inl (O.2.1, 3, .inl (fun _ => 0))), ((u.getD 20 0), .inl (O.2.1, 18, .inl (fun _ => 0))), ((u.getD 21 0), .inl (O.2.1, 18, .inl (fun _ => 0))), ((u.getD 22 0), .inl (O.2.1, 9, .inl (fun _ => 0))), ((u.getD 23 0), .inr (0, [.ref (u.getD 24 0), .int 0])), ((u.getD 24 0), .inl (O.2.1, 16, .inl (fun _ => 0))), ((u.getD 25 0), .inr (4, [.ref (u.getD 26 0), .ref (u.getD 27 0), .int 0])), ((u.getD 26 0), .inl (O.2.1, 6, .inl (fun _ => 0))), ((u.getD 27 0), .inl (O.2.1, 6, .inl (fun _ => 0))), ((u.getD 28 0), .inr (1, [.ref (u.getD 29 0), .ref (u.getD 30 0), .ref (u.getD 31 0), .ref (u.getD 32 0), .ref (u.getD 33 0), .int 0, .int 0, .int 0])), ((u.getD 29 0), .inl (O.2.1, 36, .inl (fun _ => 0))), ((u.getD 30 0), .inl (O.2.1, 18, .inl (fun _ => 0))), ((u.getD 31 0), .inl (O.2.1, 3, .inl (fun _ => 0))), ((u.getD 32 0), .inl (O.2.1, 3, .inl (fun _ => 0))), ((u.getD 33 0), .inl (O.2.1, 3, .inl (fun _ => 0))), ((u.getD 34 0), .inr (1, [.ref (u.getD 35 0), .ref (u.getD 36 0), .ref (u.getD 37 0), .ref (u.getD 38 0), .ref (u.getD 39 0), .int 0, .int 0, .int 0])), ((u.getD 35 0), .inl (O.2.1, 36, .inl (fun _ => 0))), ((u.getD 36 0), .inl (O.2.1, 18, .inl (fun _ => 0))), ((u.getD 37 0), .inl (O.2.1, 3, .inl (fun _ => 0))), ((u.getD 38 0), .inl (O.2.1, 3, .inl (fun _ => 0))), ((u.getD 39 0), .inl (O.2.1, 3, .inl (fun _ => 0))), ((u.getD 40 0), .inr (2, [.ref (u.getD 41 0), .ref (u.getD 42 0), .ref (u.getD 43 0), .ref (u.getD 44 0), .ref (u.getD 28 0), .int 0, .int 0])), ((u.getD 41 0), .inl (O.2.1, 384, .inl (fun _ => 0))), ((u.getD 42 0), .inl (O.2.1, 64, .inl (fun _ => 0))), ((u.getD 43 0), .inl (O.2.1, 640, .inl (fun _ => 0))), ((u.getD 44 0), .inl (O.2.1, 8, .inl (fun _ => 0)))]
def lw_w7 (O : mOm) (h : Nat) (u : List Nat) : va_W := [(h, .inr (7, [.int 0, .ref (u.getD 0 0), .int 0, .int 0, .int 0, .int 0, .int 0, .ref (u.getD 1 0), .ref (u.getD 2 0), .ref (u.getD 3 0), .ref (u.getD 4 0), .int 0, .ref (u.getD 5 0), .int 0, .int 0, .int 0, .ref (u.getD 6 0), .ref (u.getD 7 0), .ref (u.getD 8 0), .ref (u.getD 9 0), .ref (u.getD 10 0), .int 0, .ref (u.getD 11 0), .ref (u.getD 12 0), .ref (u.getD 13 0), .int 0, .ref (u.getD 14 0), .ref (u.getD 15 0), .ref (u.getD 16 0), .ref (u.getD 17 0), .ref (u.getD 18 0), .ref (u.getD 19 0), .ref (u.getD 20 0), .ref (u.getD 21 0)])), ((u.getD 0 0), .inl (O.2.1, 72, .inl (fun _ => 0))), ((u.getD 1 0), .inl (O.2.1, 36, .inl (fun _ => 0))), ((u.getD 2 0), .inl (O.2.1, 3, .inl (fun _ => 0))), ((u.getD 3 0), .inl (O.2.1, 3, .inl (fun _ => 0))), ((u.getD 4 0), .inl (O.2.1, 3, .inl (fun _ => 0))), ((u.getD 5 0), .inl (O.2.1, 58, .inl (fun _ => 0))), ((u.getD 6 0), .inl (O.2.1, 36, .inl (fun _ => 0))), ((u.getD 7 0), .inl (O.2.1, 3, .inl (fun _ => 0))), ((u.getD 8 0), .inl (O.2.1, 3, .inl (fun _ => 0))), ((u.getD 9 0), .inl (O.2.1, 3, .inl (fun _ => 0))), ((u.getD 10 0), .inl (O.2.1, 928, .inl (fun _ => 0))), ((u.getD 11 0), .inl (O.2.1, 116, .inl (fun _ => 0))), ((u.getD 12 0), .inl (O.2.2.1, 2, .inl (fun _ => 0))), ((u.getD 13 0), .inl (O.2.1, 58, .inl (fun _ => 0))), ((u.getD 14 0), .inl (O.2.1, 8, .inl (fun _ => 0))), ((u.getD 15 0), .inl (O.2.1, 8, .inl (fun _ => 0))), ((u.getD 16 0), .inl (O.2.2.1, 8, .inl (fun _ => 0))), ((u.getD 17 0), .inl (O.2.1, 448, .inl (fun _ => 0))), ((u.getD 18 0), .inl (O.2.1, 640, .inl (fun _ => 0))), ((u.getD 19 0), .inl (O.2.1, 640, .inl (fun _ => 0))), ((u.getD 20 0), .inl (O.2.2.1, 640, .inl (fun _ => 0))), ((u.getD 21 0), .inl (O.2.2.1, 640, .inl (fun _ => 0)))]
theorem lw_i6 {O : mOm} (h : Nat) : Cm O 40 45 1570 kX6_init [.ref h] [(h, .inr (6, [.null, .null, .null, .null, .null, .null, .null, .null, .null]))] (lw_w6 O h) := c_init_X6 (d := 38) h
theorem lw_i7 {O : mOm} (h : Nat) : Cm O 40 22 4356 kX7_init [.ref h] [(h, .inr (7, [.int 0, .null, .int 0, .int 0, .int 0, .int 0, .int 0, .null, .null, .null, .null, .int 0, .null, .int 0, .int 0, .int 0, .null, .null, .null, .null, .null, .int 0, .null, .null, .null, .int 0, .null, .null, .null, .null, .null, .null, .null, .null]))] (lw_w7 O h) := c_init_X7 (d := 39) h
def lw_ad (q0 q1 tc b : Nat) (u u2 : List Nat) : Nat → Nat := fun k => bif k == 0 then q0 else bif Nat.blt k 46 then u.getD (k - 1) 0 else bif k == 46 then q1 else bif Nat.blt k 69 then u2.getD (k - 47) 0 else bif k == 69 then tc else b
def lw_m0 : gMem := (fun _ _ => 0, fun q => bif q == 1 then 35 else 29)
theorem lw_inv0 : Inv lw_m0 := by
  refine ⟨0, 0, 0, 0, 0, 0, 0, fun _ => 0, Or.inl ⟨rfl, rfl⟩, ⟨rfl, by omega, rfl, by omega, rfl, by omega, fun p h hp => absurd hp (by omega), fun n hn => absurd hn (by omega), fun n hn => absurd hn (by omega)⟩, ⟨rfl, rfl, rfl, fun p h hp => absurd hp (by omega), fun h a hh ha => rfl, fun n hn => absurd hn (by omega)⟩, ⟨⟨rfl, fun n hn => rfl, fun p n hp hn => rfl, fun p n hp hn => rfl, fun n a hn ha => rfl⟩, rfl, by omega, fun n hn => ⟨0, by omega, rfl⟩, fun n hn => ?_, fun n h3 hn => absurd hn (by omega), fun e => absurd e (by omega)⟩, ⟨by omega, rfl, rfl, fun _ => lw_m0.1 52, fun _ => 0, PgE.rf _, rfl, fun i hi => absurd hi (by omega)⟩, fun s hs => ⟨false, rfl, rfl, fun z => by cases z⟩, ⟨by omega, rfl, rfl, fun i hi => absurd hi (by omega), fun h hh => ⟨rfl, rfl⟩⟩, ⟨by omega, rfl, rfl, fun i hi => absurd hi (by omega)⟩⟩
  show (nI 0 + 0 + 0 + 0 : Int32) = 0
  decide +kernel
theorem lw_arr {cA : ClassId} {n : Nat} {f g : Nat → Value} (h : ∀ j, j < n → f j = g j) : arrV cA n f = arrV cA n g := by
  have e : (fun j : Fin n => f j.val) = fun j : Fin n => g j.val := funext fun j => h j.val j.isLt
  unfold arrV
  rw [e]
set_option maxRecDepth 20000 in
theorem lw_at {O : mOm} {q0 q1 tc b : Nat} {u u2 : List Nat} : ∀ k, k < 69 → ∃ e, (lw_w6 O q0 u ++ lw_w7 O q1 u2)[k]? = some (lw_ad q0 q1 tc b u u2 k, e) := by
  intro k hk
  match k, hk with
  | 0, _ => exact ⟨_, rfl⟩
  | 1, _ => exact ⟨_, rfl⟩
  | 2, _ => exact ⟨_, rfl⟩
  | 3, _ => exact ⟨_, rfl⟩
  | 4, _ => exact ⟨_, rfl⟩
  | 5, _ => exact ⟨_, rfl⟩
  | 6, _ => exact ⟨_, rfl⟩
  | 7, _ => exact ⟨_, rfl⟩
  | 8, _ => exact ⟨_, rfl⟩
  | 9, _ => exact ⟨_, rfl⟩
  | 10, _ => exact ⟨_, rfl⟩
  | 11, _ => exact ⟨_, rfl⟩
  | 12, _ => exact ⟨_, rfl⟩
  | 13, _ => exact ⟨_, rfl⟩
  | 14, _ => exact ⟨_, rfl⟩
  | 15, _ => exact ⟨_, rfl⟩
  | 16, _ => exact ⟨_, rfl⟩
  | 17, _ => exact ⟨_, rfl⟩
  | 18, _ => exact ⟨_, rfl⟩
  | 19, _ => exact ⟨_, rfl⟩
  | 20, _ => exact ⟨_, rfl⟩
  | 21, _ => exact ⟨_, rfl⟩
  | 22, _ => exact ⟨_, rfl⟩
  | 23, _ => exact ⟨_, rfl⟩
  | 24, _ => exact ⟨_, rfl⟩
  | 25, _ => exact ⟨_, rfl⟩
  | 26, _ => exact ⟨_, rfl⟩
  | 27, _ => exact ⟨_, rfl⟩
  | 28, _ => exact ⟨_, rfl⟩
  | 29, _ => exact ⟨_, rfl⟩
  | 30, _ => exact ⟨_, rfl⟩
  | 31, _ => exact ⟨_, rfl⟩
  | 32, _ => exact ⟨_, rfl⟩
  | 33, _ => exact ⟨_, rfl⟩
  | 34, _ => exact ⟨_, rfl⟩
  | 35, _ => exact ⟨_, rfl⟩
  | 36, _ => exact ⟨_, rfl⟩
  | 37, _ => exact ⟨_, rfl⟩
  | 38, _ => exact ⟨_, rfl⟩
  | 39, _ => exact ⟨_, rfl⟩
  | 40, _ => exact ⟨_, rfl⟩
  | 41, _ => exact ⟨_, rfl⟩
  | 42, _ => exact ⟨_, rfl⟩
  | 43, _ => exact ⟨_, rfl⟩
  | 44, _ => exact ⟨_, rfl⟩
  | 45, _ => exact ⟨_, rfl⟩
  | 46, _ => exact ⟨_, rfl⟩
  | 47, _ => exact ⟨_, rfl⟩
  | 48, _ => exact ⟨_, rfl⟩
  | 49, _ => exact ⟨_, rfl⟩
  | 50, _ => exact ⟨_, rfl⟩
  | 51, _ => exact ⟨_, rfl⟩
  | 52, _ => exact ⟨_, rfl⟩
  | 53, _ => exact ⟨_, rfl⟩
  | 54, _ => exact ⟨_, rfl⟩
  | 55, _ => exact ⟨_, rfl⟩
  | 56, _ => exact ⟨_, rfl⟩
  | 57, _ => exact ⟨_, rfl⟩
  | 58, _ => exact ⟨_, rfl⟩
  | 59, _ => exact ⟨_, rfl⟩
  | 60, _ => exact ⟨_, rfl⟩
  | 61, _ => exact ⟨_, rfl⟩
  | 62, _ => exact ⟨_, rfl⟩
  | 63, _ => exact ⟨_, rfl⟩
  | 64, _ => exact ⟨_, rfl⟩
  | 65, _ => exact ⟨_, rfl⟩
  | 66, _ => exact ⟨_, rfl⟩
  | 67, _ => exact ⟨_, rfl⟩
  | 68, _ => exact ⟨_, rfl⟩
  | k + 69, hk => omega
set_option maxRecDepth 20000 in
set_option maxHeartbeats 4000000 in
theorem lw_cells {O : mOm} {q0 q1 tc b : Nat} {u u2 : List Nat} {H : Heap} (h : va_P O.1 vwCl (lw_w6 O q0 u ++ lw_w7 O q1 u2) H) : va_P O.1 vwCl (gCells (lw_ad q0 q1 tc b u u2, O) lw_m0) H := by
  intro k q hq
  obtain ⟨hk, rfl⟩ := gCells_lt _ _ hq
  match k, hk with
  | 13, _ =>
    have h13 := h 13 _ rfl
    refine Eq.trans h13 (congrArg some ?_)
    show arrV O.2.2.2 2 (fun j => va_rf (va_up (va_up (fun _ => none) 0 (some (u.getD 13 0))) 1 (some (u.getD 18 0)) j)) = arrV O.2.2.2 2 (fun j => va_rf (some (lw_ad q0 q1 tc b u u2 (gsl j))))
    refine lw_arr (fun j hj => ?_)
    rcases lt2 hj with rfl | rfl <;> rfl
  | 0, _ => exact h 0 _ rfl
  | 1, _ => exact h 1 _ rfl
  | 2, _ => exact h 2 _ rfl
  | 3, _ => exact h 3 _ rfl
  | 4, _ => exact h 4 _ rfl
  | 5, _ => exact h 5 _ rfl
  | 6, _ => exact h 6 _ rfl
  | 7, _ => exact h 7 _ rfl
  | 8, _ => exact h 8 _ rfl
  | 9, _ => exact h 9 _ rfl
  | 10, _ => exact h 10 _ rfl
  | 11, _ => exact h 11 _ rfl
  | 12, _ => exact h 12 _ rfl
  | 14, _ => exact h 14 _ rfl
  | 15, _ => exact h 15 _ rfl
  | 16, _ => exact h 16 _ rfl
  | 17, _ => exact h 17 _ rfl
  | 18, _ => exact h 18 _ rfl
  | 19, _ => exact h 19 _ rfl
  | 20, _ => exact h 20 _ rfl
  | 21, _ => exact h 21 _ rfl
  | 22, _ => exact h 22 _ rfl
  | 23, _ => exact h 23 _ rfl
  | 24, _ => exact h 24 _ rfl
  | 25, _ => exact h 25 _ rfl
  | 26, _ => exact h 26 _ rfl
  | 27, _ => exact h 27 _ rfl
  | 28, _ => exact h 28 _ rfl
  | 29, _ => exact h 29 _ rfl
  | 30, _ => exact h 30 _ rfl
  | 31, _ => exact h 31 _ rfl
  | 32, _ => exact h 32 _ rfl
  | 33, _ => exact h 33 _ rfl
  | 34, _ => exact h 34 _ rfl
  | 35, _ => exact h 35 _ rfl
  | 36, _ => exact h 36 _ rfl
  | 37, _ => exact h 37 _ rfl
  | 38, _ => exact h 38 _ rfl
  | 39, _ => exact h 39 _ rfl
  | 40, _ => exact h 40 _ rfl
  | 41, _ => exact h 41 _ rfl
  | 42, _ => exact h 42 _ rfl
  | 43, _ => exact h 43 _ rfl
  | 44, _ => exact h 44 _ rfl
  | 45, _ => exact h 45 _ rfl
  | 46, _ => exact h 46 _ rfl
  | 47, _ => exact h 47 _ rfl
  | 48, _ => exact h 48 _ rfl
  | 49, _ => exact h 49 _ rfl
  | 50, _ => exact h 50 _ rfl
  | 51, _ => exact h 51 _ rfl
  | 52, _ => exact h 52 _ rfl
  | 53, _ => exact h 53 _ rfl
  | 54, _ => exact h 54 _ rfl
  | 55, _ => exact h 55 _ rfl
  | 56, _ => exact h 56 _ rfl
  | 57, _ => exact h 57 _ rfl
  | 58, _ => exact h 58 _ rfl
  | 59, _ => exact h 59 _ rfl
  | 60, _ => exact h 60 _ rfl
  | 61, _ => exact h 61 _ rfl
  | 62, _ => exact h 62 _ rfl
  | 63, _ => exact h 63 _ rfl
  | 64, _ => exact h 64 _ rfl
  | 65, _ => exact h 65 _ rfl
  | 66, _ => exact h 66 _ rfl
  | 67, _ => exact h 67 _ rfl
  | 68, _ => exact h 68 _ rfl
  | k + 69, hk => exact absurd hk (by show ¬ k + 69 < 69; omega)
theorem lw_ctor {O : mOm} {p : Program} {l : Launch} {e : Env} {s : State} {mi : MethodId} {below : List Frame} {meth : Method} {c : Code} {H : Heap} {locs : List Loc} {b L : Nat} {xs : Nat → Int32} {Q : State → Prop} {ce sl : Nat} {ls : Array Slot} {pc : Nat} {st : List Value} {ix h mc' ms' : Nat} {K' : gM} {Wf' : List Nat → va_W} {ws wc wr : va_W} (isC isR : List Nat) (C0 : lw_At p s mi meth c b L xs) (hw : mWd O s) (hP : va_P O.1 vwCl ws H) (hD : va_D (fun q : Nat => s.heap.size ≤ q) ws) (hS : va_S (fun q : Nat => s.heap.size ≤ q) s.heap H locs) (hsz : ls.size = 4) (hd : decode code pc = .ok (.invokespecial ix, 3)) (hlk : Cond.methodLink RL ix K'.1 ∈ gT) (hl : gLi K' 0) (hCs : isC.map (fun i => ws[i]?) = wc.map some) (hRs : isR.map (fun i => ws[i]?) = wr.map some) (hnC : va_nd isC = true) (hnR : va_nd isR = true) (hdis : ∀ i ∈ isR, i ∉ isC) (hWr : (st.map fun v => v.category).sum ≤ 8) (hen : (gsp [.ref h]).length ≤ K'.2.2.1) (hce : ce + mc' ≤ 600000) (hsl : sl + ms' ≤ 7302250) (hc : Cm O 40 mc' ms' K' [.ref h] wc Wf')
    (kk : ∀ (u : List Nat) (H1 : Heap) (locs1 : List Loc), va_P O.1 vwCl (wr ++ Wf' u) H1 → va_D (fun q : Nat => s.heap.size ≤ q) (wr ++ Wf' u) → va_S (fun q : Nat => s.heap.size ≤ q) s.heap H1 locs1 → W p l e room_1 s mi #[Value.ref b] below meth c H1 locs1 (ce + mc') (sl + ms') Q (F0 mi (pc + 3) ls st)) : W p l e room_1 s mi #[Value.ref b] below meth c H locs ce sl Q (F0 mi pc ls (.ref h :: st)) := by
  obtain ⟨hx, hb, hr, hml, hown, hts0, hX, hbl, hlocks, hgv⟩ := C0
  have hts : ∀ w ∈ gT, w.before #[Value.ref b] s = true := fun w hw => hts0 w (List.mem_filter.mp hw).1
  have hA : ∀ q : Nat, s.heap.size ≤ q → (fun q : Nat => s.heap.size ≤ q) q := fun _ h => h
  have hM := gm_met (sz := H.size) l hl.2.1.2.2.1 hen hc
  have hP' : va_P O.1 vwCl wc H := by
    intro k q hk
    have h1 : (isC.map (fun i => ws[i]?))[k]? = some (some q) := by rw [hCs, List.getElem?_map, hk]; rfl
    rw [List.getElem?_map] at h1
    cases hi : isC[k]? with
    | none => rw [hi] at h1; cases h1
    | some i => rw [hi] at h1; exact hP i q (Option.some.inj h1)
  have hD' : va_D (fun q : Nat => s.heap.size ≤ q) wc := hD.sub isC hnC hCs
  have hF := va_free (wc := wc) hD hS hA isC hCs
  have hpre : PreS s H (mPc O [.ref h] H.size wc) [.ref h] := ⟨mPc.blind O _ _ _, fun U hU hWm => ⟨rfl, by rw [hU], hw.warm hWm, by rw [hU]; exact hP', hD'.weaken (fun _ _ _ _ => trivial)⟩⟩
  have hwsE : gWs K' = Cond.code K'.1 K'.2.1 K'.2.2.1 none :: gT := by
    show Cond.code K'.1 K'.2.1 K'.2.2.1 K'.2.2.2 :: gT = _
    rw [hl.2.2.2]
  have hRm : (mRm 40 mc' ms').frames + 1 ≤ room_1.frames ∧ 8 + (K'.2.2.1 + 11) + (mRm 40 mc' ms').locals ≤ room_1.locals := by
    have := hl.2.1.2.2.2.2
    refine ⟨?_, ?_⟩
    · show 40 + 1 ≤ 2048
      omega
    · show 8 + (K'.2.2.1 + 11) + (64 * 40 + 64) ≤ 84000
      omega
  have hkk : ∀ (u : List Nat) (H1 : Heap) (locs1 : List Loc), va_P O.1 vwCl (Wf' u) H1 → va_D (va_A wc H.size) (Wf' u) → (∀ q : Nat, q < H.size → ¬ va_A wc H.size q → H1[q]? = H[q]?) → va_S (fun q : Nat => s.heap.size ≤ q) s.heap H1 locs1 → W p l e room_1 s mi #[Value.ref b] below meth c H1 locs1 (ce + mc') (sl + ms') Q (F0 mi (pc + 3) ls st) := fun u H1 l1 b1 b2 b3 b4 => by
    obtain ⟨j1, j2⟩ := va_join (wr := wr) (w1 := Wf' u) hP hD isC isR hCs hRs hnR hdis b3 hF b1 b2
    exact kk u H1 l1 j1 j2 b4
  exact mv_run (va_runI (own := RL) (ws := gWs K') (n := 0) (As := []) (rest := st) ⟨hx, hb, hml, hown, hts⟩ hM ⟨callB_of 0 hts (gWs_good hl.2.1) hwsE rfl rfl (hts _ hl.2.1.1) (hts _ hlk) hl.2.1.2.2.2.1 hRm, hl.2.2.1, hts _ hl.1⟩ hpre rfl rfl hsz rfl (lv_room hWr) hd ⟨hce, hsl⟩) hS hF hkk
set_option maxHeartbeats 4000000 in
set_option maxRecDepth 100000 in
theorem whole_start {p : Program} {e : Env} {s : State} {m : MethodId} {below : List Frame} {meth : Method} {c : Code} (l : Launch) {b L : Nat} {xs : Nat → Int32} (hL : L ≤ 3072) (C0 : lw_At p s m meth c b L xs) : W p l e room_1 s m #[Value.ref b] below meth c s.heap [] 0 0 (lw_Z below #[Value.ref b] s) (entryFrame m ([Value.ref b] : List Value).toArray 4) := by
  obtain ⟨hx, hb, hr, hml, hown, hts0, hX, hbl, hlocks, hgv⟩ := id C0
  have hts : ∀ w ∈ gT, w.before #[Value.ref b] s = true := fun w hw => hts0 w (List.mem_filter.mp hw).1
  have htb : ∀ w ∈ tables_1, w.before #[Value.ref b] s = true := fun w hw => hts0 w (List.mem_append_right _ hw)
  have hA : ∀ q : Nat, s.heap.size ≤ q → (fun q : Nat => s.heap.size ≤ q) q := fun _ h => h
  have hnA : ∀ a : Nat, a < s.heap.size → ¬ (fun q : Nat => s.heap.size ≤ q) a := fun a h => Nat.not_le.mpr h
  obtain ⟨c0, i0, k0⟩ := u_known (C := RX0) (T := TX0) (N := 2) (n := 2) hts (gInG (ci := 0) rfl) (hts _ itX0)
  obtain ⟨c1, i1, k1⟩ := u_known (C := RX1) (T := TX1) (N := 8) (n := 8) hts (gInG (ci := 1) rfl) (hts _ itX1)
  obtain ⟨c2, i2, k2⟩ := u_known (C := RX2) (T := TX2) (N := 7) (n := 7) hts (gInG (ci := 2) rfl) (hts _ itX2)
  obtain ⟨c3, i3, k3⟩ := u_known (C := RX3) (T := TX3) (N := 2) (n := 2) hts (gInG (ci := 3) rfl) (hts _ itX3)
  obtain ⟨c4, i4, k4⟩ := u_known (C := RX4) (T := TX4) (N := 3) (n := 3) hts (gInG (ci := 4) rfl) (hts _ itX4)
  obtain ⟨c5, i5, k5⟩ := u_known (C := RX5) (T := TX5) (N := 6) (n := 6) hts (gInG (ci := 5) rfl) (hts _ itX5)
  obtain ⟨c6, i6, k6⟩ := u_known (C := RX6) (T := TX6) (N := 9) (n := 9) hts (gInG (ci := 6) rfl) (hts _ itX6)
  obtain ⟨c7, i7, k7⟩ := u_known (C := RX7) (T := TX7) (N := 34) (n := 34) hts (gInG (ci := 7) rfl) (hts _ itX7)
  obtain ⟨dC, dI, hKc⟩ : ∃ (dC : Nat → ClassId) (dI : Nat → Nat → Nat), ∀ (k : Nat) (q : vw_C), vwCl[k]? = some q → u_Kn s q.1 q.2.1 q.2.2 (dC k) (dI k) := by
    refine ⟨fun k => if k = 0 then c0 else if k = 1 then c1 else if k = 2 then c2 else if k = 3 then c3 else if k = 4 then c4 else if k = 5 then c5 else if k = 6 then c6 else c7, fun k => if k = 0 then i0 else if k = 1 then i1 else if k = 2 then i2 else if k = 3 then i3 else if k = 4 then i4 else if k = 5 then i5 else if k = 6 then i6 else i7, ?_⟩
    intro k q hq
    match k, hq with
    | 0, hq => cases hq; exact k0
    | 1, hq => cases hq; exact k1
    | 2, hq => cases hq; exact k2
    | 3, hq => cases hq; exact k3
    | 4, hq => cases hq; exact k4
    | 5, hq => cases hq; exact k5
    | 6, hq => cases hq; exact k6
    | 7, hq => cases hq; exact k7
    | k + 8, hq => simp [vwCl] at hq
  obtain ⟨cI, kI, pI, a1, a2, a3⟩ := Cond.arrayClass_spec (hts _ gAi)
  obtain ⟨cZ, kZ, pZ, z1, z2, z3⟩ := Cond.arrayClass_spec (hts _ gAz)
  have hov : (Cond.arrayOver (.object RX5)).before #[Value.ref b] s = true := htb _ (List.mem_of_getElem? (i := 65) (by decide +kernel))
  obtain ⟨pS, cS, kS, s1, s2, s3, s4, s5⟩ := Cond.arrayOver_spec hov
  obtain ⟨O, hO⟩ : ∃ O : mOm, O = ((dC, dI), cI, cZ, cS) := ⟨_, rfl⟩
  have hK : va_K O.1 vwCl (mTys O) s := by
    subst hO
    refine ⟨hKc, fun k q hq => ?_⟩
    match k, hq with
    | 0, hq => cases hq; exact ⟨fun n z => ⟨fun k h => (by cases h), kI, a2, pI, a3⟩, a1⟩
    | 1, hq => cases hq; exact ⟨fun n z => ⟨fun k h => (by cases h), kZ, z2, pZ, z3⟩, z1⟩
    | 2, hq => cases hq; exact ⟨fun n z => ⟨fun k h => (by cases h), kS, s3, pS, s4⟩, kS, pS, s3, s4, s1, s5⟩
    | k + 3, hq => simp [mTys] at hq
  have hNw : ∀ w ∈ gN, va_Nw w s := fun w hw => va_Nw.of (gN_tab hw) (htb w (List.mem_filter.mp hw).1)
  have hmW : mWd O s := ⟨hNw, hK, va_AO.of hov⟩
  have hs := flat_of_before _ hgv
  obtain ⟨tc, htc, hT⟩ := va_Tof (tm := (.static "ToldNineTimes$Outlook" "CHOICES" "[I")) (ty := .int) (N := 4) (f := fun j => .int (gch j)) (A := (fun q : Nat => s.heap.size ≤ q)) (args := #[Value.ref b]) (s := s) (by decide) (hs (Cond.arrayOf (.static "ToldNineTimes$Outlook" "CHOICES" "[I") .int) (by decide +kernel)) (va_eqt (hs (Cond.eq (.length (.static "ToldNineTimes$Outlook" "CHOICES" "[I")) (.int 4)) (by decide +kernel))) (fun j hj => by
    rcases (show j = 0 ∨ j = 1 ∨ j = 2 ∨ j = 3 by omega) with rfl | rfl | rfl | rfl
    · exact va_eqt (hs (Cond.eq (.elem (.static "ToldNineTimes$Outlook" "CHOICES" "[I") (.int 0)) (.int 0)) (by decide +kernel))
    · exact va_eqt (hs (Cond.eq (.elem (.static "ToldNineTimes$Outlook" "CHOICES" "[I") (.int 1)) (.int 1)) (by decide +kernel))
    · exact va_eqt (hs (Cond.eq (.elem (.static "ToldNineTimes$Outlook" "CHOICES" "[I") (.int 2)) (.int 2)) (by decide +kernel))
    · exact va_eqt (hs (Cond.eq (.elem (.static "ToldNineTimes$Outlook" "CHOICES" "[I") (.int 3)) (.int 4)) (by decide +kernel))) hnA
  have hZ : va_Z "ToldNineTimes$Outlook" "CHOICES" "[I" (.ref tc) (fun q : Nat => s.heap.size ≤ q) s s.heap := va_Zof (args := #[Value.ref b]) (htb _ (List.mem_of_getElem? (i := 509) (by decide +kernel))) (hts _ inX2) htc hnA
  have hS : va_S (fun q : Nat => s.heap.size ≤ q) s.heap s.heap [] := va_S.rf
  have hP : va_P O.1 vwCl [] s.heap := fun k q h => by simp at h
  have hD : va_D (fun q : Nat => s.heap.size ≤ q) [] := ⟨fun i j p q h => by simp at h, fun k q h => by simp at h⟩
  have hl := lv_entry ([.ref b]) (n := 4) (Nat.le_of_ble_eq_true rfl)
  rw [lg_entry_eq]
  generalize (lg_sl ([.ref b]) ++ List.replicate (4 - (lg_sl ([.ref b])).length) Slot.unset).toArray = ls at hl ⊢
  have hl : lv_has ls 4 [(0, .ref b)] := hl
  refine va_new (own := RL) (ci := 6) (fs := [.null, .null, .null, .null, .null, .null, .null, .null, .null]) (C := RX6) (T := TX6) (N := 9) hx hb hts (gInG (ci := 6) rfl) (gTyOf 6) (gTyOk (ci := 6) rfl) hown (hts _ clL_7) (hts _ itX6) (hts _ inX6) hK hP hD hS hA rfl (by decide +kernel) (Nat.le_of_ble_eq_true rfl) (Nat.le_of_ble_eq_true rfl) dL_law_0 (fun q0 H hP hD hS => ?_)
  refine lv_dup hx hb dL_law_3 rfl ?_
  refine lw_ctor (O := O) (K' := kX6_init) (wc := [_]) (wr := []) [0] [] C0 hmW hP hD hS hl.1 dL_law_4 (gT_of 15 (by decide +kernel) rfl) lX6_init rfl rfl (by decide) (by decide) (by decide) (Nat.le_of_ble_eq_true rfl) (Nat.le_of_ble_eq_true rfl) (Nat.le_of_ble_eq_true rfl) (Nat.le_of_ble_eq_true rfl) (lw_i6 q0) (fun u H locs hP hD hS => ?_)
  have hP : va_P O.1 vwCl (lw_w6 O q0 u) H := hP
  have hD : va_D (fun q : Nat => s.heap.size ≤ q) (lw_w6 O q0 u) := hD
  refine lv_astore_n (lv' := [(1, .ref q0), (0, .ref b)]) hx hb dL_law_7 rfl hl (by decide) rfl (fun ls hl => ?_)
  refine va_new (own := RL) (ci := 7) (fs := [.int 0, .null, .int 0, .int 0, .int 0, .int 0, .int 0, .null, .null, .null, .null, .int 0, .null, .int 0, .int 0, .int 0, .null, .null, .null, .null, .null, .int 0, .null, .null, .null, .int 0, .null, .null, .null, .null, .null, .null, .null, .null]) (C := RX7) (T := TX7) (N := 34) hx hb hts (gInG (ci := 7) rfl) (gTyOf 7) (gTyOk (ci := 7) rfl) hown (hts _ clL_10) (hts _ itX7) (hts _ inX7) hK hP hD hS hA rfl (by decide +kernel) (Nat.le_of_ble_eq_true rfl) (Nat.le_of_ble_eq_true rfl) dL_law_8 (fun q1 H hP hD hS => ?_)
  refine lv_dup hx hb dL_law_11 rfl ?_
  refine lw_ctor (O := O) (K' := kX7_init) (wc := [_]) (wr := lw_w6 O q0 u) [46] [0, 1, 2, 3, 4, 5, 6, 7, 8, 9, 10, 11, 12, 13, 14, 15, 16, 17, 18, 19, 20, 21, 22, 23, 24, 25, 26, 27, 28, 29, 30, 31, 32, 33, 34, 35, 36, 37, 38, 39, 40, 41, 42, 43, 44, 45] C0 hmW hP hD hS hl.1 dL_law_12 (gT_of 592 (by decide +kernel) rfl) lX7_init rfl rfl (by decide) (by decide) (by decide) (Nat.le_of_ble_eq_true rfl) (Nat.le_of_ble_eq_true rfl) (Nat.le_of_ble_eq_true rfl) (Nat.le_of_ble_eq_true rfl) (lw_i7 q1) (fun u2 H locs hP hD hS => ?_)
  refine lv_astore_n (lv' := [(2, .ref q1), (1, .ref q0), (0, .ref b)]) hx hb dL_law_15 rfl hl (by decide) rfl (fun ls hl => ?_)
  refine lv_iconst (v := nI 0) hx hb dL_law_16 (by decide +kernel) ?_
  refine lv_istore_n (lv' := [(3, .int (nI 0)), (2, .ref q1), (1, .ref q0), (0, .ref b)]) hx hb dL_law_17 rfl hl (by decide) rfl (fun ls hl => ?_)
  have hnew : ∀ k, k < gNC → s.heap.size ≤ lw_ad q0 q1 tc b u u2 k := fun k hk => by
    obtain ⟨e, he⟩ := lw_at (O := O) (q0 := q0) (q1 := q1) (tc := tc) (b := b) (u := u) (u2 := u2) k hk
    exact hD.2 k _ he
  have hgA : ∀ q, gA (lw_ad q0 q1 tc b u u2, O) q → s.heap.size ≤ q := fun q h => by
    obtain ⟨k, h1, h2⟩ := h
    rw [← h2]
    exact hnew k h1
  have C : LwC (lw_ad q0 q1 tc b u u2, O) p s m meth c b L xs := by
    refine ⟨C0, ⟨hNw, hK, fun i j hi hj e => ?_, hZ.narrow hgA, hT.narrow hgA⟩, rfl, hnew⟩
    obtain ⟨e1, h1⟩ := lw_at (O := O) (q0 := q0) (q1 := q1) (tc := tc) (b := b) (u := u) (u2 := u2) i hi
    obtain ⟨e2, h2⟩ := lw_at (O := O) (q0 := q0) (q1 := q1) (tc := tc) (b := b) (u := u) (u2 := u2) j hj
    exact hD.1 i j _ _ h1 h2 e
  have hg : gLs (lw_ad q0 q1 tc b u u2, O) [.ref 70, .ref 0, .ref 46, .int (nI 0)] 4 ls := by
    refine ⟨rfl, hl.1, hl.2.1, fun i v hi hv => ?_⟩
    match i, hi with
    | 0, hi => cases hi; exact hl.2.2 (0, .ref b) (by simp)
    | 1, hi => cases hi; exact hl.2.2 (1, .ref q0) (by simp)
    | 2, hi => cases hi; exact hl.2.2 (2, .ref q1) (by simp)
    | 3, hi => cases hi; exact hl.2.2 (3, .int (nI 0)) (by simp)
    | i + 4, hi => simp at hi
  exact law_loop C hL (L + 1) 0 lw_m0 (Nat.zero_le L) (by omega) lw_inv0 H locs ls (lw_cells hP) hS hg
