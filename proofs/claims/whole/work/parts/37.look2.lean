/-! PLANS -/
theorem Inv.side {m m' : gMem} (h : Inv m) (e0 : m'.2 0 = m.2 0) (e1 : m'.2 1 = m.2 1) (nk : ∀ k, (k < 8 ∨ (12 < k ∧ k < 29) ∨ (46 < k ∧ k < 53) ∨ (56 < k ∧ k < 60) ∨ (60 < k ∧ k < 64)) → m'.1 k = m.1 k) (nt : ∀ k, m.2 0 ≤ k → k ≤ m.2 0 + 5 → m'.1 k = m.1 k) (nf : ∀ i, i ≠ 0 → i ≠ 3 → i ≠ 13 → i ≠ 14 → i ≠ 15 → m'.1 46 i = m.1 46 i) : Inv m' := by
  obtain ⟨P, N, lw, hr, a, c, L, lim, h1, h2, h3, h4, h5, h6, h7, h8⟩ := h
  have k1 := nk 1 (by omega)
  have k3 := nk 3 (by omega)
  have k24 := nk 24 (by omega)
  have k26 := nk 26 (by omega)
  have k48 := nk 48 (by omega)
  have k49 := nk 49 (by omega)
  have k50 := nk 50 (by omega)
  have k51 := nk 51 (by omega)
  have k52 := nk 52 (by omega)
  refine ⟨P, N, lw, hr, a, c, L, lim, ?_, h2.kept (nf 4 (by decide) (by decide) (by decide) (by decide) (by decide)) (nf 5 (by decide) (by decide) (by decide) (by decide) (by decide)) (nf 6 (by decide) (by decide) (by decide) (by decide) (by decide)) k48 k49 k51, ?_, h4.kept (congrFun k3 4) (nk 4 (by omega)) (nk 5 (by omega)) (nk 6 (by omega)) (nk 7 (by omega)) (nf 11 (by decide) (by decide) (by decide) (by decide) (by decide)) k52, h5.kept (congrFun k24 1) (nk 25 (by omega)) (nf 21 (by decide) (by decide) (by decide) (by decide) (by decide)) k48 k52 (nk 57 (by omega)), h6.kept (nk 14 (by omega)) (nk 15 (by omega)) (nk 16 (by omega)) (nk 17 (by omega)) (nk 18 (by omega)) (nk 19 (by omega)) (nk 20 (by omega)) (nk 21 (by omega)) (nk 22 (by omega)) (nk 23 (by omega)) (nk 58 (by omega)) (nk 59 (by omega)), h7.kept (congrFun k26 2) (nk 27 (by omega)) (nk 28 (by omega)) (nf 25 (by decide) (by decide) (by decide) (by decide) (by decide)) (nk 61 (by omega)) (nk 62 (by omega)) (nk 63 (by omega)), h8.kept (congrFun k1 1) (nk 2 (by omega)) (nf 2 (by decide) (by decide) (by decide) (by decide) (by decide)) (nk 47 (by omega))⟩
  · unfold IvTD at *
    rw [e0, e1]
    exact h1
  · rw [e0]
    exact h3.kept (nt _ (by omega) (by omega)) (nt _ (by omega) (by omega)) (nt _ (by omega) (by omega)) (nt _ (by omega) (by omega)) (nt _ (by omega) (by omega)) (nt _ (by omega) (by omega)) k48 k49 k50 k51
/-- why no plan is made -/
def rfP (n x : Int32) (P N lw : Nat) : Int32 := if iR n N = false then -1 else if iR x (2 ^ P) = false then -2 else if lw ≠ 0 then -3 else nI 0
/-- the first place for which it holds -/
def ff (p : Nat → Bool) : Nat → Nat → Nat
  | 0, j => j
  | n + 1, j => if p j then j else ff p n (j + 1)
theorem ff_ok {p : Nat → Bool} {s : Nat} (hp : p s = true) : ∀ n j, j ≤ s → s < j + n → p (ff p n j) = true ∧ ff p n j ≤ s ∧ j ≤ ff p n j ∧ ∀ i, j ≤ i → i < ff p n j → p i = false
  | 0, j, h1, h2 => absurd h2 (by omega)
  | n + 1, j, h1, h2 => by
    rw [ff]
    cases hj : p j with
    | true =>
      rw [if_pos rfl]
      exact ⟨hj, h1, Nat.le_refl _, fun i a b => absurd a (by omega)⟩
    | false =>
      rw [if_neg (by decide)]
      have hne : j ≠ s := fun e => by rw [e, hp] at hj; cases hj
      obtain ⟨q1, q2, q3, q4⟩ := ff_ok hp n (j + 1) (by omega) (by omega)
      refine ⟨q1, q2, by omega, fun i a b => ?_⟩
      by_cases e : i = j
      · rw [e]; exact hj
      · exact q4 i (by omega) b
/-- this set is one of a plan with the least tellings -/
def plB (G : Nat → Nat → Nat) (w r k S : Nat) : Bool := match bh (G (5 - r)) S k with
  | none => false
  | some t => decide (pc6 S + nR G w r t = nR G w (r + 1) k)
def stp (G : Nat → Nat → Nat) (w r k : Nat) : Nat := ff (plB G w r k) 8 0
theorem stp_ok {G : Nat → Nat → Nat} {w r k : Nat} (h : nR G w (r + 1) k < 99) : stp G w r k < 8 ∧ (∃ t, bh (G (5 - r)) (stp G w r k) k = some t ∧ pc6 (stp G w r k) + nR G w r t = nR G w (r + 1) k) ∧ ∀ S, S < stp G w r k → plB G w r k S = false := by
  obtain ⟨s, hs, he⟩ := mnA_at (c := 999) (f := byN (G (5 - r)) (nR G w r) k) (n := 8) (by rw [nR] at h; omega)
  have hp : plB G w r k s = true := by
    unfold plB
    unfold byN at he
    cases hb : bh (G (5 - r)) s k with
    | none =>
      rw [hb] at he
      dsimp only at he
      rw [nR] at h
      unfold byN at h
      omega
    | some t =>
      rw [hb] at he
      dsimp only at he ⊢
      rw [nR]
      unfold byN
      exact decide_eq_true he
  obtain ⟨q1, q2, q3, q4⟩ := ff_ok hp 8 0 (by omega) (by omega)
  refine ⟨by unfold stp; omega, ?_, fun S hS => q4 S (by omega) hS⟩
  unfold stp
  generalize ff (plB G w r k) 8 0 = z at q1
  unfold plB at q1
  cases hb : bh (G (5 - r)) z k with
  | none => rw [hb] at q1; cases q1
  | some t =>
    rw [hb] at q1
    exact ⟨t, rfl, of_decide_eq_true q1⟩
def plan (G : Nat → Nat → Nat) (w : Nat) : Nat → Nat → Nat → Nat
  | 0, r, k => stp G w r k
  | i + 1, r, k => plan G w i (r - 1) ((bh (G (5 - r)) (stp G w r k) k).getD 0)
theorem c_firstOfLeast_29 {O : gOm} {d : Nat} {m : gMem} {G : Nat → Nat → Nat} {w r h k : Nat} (hw : w < 64) (hg : ∀ h a, G h a < 64) (hr : h + (r + 1) = 6) (hk : k < 64) (hD : OkD m 29 G w) (hM : NdM G w (m.1 42)) (hv : nR G w (r + 1) k < 99) : ∃ m', Ca O (d + 2 * r + 5) kX2_firstOfLeast [.ref 41, .int (nI h), .int (nI k)] (some (.int (nI (stp G w r k)))) m m' ∧ Fr [42] m m' ∧ NdM G w (m'.1 42) := by
  obtain ⟨s1, ⟨t0, s2, s3⟩, s4⟩ := stp_ok hv
  have e5 : 5 - r = h := by omega
  have hcv : cR G w (r + 1) k = nR G w (r + 1) k := by rw [cR_n]; omega
  have hNd : NdOk_29 O (d + 2 * r + 1 + 2) G w r := by
    have z := c_need_29 (O := O) (d := d + 1) hw hg r
    rwa [show d + 1 + 2 * r + 2 = d + 2 * r + 1 + 2 by omega] at z
  have key : ∀ n j (m1 : gMem), j + n = stp G w r k → OkD m1 29 G w → NdM G w (m1.1 42) → ∃ m', Go O (d + 2 * r + 5) kX2_firstOfLeast (some (.int (nI (stp G w r k)))) m' 10 [.ref 41, .int (nI h), .int (nI k), .int (nI (nR G w (r + 1) k)), .int (nI j)] [] m1 ∧ Fr [42] m1 m' ∧ NdM G w (m'.1 42) := by
    intro n
    induction n with
    | zero =>
      intro j m1 hj hD1 hM1
      obtain rfl : j = stp G w r k := by omega
      obtain ⟨m2, c2, f2, v2⟩ := c_needBy_29 (d := d + 2 * r + 1) (S := stp G w r k) (k := k) (h := h) hNd hg hr hk s1 hD1 hM1
      have eb : byC (G (5 - r)) (cR G w r) k (stp G w r k) = nR G w (r + 1) k := by
        simp only [byC, s2]
        rw [cR_n]
        omega
      rw [eb] at c2
      have cb := c_obh_29 (O := O) (d := d + 2 * r + 2) (k := k) (gr := G h) (S := stp G w r k) (h := h) (hD1.fr f2 (by decide) (by decide)).1 (fun a ha => (hD1.fr f2 (by decide) (by decide)).2.2 h a (by omega) ha) (hg h) (by omega) s1 hk
      rw [e5] at s2
      have ht0 := bh_lt hk (hg h) s2
      rw [s2] at cb
      refine ⟨m2, ?_, f2, v2⟩
      refine go_iload dX2_firstOfLeast_10 rfl ?_
      refine go_bipush (nI 8) dX2_firstOfLeast_12 (by decide +kernel) ?_
      refine go_icmp_ge 49 dX2_firstOfLeast_14 (by decide) (fun h => absurd h (nI_ge (by omega) (by omega))) (fun h14 => ?_)
      refine go_aload_n dX2_firstOfLeast_17 rfl ?_
      refine go_iload_n dX2_firstOfLeast_18 rfl ?_
      refine go_iload_n dX2_firstOfLeast_19 rfl ?_
      refine go_iload dX2_firstOfLeast_20 rfl ?_
      refine go_callV1 (K' := kX2_needBy) [_, _, _] dX2_firstOfLeast_22 mX2_52 lX2_needBy rfl (by decide) rfl (by decide) rfl rfl (Nat.le_of_ble_eq_true rfl) (Nat.le_of_ble_eq_true rfl) (c2) ?_
      refine go_iload_n dX2_firstOfLeast_25 rfl ?_
      refine go_icmp_ne 43 dX2_firstOfLeast_26 (by decide) (fun h => absurd h (fun q => q rfl)) (fun h26 => ?_)
      refine go_aload_n dX2_firstOfLeast_29 rfl ?_
      refine go_iload_n dX2_firstOfLeast_30 rfl ?_
      refine go_iload dX2_firstOfLeast_31 rfl ?_
      refine go_iload_n dX2_firstOfLeast_33 rfl ?_
      refine go_callV1 (K' := kX2_behind) [_, _, _] dX2_firstOfLeast_34 mX2_38 lX2_behind rfl (by decide) rfl (by decide) rfl rfl (Nat.le_of_ble_eq_true rfl) (Nat.le_of_ble_eq_true rfl) (cb) ?_
      refine go_if_lt 43 dX2_firstOfLeast_37 (by decide) (fun h => absurd h (nI_pos (by omega))) (fun h37 => ?_)
      refine go_iload dX2_firstOfLeast_40 rfl ?_
      exact go_iret dX2_firstOfLeast_42 rfl rfl rfl
    | succ n ih =>
      intro j m1 hj hD1 hM1
      obtain ⟨m2, c2, f2, v2⟩ := c_needBy_29 (d := d + 2 * r + 1) (S := j) (k := k) (h := h) hNd hg hr hk (by omega) hD1 hM1
      have hpl := s4 j (by omega)
      have eb : byC (G (5 - r)) (cR G w r) k j ≠ nR G w (r + 1) k ∧ byC (G (5 - r)) (cR G w r) k j ≤ 99 := by
        simp only [byC]
        unfold plB at hpl
        cases hb : bh (G (5 - r)) j k with
        | none => dsimp only; omega
        | some t =>
          rw [hb] at hpl
          dsimp only at hpl ⊢
          have := of_decide_eq_false hpl
          rw [cR_n]
          omega
      obtain ⟨m', g1, f1, v1⟩ := ih (j + 1) m2 (by omega) (hD1.fr f2 (by decide) (by decide)) v2
      refine ⟨m', ?_, f2.trans f1, v1⟩
      refine go_iload dX2_firstOfLeast_10 rfl ?_
      refine go_bipush (nI 8) dX2_firstOfLeast_12 (by decide +kernel) ?_
      refine go_icmp_ge 49 dX2_firstOfLeast_14 (by decide) (fun h => absurd h (nI_ge (by omega) (by omega))) (fun h14 => ?_)
      refine go_aload_n dX2_firstOfLeast_17 rfl ?_
      refine go_iload_n dX2_firstOfLeast_18 rfl ?_
      refine go_iload_n dX2_firstOfLeast_19 rfl ?_
      refine go_iload dX2_firstOfLeast_20 rfl ?_
      refine go_callV1 (K' := kX2_needBy) [_, _, _] dX2_firstOfLeast_22 mX2_52 lX2_needBy rfl (by decide) rfl (by decide) rfl rfl (Nat.le_of_ble_eq_true rfl) (Nat.le_of_ble_eq_true rfl) (c2) ?_
      refine go_iload_n dX2_firstOfLeast_25 rfl ?_
      refine go_icmp_ne 43 dX2_firstOfLeast_26 (by decide) (fun h26 => ?_) (fun h => absurd h (fun q => eb.1 ((nI_eq (by omega) (by omega)).mp q)))
      refine go_iinc_n (L' := [_, _, _, _, _]) dX2_firstOfLeast_43 rfl (by decide) rfl ?_
      refine go_goto 10 dX2_firstOfLeast_46 (by decide) ?_
      exact g1
  obtain ⟨m2, c2, f2, v2⟩ := c_need_29 (O := O) (d := d) hw hg (r + 1) m h k hr hk hD hM
  rw [hcv] at c2
  obtain ⟨m', g1, f1, v1⟩ := key _ 0 m2 (Nat.zero_add _) (hD.fr f2 (by decide) (by decide)) v2
  refine ⟨m', ?_, f2.trans f1, v1⟩
  show Go O (d + 2 * r + 5) kX2_firstOfLeast _ m' 0 [.ref 41, .int (nI h), .int (nI k), .null, .null] [] m
  refine go_aload_n dX2_firstOfLeast_0 rfl ?_
  refine go_iload_n dX2_firstOfLeast_1 rfl ?_
  refine go_iload_n dX2_firstOfLeast_2 rfl ?_
  refine go_callV1 (K' := kX2_need) [_, _] dX2_firstOfLeast_3 mX2_66 lX2_need rfl (by decide) rfl (by decide) rfl rfl (Nat.le_of_ble_eq_true rfl) (Nat.le_of_ble_eq_true rfl) (c2) ?_
  refine go_istore_n (L' := [_, _, _, _, _]) dX2_firstOfLeast_6 (by decide) rfl ?_
  refine go_iconst (nI 0) dX2_firstOfLeast_7 (by decide +kernel) ?_
  refine go_istore (L' := [_, _, _, _, _]) dX2_firstOfLeast_8 (by decide) rfl ?_
  exact g1
theorem c_planned_29 {O : gOm} {d : Nat} {m : gMem} {G : Nat → Nat → Nat} {w : Nat} (hw : w < 64) (hg : ∀ h a, G h a < 64) {h0 i0 k0 : Nat} (hi0 : h0 + i0 < 6) (hk0 : k0 < 64) (hD : OkD m 29 G w) (hM : NdM G w (m.1 42)) (hv : nR G w (6 - h0) k0 < 99) : ∃ m', Ca O (d + 16) kX2_planned [.ref 41, .int (nI h0), .int (nI k0), .int (nI i0)] (some (.int (nI (plan G w i0 (5 - h0) k0)))) m m' ∧ Fr [42] m m' := by
  have key : ∀ i h k x (m1 : gMem), h + i = h0 + i0 → h0 ≤ h → k < 64 → nR G w (6 - h) k < 99 → OkD m1 29 G w → NdM G w (m1.1 42) → ∃ m', Go O (d + 16) kX2_planned (some (.int (nI (plan G w i (5 - h) k)))) m' 9 [.ref 41, .int (nI h0), .int (nI k0), .int (nI i0), .int (nI k), x, .int (nI h)] [] m1 ∧ Fr [42] m1 m' := by
    intro i
    induction i with
    | zero =>
      intro h k x m1 hi hh hk hv1 hD1 hM1
      obtain ⟨r, hr⟩ : ∃ r, h + (r + 1) = 6 := ⟨5 - h, by omega⟩
      have e6 : 6 - h = r + 1 := by omega
      have e5 : 5 - h = r := by omega
      rw [e6] at hv1
      rw [e5]
      obtain ⟨s1, ⟨t0, s2, s3⟩, s4⟩ := stp_ok hv1
      obtain ⟨m2, c2, f2, v2⟩ := c_firstOfLeast_29 (O := O) (d := d + (10 - 2 * r)) hw hg hr hk hD1 hM1 hv1
      rw [show d + (10 - 2 * r) + 2 * r + 5 = d + 15 by omega] at c2
      have cb := c_obh_29 (O := O) (d := d + 13) (k := k) (gr := G h) (S := stp G w r k) (h := h) (hD1.fr f2 (by decide) (by decide)).1 (fun a ha => (hD1.fr f2 (by decide) (by decide)).2.2 h a (by omega) ha) (hg h) (by omega) s1 hk
      have eg : 5 - r = h := by omega
      rw [eg] at s2
      rw [s2] at cb
      refine ⟨m2, ?_, f2⟩
      have fin : ∀ y, Go O (d + 16) kX2_planned (some (.int (nI (plan G w 0 r k)))) m2 9 [.ref 41, .int (nI h0), .int (nI k0), .int (nI i0), y, .int (nI (stp G w r k)), .int (nI (h + 1))] [] m2 := by
        intro y
        refine go_iload dX2_planned_9 rfl ?_
        refine go_iload_n dX2_planned_11 rfl ?_
        refine go_iload_n dX2_planned_12 rfl ?_
        first | refine go_iadd_n dX2_planned_13 ?_ | refine go_iadd dX2_planned_13 rfl ?_
        refine go_icmp_gt 52 dX2_planned_14 (by decide) (fun h14 => ?_) (fun h => absurd (nI_lt (by omega) (by omega)) h)
        refine go_iload dX2_planned_52 rfl ?_
        exact go_iret dX2_planned_54 rfl rfl rfl
      refine go_iload dX2_planned_9 rfl ?_
      refine go_iload_n dX2_planned_11 rfl ?_
      refine go_iload_n dX2_planned_12 rfl ?_
      first | refine go_iadd_n dX2_planned_13 ?_ | refine go_iadd dX2_planned_13 rfl ?_
      refine go_icmp_gt 52 dX2_planned_14 (by decide) (fun h => absurd h (nI_nlt (by omega) (by omega))) (fun h14 => ?_)
      refine go_iload dX2_planned_17 rfl ?_
      refine go_bipush (nI 6) dX2_planned_19 (by decide +kernel) ?_
      refine go_icmp_ge 52 dX2_planned_21 (by decide) (fun h => absurd h (nI_ge (by omega) (by omega))) (fun h21 => ?_)
      refine go_aload_n dX2_planned_24 rfl ?_
      refine go_iload dX2_planned_25 rfl ?_
      refine go_iload dX2_planned_27 rfl ?_
      refine go_callV1 (K' := kX2_firstOfLeast) [_, _] dX2_planned_29 mX2_69 lX2_firstOfLeast rfl (by decide) rfl (by decide) rfl rfl (Nat.le_of_ble_eq_true rfl) (Nat.le_of_ble_eq_true rfl) (c2) ?_
      refine go_istore (L' := [_, _, _, _, _, _, _]) dX2_planned_32 (by decide) rfl ?_
      refine go_aload_n dX2_planned_34 rfl ?_
      refine go_iload dX2_planned_35 rfl ?_
      refine go_iload dX2_planned_37 rfl ?_
      refine go_iload dX2_planned_39 rfl ?_
      refine go_callV1 (K' := kX2_behind) [_, _, _] dX2_planned_41 mX2_38 lX2_behind rfl (by decide) rfl (by decide) rfl rfl (Nat.le_of_ble_eq_true rfl) (Nat.le_of_ble_eq_true rfl) (cb) ?_
      refine go_istore (L' := [_, _, _, _, _, _, _]) dX2_planned_44 (by decide) rfl ?_
      refine go_iinc_n (L' := [_, _, _, _, _, _, _]) dX2_planned_46 rfl (by decide) rfl ?_
      refine go_goto 9 dX2_planned_49 (by decide) ?_
      exact fin _
    | succ i ih =>
      intro h k x m1 hi hh hk hv1 hD1 hM1
      obtain ⟨r, hr⟩ : ∃ r, h + (r + 1) = 6 := ⟨5 - h, by omega⟩
      have e6 : 6 - h = r + 1 := by omega
      have e5 : 5 - h = r := by omega
      rw [e6] at hv1
      rw [e5]
      obtain ⟨s1, ⟨t0, s2, s3⟩, s4⟩ := stp_ok hv1
      obtain ⟨m2, c2, f2, v2⟩ := c_firstOfLeast_29 (O := O) (d := d + (10 - 2 * r)) hw hg hr hk hD1 hM1 hv1
      rw [show d + (10 - 2 * r) + 2 * r + 5 = d + 15 by omega] at c2
      have hD2 := hD1.fr f2 (by decide) (by decide)
      have cb := c_obh_29 (O := O) (d := d + 13) (k := k) (gr := G h) (S := stp G w r k) (h := h) hD2.1 (fun a ha => hD2.2.2 h a (by omega) ha) (hg h) (by omega) s1 hk
      have eg : 5 - r = h := by omega
      rw [eg] at s2
      rw [s2] at cb
      have ht0 := bh_lt hk (hg h) s2
      obtain ⟨m', g1, f1⟩ := ih (h + 1) t0 (.int (nI (stp G w r k))) m2 (by omega) (by omega) ht0 (by rw [show 6 - (h + 1) = r by omega]; omega) hD2 v2
      rw [show 5 - (h + 1) = r - 1 by omega] at g1
      have ep : plan G w (i + 1) r k = plan G w i (r - 1) t0 := by rw [plan, eg, s2]; rfl
      rw [ep]
      refine ⟨m', ?_, f2.trans f1⟩
      refine go_iload dX2_planned_9 rfl ?_
      refine go_iload_n dX2_planned_11 rfl ?_
      refine go_iload_n dX2_planned_12 rfl ?_
      first | refine go_iadd_n dX2_planned_13 ?_ | refine go_iadd dX2_planned_13 rfl ?_
      refine go_icmp_gt 52 dX2_planned_14 (by decide) (fun h => absurd h (nI_nlt (by omega) (by omega))) (fun h14 => ?_)
      refine go_iload dX2_planned_17 rfl ?_
      refine go_bipush (nI 6) dX2_planned_19 (by decide +kernel) ?_
      refine go_icmp_ge 52 dX2_planned_21 (by decide) (fun h => absurd h (nI_ge (by omega) (by omega))) (fun h21 => ?_)
      refine go_aload_n dX2_planned_24 rfl ?_
      refine go_iload dX2_planned_25 rfl ?_
      refine go_iload dX2_planned_27 rfl ?_
      refine go_callV1 (K' := kX2_firstOfLeast) [_, _] dX2_planned_29 mX2_69 lX2_firstOfLeast rfl (by decide) rfl (by decide) rfl rfl (Nat.le_of_ble_eq_true rfl) (Nat.le_of_ble_eq_true rfl) (c2) ?_
      refine go_istore (L' := [_, _, _, _, _, _, _]) dX2_planned_32 (by decide) rfl ?_
      refine go_aload_n dX2_planned_34 rfl ?_
      refine go_iload dX2_planned_35 rfl ?_
      refine go_iload dX2_planned_37 rfl ?_
      refine go_iload dX2_planned_39 rfl ?_
      refine go_callV1 (K' := kX2_behind) [_, _, _] dX2_planned_41 mX2_38 lX2_behind rfl (by decide) rfl (by decide) rfl rfl (Nat.le_of_ble_eq_true rfl) (Nat.le_of_ble_eq_true rfl) (cb) ?_
      refine go_istore (L' := [_, _, _, _, _, _, _]) dX2_planned_44 (by decide) rfl ?_
      refine go_iinc_n (L' := [_, _, _, _, _, _, _]) dX2_planned_46 rfl (by decide) rfl ?_
      refine go_goto 9 dX2_planned_49 (by decide) ?_
      exact g1
  obtain ⟨m', g1, f1⟩ := key i0 h0 k0 (.int (nI 0)) m rfl (Nat.le_refl _) hk0 hv hD hM
  refine ⟨m', ?_, f1⟩
  show Go O (d + 16) kX2_planned _ m' 0 [.ref 41, .int (nI h0), .int (nI k0), .int (nI i0), .null, .null, .null] [] m
  refine go_iload_n dX2_planned_0 rfl ?_
  refine go_istore (L' := [_, _, _, _, _, _, _]) dX2_planned_1 (by decide) rfl ?_
  refine go_iconst (nI 0) dX2_planned_3 (by decide +kernel) ?_
  refine go_istore (L' := [_, _, _, _, _, _, _]) dX2_planned_4 (by decide) rfl ?_
  refine go_iload_n dX2_planned_6 rfl ?_
  refine go_istore (L' := [_, _, _, _, _, _, _]) dX2_planned_7 (by decide) rfl ?_
  exact g1
def wtM_29 (m : gMem) (w : Int32) : gMem := gupA (gup (gupR m 2 29) 41 5 w) 42 (flP (m.1 42) (-1) 384)
theorem c_want_29 {O : gOm} {d : Nat} {m : gMem} {w : Int32} : Ca O (d + 1) kX2_want [.ref 41, .ref 29, .int w] none m (wtM_29 m w) := by
  show Go O (d + 1) kX2_want none _ 0 [.ref 41, .ref 29, .int w] [] m
  refine go_aload_n dX2_want_0 rfl ?_
  refine go_aload_n dX2_want_1 rfl ?_
  refine go_putr dX2_want_2 fX2_24 rfl (by decide) (by decide) (by decide) rfl (fun _ _ _ h => by cases h; rfl) ⟨_, rfl⟩ ?_
  refine go_aload_n dX2_want_5 rfl ?_
  refine go_iload_n dX2_want_6 rfl ?_
  refine go_puti dX2_want_7 fX2_42 rfl (by decide) (by decide) (by decide) rfl (fun _ _ _ h => by cases h; rfl) (Or.inl rfl) ?_
  refine go_aload_n dX2_want_10 rfl ?_
  refine go_getc dX2_want_11 fX2_9 rfl (by decide) (by decide) (by decide) rfl ?_
  refine go_iconst (-1) dX2_want_14 (by decide +kernel) ?_
  refine go_callS0 (K' := kJ7_fill_53178) [_, _] dX2_want_15 mX2_46 lJ7_fill_53178 rfl rfl (Nat.le_of_ble_eq_true rfl) (Nat.le_of_ble_eq_true rfl) (c_fill rfl (by decide) (by decide)) ?_
  exact go_vret dX2_want_18 rfl rfl rfl
theorem wtM_ok_29 {m : gMem} {G : Nat → Nat → Nat} {w : Nat} (hG : ∀ h a, h < 6 → a < 3 → m.1 31 (h * 3 + a) = nI (G h a)) : OkD (wtM_29 m (nI w)) 29 G w ∧ NdM G w ((wtM_29 m (nI w)).1 42) := by
  refine ⟨⟨rfl, rfl, fun h a hh ha => hG h a hh ha⟩, fun h k hh hk => Or.inl ?_⟩
  show flP (m.1 42) (-1) 384 (h * 64 + k) = -1
  rw [flP_at, if_pos (by omega)]
theorem c_refusal_29 {O : gOm} {d : Nat} {m : gMem} {n x : Int32} {P N lw : Nat} (hT : m.2 0 = 29) (t5 : m.1 29 5 = nI P) (hP6 : P ≤ 6) (t6 : m.1 29 6 = nI N) (hN3 : N ≤ 3) (t7 : m.1 29 7 = nI lw) (hl3 : lw < 3) : Ca O (d + 1) kX6_refusalOfPlan [.ref 0, .int n, .int x] (some (.int (rfP n x P N lw))) m m := by
  have e2 : 2 ^ P ≤ 64 := Nat.pow_le_pow_right (n := 2) (by omega) hP6
  show Go O (d + 1) kX6_refusalOfPlan _ m 0 [.ref 0, .int n, .int x] [] m
  refine go_aload_n dX6_refusalOfPlan_0 rfl ?_
  refine go_iload_n dX6_refusalOfPlan_1 rfl ?_
  refine go_callV1 (K' := kX6_isNews) [_] dX6_refusalOfPlan_2 mX6_116 lX6_isNews rfl (by decide) rfl (by decide) rfl rfl (Nat.le_of_ble_eq_true rfl) (Nat.le_of_ble_eq_true rfl) (c_isNews_29 hT t6 (by omega)) ?_
  refine go_if_ne 10 dX6_refusalOfPlan_5 (by decide) (fun h5 => ?_) (fun h5 => ?_)
  · have en : iR n N = true := bI_n0.mp h5
    refine go_iload_n dX6_refusalOfPlan_10 rfl ?_
    refine go_if_lt 27 dX6_refusalOfPlan_11 (by decide) (fun h11 => ?_) (fun h11 => ?_)
    · have ex := iR_neg (n := 2 ^ P) h11
      refine go_bipush (-2) dX6_refusalOfPlan_27 (by decide +kernel) ?_
      exact go_iret dX6_refusalOfPlan_29 rfl (by rw [rfP, if_neg (by rw [en]; decide), if_pos ex]) rfl
    · refine go_iload_n dX6_refusalOfPlan_14 rfl ?_
      refine go_iconst (nI 1) dX6_refusalOfPlan_15 (by decide +kernel) ?_
      refine go_aload_n dX6_refusalOfPlan_16 rfl ?_
      refine go_getm dX6_refusalOfPlan_17 fX6_47 rfl (by decide) (by decide) (by decide) rfl hT ?_
      refine go_geti dX6_refusalOfPlan_20 fX6_85 rfl (by decide) (by decide) (by decide) rfl t5 ?_
      refine go_ishl dX6_refusalOfPlan_23 (nb_one (by omega)) ?_
      refine go_icmp_lt 30 dX6_refusalOfPlan_24 (by decide) (fun h24 => ?_) (fun h24 => ?_)
      · have ex : iR x (2 ^ P) = true := iR_mid (by omega) h11 (by rw [Int32.not_le]; exact h24)
        refine go_aload_n dX6_refusalOfPlan_30 rfl ?_
        refine go_getm dX6_refusalOfPlan_31 fX6_47 rfl (by decide) (by decide) (by decide) rfl hT ?_
        refine go_geti dX6_refusalOfPlan_34 fX6_91 rfl (by decide) (by decide) (by decide) rfl t7 ?_
        refine go_if_eq 45 dX6_refusalOfPlan_37 (by decide) (fun h37 => ?_) (fun h37 => ?_)
        · have el : lw = 0 := (nI_eq (b := 0) (by omega) (by omega)).mp h37
          refine go_iconst (nI 0) dX6_refusalOfPlan_45 (by decide +kernel) ?_
          exact go_iret dX6_refusalOfPlan_46 rfl (by first | rw [rfP, if_neg (by rw [en]; decide), if_neg (by rw [ex]; decide), if_pos el] | rw [rfP, if_neg (by rw [en]; decide), if_neg (by rw [ex]; decide), if_neg (Decidable.not_not.mpr el)]) rfl
        · have el : lw ≠ 0 := fun z => h37 (by rw [z]; rfl)
          refine go_bipush (-3) dX6_refusalOfPlan_40 (by decide +kernel) ?_
          refine go_goto 46 dX6_refusalOfPlan_42 (by decide) ?_
          exact go_iret dX6_refusalOfPlan_46 rfl (by first | rw [rfP, if_neg (by rw [en]; decide), if_neg (by rw [ex]; decide), if_pos el] | rw [rfP, if_neg (by rw [en]; decide), if_neg (by rw [ex]; decide), if_neg (Decidable.not_not.mpr el)]) rfl
      · have ex := iR_big (n := 2 ^ P) (by omega) (Int32.not_lt.mp h24)
        refine go_bipush (-2) dX6_refusalOfPlan_27 (by decide +kernel) ?_
        exact go_iret dX6_refusalOfPlan_29 rfl (by rw [rfP, if_neg (by rw [en]; decide), if_pos ex]) rfl
  · have en : iR n N = false := bI_0.mp h5
    refine go_iconst (-1) dX6_refusalOfPlan_8 (by decide +kernel) ?_
    exact go_iret dX6_refusalOfPlan_9 rfl (by rw [rfP, if_pos en]) rfl
theorem c_least_29 {O : gOm} {d : Nat} {m : gMem} {G : Nat → Nat → Nat} {w h k n a b : Nat} (hT : m.2 0 = 29) (hw : w < 64) (hg : ∀ h a, G h a < 64) (hh : h < 6) (hk : k < 64) (hn : n < 3) (hG : ∀ h a, h < 6 → a < 3 → m.1 31 (h * 3 + a) = nI (G h a)) (s4 : m.1 3 4 = nI h) (sk : m.1 4 n = nI k) (ha : m.1 32 n = nI a) (hb : nI 0 + m.1 7 (n * 3 + 0) + m.1 7 (n * 3 + 1) + m.1 7 (n * 3 + 2) = nI b) (hab : b ≤ a) (ha9 : a ≤ 9) : ∃ m', Ca O (d + 16) kX6_leastTellings [.ref 0, .int (nI n), .int (nI w)] (some (.int (if nR G w (6 - h) k ≤ a - b then nI (nR G w (6 - h) k) else -9))) m m' ∧ Fr [42] (wtM_29 m (nI w)) m' ∧ OkD m' 29 G w ∧ NdM G w (m'.1 42) := by
  obtain ⟨o1, o2⟩ := wtM_ok_29 (w := w) hG
  obtain ⟨m', c1, f1, v1⟩ := c_need_29 (O := O) (d := d + (13 - 2 * (6 - h))) hw hg (6 - h) (wtM_29 m (nI w)) h k (by omega) hk o1 o2
  rw [show d + (13 - 2 * (6 - h)) + 2 * (6 - h) + 2 = d + 15 by omega] at c1
  refine ⟨m', ?_, f1, o1.fr f1 (by decide) (by decide), v1⟩
  have hc := cR_n G w (6 - h) k
  have e7 : m'.1 7 = m.1 7 := (f1.2 7 (by decide)).trans rfl
  show Go O (d + 16) kX6_leastTellings _ m' 0 [.ref 0, .int (nI n), .int (nI w), .null] [] m
  refine go_aload_n dX6_leastTellings_0 rfl ?_
  refine go_getc dX6_leastTellings_1 fX6_59 rfl (by decide) (by decide) (by decide) rfl ?_
  refine go_aload_n dX6_leastTellings_4 rfl ?_
  refine go_getm dX6_leastTellings_5 fX6_47 rfl (by decide) (by decide) (by decide) rfl hT ?_
  refine go_iload_n dX6_leastTellings_8 rfl ?_
  refine go_callV0 (K' := kX2_want) [_, _] dX6_leastTellings_9 mX6_219 lX2_want rfl (by decide) rfl (by decide) rfl rfl (Nat.le_of_ble_eq_true rfl) (Nat.le_of_ble_eq_true rfl) (c_want_29) ?_
  refine go_aload_n dX6_leastTellings_12 rfl ?_
  refine go_getc dX6_leastTellings_13 fX6_59 rfl (by decide) (by decide) (by decide) rfl ?_
  refine go_aload_n dX6_leastTellings_16 rfl ?_
  refine go_getc dX6_leastTellings_17 fX6_19 rfl (by decide) (by decide) (by decide) rfl ?_
  refine go_geti dX6_leastTellings_20 fX6_94 rfl (by decide) (by decide) (by decide) rfl s4 ?_
  refine go_aload_n dX6_leastTellings_23 rfl ?_
  refine go_getc dX6_leastTellings_24 fX6_19 rfl (by decide) (by decide) (by decide) rfl ?_
  refine go_getc dX6_leastTellings_27 fX6_130 rfl (by decide) (by decide) (by decide) rfl ?_
  refine go_iload_n dX6_leastTellings_30 rfl ?_
  refine go_iald dX6_leastTellings_31 rfl (by decide) rfl (by omega) (by decide) sk ?_
  refine go_callV1 (K' := kX2_need) [_, _] dX6_leastTellings_32 mX6_262 lX2_need rfl (by decide) rfl (by decide) rfl rfl (Nat.le_of_ble_eq_true rfl) (Nat.le_of_ble_eq_true rfl) (c1) ?_
  refine go_istore_n (L' := [_, _, _, _]) dX6_leastTellings_35 (by decide) rfl ?_
  refine go_iload_n dX6_leastTellings_36 rfl ?_
  refine go_aload_n dX6_leastTellings_37 rfl ?_
  refine go_iload_n dX6_leastTellings_38 rfl ?_
  refine go_callV1 (K' := kX6_leftOf) [_] dX6_leastTellings_39 mX6_201 lX6_leftOf rfl (by decide) rfl (by decide) rfl rfl (Nat.le_of_ble_eq_true rfl) (Nat.le_of_ble_eq_true rfl) (c_leftOfX_29 ((congrFun f1.1 0).trans hT) hn ((congrFun (f1.2 32 (by decide)) n).trans ha) (by rw [e7]; exact hb) hab) ?_
  refine go_icmp_gt 49 dX6_leastTellings_42 (by decide) (fun h42 => ?_) (fun h42 => ?_)
  · have z := (nI_ltI (by omega) (by omega)).mp h42
    have er : ¬ nR G w (6 - h) k ≤ a - b := by omega
    refine go_bipush (-9) dX6_leastTellings_49 (by decide +kernel) ?_
    exact go_iret dX6_leastTellings_51 rfl (by first | rw [if_neg er] | rw [if_pos er, er2]) rfl
  · have z : ¬ a - b < cR G w (6 - h) k := fun q => h42 (nI_lt q (by omega))
    have er : nR G w (6 - h) k ≤ a - b := by omega
    have er2 : cR G w (6 - h) k = nR G w (6 - h) k := by omega
    refine go_iload_n dX6_leastTellings_45 rfl ?_
    refine go_goto 51 dX6_leastTellings_46 (by decide) ?_
    exact go_iret dX6_leastTellings_51 rfl (by first | rw [if_neg er] | rw [if_pos er, er2]) rfl
theorem c_firstOfLeast_35 {O : gOm} {d : Nat} {m : gMem} {G : Nat → Nat → Nat} {w r h k : Nat} (hw : w < 64) (hg : ∀ h a, G h a < 64) (hr : h + (r + 1) = 6) (hk : k < 64) (hD : OkD m 35 G w) (hM : NdM G w (m.1 42)) (hv : nR G w (r + 1) k < 99) : ∃ m', Ca O (d + 2 * r + 5) kX2_firstOfLeast [.ref 41, .int (nI h), .int (nI k)] (some (.int (nI (stp G w r k)))) m m' ∧ Fr [42] m m' ∧ NdM G w (m'.1 42) := by
  obtain ⟨s1, ⟨t0, s2, s3⟩, s4⟩ := stp_ok hv
  have e5 : 5 - r = h := by omega
  have hcv : cR G w (r + 1) k = nR G w (r + 1) k := by rw [cR_n]; omega
  have hNd : NdOk_35 O (d + 2 * r + 1 + 2) G w r := by
    have z := c_need_35 (O := O) (d := d + 1) hw hg r
    rwa [show d + 1 + 2 * r + 2 = d + 2 * r + 1 + 2 by omega] at z
  have key : ∀ n j (m1 : gMem), j + n = stp G w r k → OkD m1 35 G w → NdM G w (m1.1 42) → ∃ m', Go O (d + 2 * r + 5) kX2_firstOfLeast (some (.int (nI (stp G w r k)))) m' 10 [.ref 41, .int (nI h), .int (nI k), .int (nI (nR G w (r + 1) k)), .int (nI j)] [] m1 ∧ Fr [42] m1 m' ∧ NdM G w (m'.1 42) := by
    intro n
    induction n with
    | zero =>
      intro j m1 hj hD1 hM1
      obtain rfl : j = stp G w r k := by omega
      obtain ⟨m2, c2, f2, v2⟩ := c_needBy_35 (d := d + 2 * r + 1) (S := stp G w r k) (k := k) (h := h) hNd hg hr hk s1 hD1 hM1
      have eb : byC (G (5 - r)) (cR G w r) k (stp G w r k) = nR G w (r + 1) k := by
        simp only [byC, s2]
        rw [cR_n]
        omega
      rw [eb] at c2
      have cb := c_obh_35 (O := O) (d := d + 2 * r + 2) (k := k) (gr := G h) (S := stp G w r k) (h := h) (hD1.fr f2 (by decide) (by decide)).1 (fun a ha => (hD1.fr f2 (by decide) (by decide)).2.2 h a (by omega) ha) (hg h) (by omega) s1 hk
      rw [e5] at s2
      have ht0 := bh_lt hk (hg h) s2
      rw [s2] at cb
      refine ⟨m2, ?_, f2, v2⟩
      refine go_iload dX2_firstOfLeast_10 rfl ?_
      refine go_bipush (nI 8) dX2_firstOfLeast_12 (by decide +kernel) ?_
      refine go_icmp_ge 49 dX2_firstOfLeast_14 (by decide) (fun h => absurd h (nI_ge (by omega) (by omega))) (fun h14 => ?_)
      refine go_aload_n dX2_firstOfLeast_17 rfl ?_
      refine go_iload_n dX2_firstOfLeast_18 rfl ?_
      refine go_iload_n dX2_firstOfLeast_19 rfl ?_
      refine go_iload dX2_firstOfLeast_20 rfl ?_
      refine go_callV1 (K' := kX2_needBy) [_, _, _] dX2_firstOfLeast_22 mX2_52 lX2_needBy rfl (by decide) rfl (by decide) rfl rfl (Nat.le_of_ble_eq_true rfl) (Nat.le_of_ble_eq_true rfl) (c2) ?_
      refine go_iload_n dX2_firstOfLeast_25 rfl ?_
      refine go_icmp_ne 43 dX2_firstOfLeast_26 (by decide) (fun h => absurd h (fun q => q rfl)) (fun h26 => ?_)
      refine go_aload_n dX2_firstOfLeast_29 rfl ?_
      refine go_iload_n dX2_firstOfLeast_30 rfl ?_
      refine go_iload dX2_firstOfLeast_31 rfl ?_
      refine go_iload_n dX2_firstOfLeast_33 rfl ?_
      refine go_callV1 (K' := kX2_behind) [_, _, _] dX2_firstOfLeast_34 mX2_38 lX2_behind rfl (by decide) rfl (by decide) rfl rfl (Nat.le_of_ble_eq_true rfl) (Nat.le_of_ble_eq_true rfl) (cb) ?_
      refine go_if_lt 43 dX2_firstOfLeast_37 (by decide) (fun h => absurd h (nI_pos (by omega))) (fun h37 => ?_)
      refine go_iload dX2_firstOfLeast_40 rfl ?_
      exact go_iret dX2_firstOfLeast_42 rfl rfl rfl
    | succ n ih =>
      intro j m1 hj hD1 hM1
      obtain ⟨m2, c2, f2, v2⟩ := c_needBy_35 (d := d + 2 * r + 1) (S := j) (k := k) (h := h) hNd hg hr hk (by omega) hD1 hM1
      have hpl := s4 j (by omega)
      have eb : byC (G (5 - r)) (cR G w r) k j ≠ nR G w (r + 1) k ∧ byC (G (5 - r)) (cR G w r) k j ≤ 99 := by
        simp only [byC]
        unfold plB at hpl
        cases hb : bh (G (5 - r)) j k with
        | none => dsimp only; omega
        | some t =>
          rw [hb] at hpl
          dsimp only at hpl ⊢
          have := of_decide_eq_false hpl
          rw [cR_n]
          omega
      obtain ⟨m', g1, f1, v1⟩ := ih (j + 1) m2 (by omega) (hD1.fr f2 (by decide) (by decide)) v2
      refine ⟨m', ?_, f2.trans f1, v1⟩
      refine go_iload dX2_firstOfLeast_10 rfl ?_
      refine go_bipush (nI 8) dX2_firstOfLeast_12 (by decide +kernel) ?_
      refine go_icmp_ge 49 dX2_firstOfLeast_14 (by decide) (fun h => absurd h (nI_ge (by omega) (by omega))) (fun h14 => ?_)
      refine go_aload_n dX2_firstOfLeast_17 rfl ?_
      refine go_iload_n dX2_firstOfLeast_18 rfl ?_
      refine go_iload_n dX2_firstOfLeast_19 rfl ?_
      refine go_iload dX2_firstOfLeast_20 rfl ?_
      refine go_callV1 (K' := kX2_needBy) [_, _, _] dX2_firstOfLeast_22 mX2_52 lX2_needBy rfl (by decide) rfl (by decide) rfl rfl (Nat.le_of_ble_eq_true rfl) (Nat.le_of_ble_eq_true rfl) (c2) ?_
      refine go_iload_n dX2_firstOfLeast_25 rfl ?_
      refine go_icmp_ne 43 dX2_firstOfLeast_26 (by decide) (fun h26 => ?_) (fun h => absurd h (fun q => eb.1 ((nI_eq (by omega) (by omega)).mp q)))
      refine go_iinc_n (L' := [_, _, _, _, _]) dX2_firstOfLeast_43 rfl (by decide) rfl ?_
      refine go_goto 10 dX2_firstOfLeast_46 (by decide) ?_
      exact g1
  obtain ⟨m2, c2, f2, v2⟩ := c_need_35 (O := O) (d := d) hw hg (r + 1) m h k hr hk hD hM
  rw [hcv] at c2
  obtain ⟨m', g1, f1, v1⟩ := key _ 0 m2 (Nat.zero_add _) (hD.fr f2 (by decide) (by decide)) v2
  refine ⟨m', ?_, f2.trans f1, v1⟩
  show Go O (d + 2 * r + 5) kX2_firstOfLeast _ m' 0 [.ref 41, .int (nI h), .int (nI k), .null, .null] [] m
  refine go_aload_n dX2_firstOfLeast_0 rfl ?_
  refine go_iload_n dX2_firstOfLeast_1 rfl ?_
  refine go_iload_n dX2_firstOfLeast_2 rfl ?_
  refine go_callV1 (K' := kX2_need) [_, _] dX2_firstOfLeast_3 mX2_66 lX2_need rfl (by decide) rfl (by decide) rfl rfl (Nat.le_of_ble_eq_true rfl) (Nat.le_of_ble_eq_true rfl) (c2) ?_
  refine go_istore_n (L' := [_, _, _, _, _]) dX2_firstOfLeast_6 (by decide) rfl ?_
  refine go_iconst (nI 0) dX2_firstOfLeast_7 (by decide +kernel) ?_
  refine go_istore (L' := [_, _, _, _, _]) dX2_firstOfLeast_8 (by decide) rfl ?_
  exact g1
theorem c_planned_35 {O : gOm} {d : Nat} {m : gMem} {G : Nat → Nat → Nat} {w : Nat} (hw : w < 64) (hg : ∀ h a, G h a < 64) {h0 i0 k0 : Nat} (hi0 : h0 + i0 < 6) (hk0 : k0 < 64) (hD : OkD m 35 G w) (hM : NdM G w (m.1 42)) (hv : nR G w (6 - h0) k0 < 99) : ∃ m', Ca O (d + 16) kX2_planned [.ref 41, .int (nI h0), .int (nI k0), .int (nI i0)] (some (.int (nI (plan G w i0 (5 - h0) k0)))) m m' ∧ Fr [42] m m' := by
  have key : ∀ i h k x (m1 : gMem), h + i = h0 + i0 → h0 ≤ h → k < 64 → nR G w (6 - h) k < 99 → OkD m1 35 G w → NdM G w (m1.1 42) → ∃ m', Go O (d + 16) kX2_planned (some (.int (nI (plan G w i (5 - h) k)))) m' 9 [.ref 41, .int (nI h0), .int (nI k0), .int (nI i0), .int (nI k), x, .int (nI h)] [] m1 ∧ Fr [42] m1 m' := by
    intro i
    induction i with
    | zero =>
      intro h k x m1 hi hh hk hv1 hD1 hM1
      obtain ⟨r, hr⟩ : ∃ r, h + (r + 1) = 6 := ⟨5 - h, by omega⟩
      have e6 : 6 - h = r + 1 := by omega
      have e5 : 5 - h = r := by omega
      rw [e6] at hv1
      rw [e5]
      obtain ⟨s1, ⟨t0, s2, s3⟩, s4⟩ := stp_ok hv1
      obtain ⟨m2, c2, f2, v2⟩ := c_firstOfLeast_35 (O := O) (d := d + (10 - 2 * r)) hw hg hr hk hD1 hM1 hv1
      rw [show d + (10 - 2 * r) + 2 * r + 5 = d + 15 by omega] at c2
      have cb := c_obh_35 (O := O) (d := d + 13) (k := k) (gr := G h) (S := stp G w r k) (h := h) (hD1.fr f2 (by decide) (by decide)).1 (fun a ha => (hD1.fr f2 (by decide) (by decide)).2.2 h a (by omega) ha) (hg h) (by omega) s1 hk
      have eg : 5 - r = h := by omega
      rw [eg] at s2
      rw [s2] at cb
      refine ⟨m2, ?_, f2⟩
      have fin : ∀ y, Go O (d + 16) kX2_planned (some (.int (nI (plan G w 0 r k)))) m2 9 [.ref 41, .int (nI h0), .int (nI k0), .int (nI i0), y, .int (nI (stp G w r k)), .int (nI (h + 1))] [] m2 := by
        intro y
        refine go_iload dX2_planned_9 rfl ?_
        refine go_iload_n dX2_planned_11 rfl ?_
        refine go_iload_n dX2_planned_12 rfl ?_
        first | refine go_iadd_n dX2_planned_13 ?_ | refine go_iadd dX2_planned_13 rfl ?_
        refine go_icmp_gt 52 dX2_planned_14 (by decide) (fun h14 => ?_) (fun h => absurd (nI_lt (by omega) (by omega)) h)
        refine go_iload dX2_planned_52 rfl ?_
        exact go_iret dX2_planned_54 rfl rfl rfl
      refine go_iload dX2_planned_9 rfl ?_
      refine go_iload_n dX2_planned_11 rfl ?_
      refine go_iload_n dX2_planned_12 rfl ?_
      first | refine go_iadd_n dX2_planned_13 ?_ | refine go_iadd dX2_planned_13 rfl ?_
      refine go_icmp_gt 52 dX2_planned_14 (by decide) (fun h => absurd h (nI_nlt (by omega) (by omega))) (fun h14 => ?_)
      refine go_iload dX2_planned_17 rfl ?_
      refine go_bipush (nI 6) dX2_planned_19 (by decide +kernel) ?_
      refine go_icmp_ge 52 dX2_planned_21 (by decide) (fun h => absurd h (nI_ge (by omega) (by omega))) (fun h21 => ?_)
      refine go_aload_n dX2_planned_24 rfl ?_
      refine go_iload dX2_planned_25 rfl ?_
      refine go_iload dX2_planned_27 rfl ?_
      refine go_callV1 (K' := kX2_firstOfLeast) [_, _] dX2_planned_29 mX2_69 lX2_firstOfLeast rfl (by decide) rfl (by decide) rfl rfl (Nat.le_of_ble_eq_true rfl) (Nat.le_of_ble_eq_true rfl) (c2) ?_
      refine go_istore (L' := [_, _, _, _, _, _, _]) dX2_planned_32 (by decide) rfl ?_
      refine go_aload_n dX2_planned_34 rfl ?_
      refine go_iload dX2_planned_35 rfl ?_
      refine go_iload dX2_planned_37 rfl ?_
      refine go_iload dX2_planned_39 rfl ?_
      refine go_callV1 (K' := kX2_behind) [_, _, _] dX2_planned_41 mX2_38 lX2_behind rfl (by decide) rfl (by decide) rfl rfl (Nat.le_of_ble_eq_true rfl) (Nat.le_of_ble_eq_true rfl) (cb) ?_
      refine go_istore (L' := [_, _, _, _, _, _, _]) dX2_planned_44 (by decide) rfl ?_
      refine go_iinc_n (L' := [_, _, _, _, _, _, _]) dX2_planned_46 rfl (by decide) rfl ?_
      refine go_goto 9 dX2_planned_49 (by decide) ?_
      exact fin _
    | succ i ih =>
      intro h k x m1 hi hh hk hv1 hD1 hM1
      obtain ⟨r, hr⟩ : ∃ r, h + (r + 1) = 6 := ⟨5 - h, by omega⟩
      have e6 : 6 - h = r + 1 := by omega
      have e5 : 5 - h = r := by omega
      rw [e6] at hv1
      rw [e5]
      obtain ⟨s1, ⟨t0, s2, s3⟩, s4⟩ := stp_ok hv1
      obtain ⟨m2, c2, f2, v2⟩ := c_firstOfLeast_35 (O := O) (d := d + (10 - 2 * r)) hw hg hr hk hD1 hM1 hv1
      rw [show d + (10 - 2 * r) + 2 * r + 5 = d + 15 by omega] at c2
      have hD2 := hD1.fr f2 (by decide) (by decide)
      have cb := c_obh_35 (O := O) (d := d + 13) (k := k) (gr := G h) (S := stp G w r k) (h := h) hD2.1 (fun a ha => hD2.2.2 h a (by omega) ha) (hg h) (by omega) s1 hk
      have eg : 5 - r = h := by omega
      rw [eg] at s2
      rw [s2] at cb
      have ht0 := bh_lt hk (hg h) s2
      obtain ⟨m', g1, f1⟩ := ih (h + 1) t0 (.int (nI (stp G w r k))) m2 (by omega) (by omega) ht0 (by rw [show 6 - (h + 1) = r by omega]; omega) hD2 v2
      rw [show 5 - (h + 1) = r - 1 by omega] at g1
      have ep : plan G w (i + 1) r k = plan G w i (r - 1) t0 := by rw [plan, eg, s2]; rfl
      rw [ep]
      refine ⟨m', ?_, f2.trans f1⟩
      refine go_iload dX2_planned_9 rfl ?_
      refine go_iload_n dX2_planned_11 rfl ?_
      refine go_iload_n dX2_planned_12 rfl ?_
      first | refine go_iadd_n dX2_planned_13 ?_ | refine go_iadd dX2_planned_13 rfl ?_
      refine go_icmp_gt 52 dX2_planned_14 (by decide) (fun h => absurd h (nI_nlt (by omega) (by omega))) (fun h14 => ?_)
      refine go_iload dX2_planned_17 rfl ?_
      refine go_bipush (nI 6) dX2_planned_19 (by decide +kernel) ?_
      refine go_icmp_ge 52 dX2_planned_21 (by decide) (fun h => absurd h (nI_ge (by omega) (by omega))) (fun h21 => ?_)
      refine go_aload_n dX2_planned_24 rfl ?_
      refine go_iload dX2_planned_25 rfl ?_
      refine go_iload dX2_planned_27 rfl ?_
      refine go_callV1 (K' := kX2_firstOfLeast) [_, _] dX2_planned_29 mX2_69 lX2_firstOfLeast rfl (by decide) rfl (by decide) rfl rfl (Nat.le_of_ble_eq_true rfl) (Nat.le_of_ble_eq_true rfl) (c2) ?_
      refine go_istore (L' := [_, _, _, _, _, _, _]) dX2_planned_32 (by decide) rfl ?_
      refine go_aload_n dX2_planned_34 rfl ?_
      refine go_iload dX2_planned_35 rfl ?_
      refine go_iload dX2_planned_37 rfl ?_
      refine go_iload dX2_planned_39 rfl ?_
      refine go_callV1 (K' := kX2_behind) [_, _, _] dX2_planned_41 mX2_38 lX2_behind rfl (by decide) rfl (by decide) rfl rfl (Nat.le_of_ble_eq_true rfl) (Nat.le_of_ble_eq_true rfl) (cb) ?_
      refine go_istore (L' := [_, _, _, _, _, _, _]) dX2_planned_44 (by decide) rfl ?_
      refine go_iinc_n (L' := [_, _, _, _, _, _, _]) dX2_planned_46 rfl (by decide) rfl ?_
      refine go_goto 9 dX2_planned_49 (by decide) ?_
      exact g1
  obtain ⟨m', g1, f1⟩ := key i0 h0 k0 (.int (nI 0)) m rfl (Nat.le_refl _) hk0 hv hD hM
  refine ⟨m', ?_, f1⟩
  show Go O (d + 16) kX2_planned _ m' 0 [.ref 41, .int (nI h0), .int (nI k0), .int (nI i0), .null, .null, .null] [] m
  refine go_iload_n dX2_planned_0 rfl ?_
  refine go_istore (L' := [_, _, _, _, _, _, _]) dX2_planned_1 (by decide) rfl ?_
  refine go_iconst (nI 0) dX2_planned_3 (by decide +kernel) ?_
  refine go_istore (L' := [_, _, _, _, _, _, _]) dX2_planned_4 (by decide) rfl ?_
  refine go_iload_n dX2_planned_6 rfl ?_
  refine go_istore (L' := [_, _, _, _, _, _, _]) dX2_planned_7 (by decide) rfl ?_
  exact g1
def wtM_35 (m : gMem) (w : Int32) : gMem := gupA (gup (gupR m 2 35) 41 5 w) 42 (flP (m.1 42) (-1) 384)
theorem c_want_35 {O : gOm} {d : Nat} {m : gMem} {w : Int32} : Ca O (d + 1) kX2_want [.ref 41, .ref 35, .int w] none m (wtM_35 m w) := by
  show Go O (d + 1) kX2_want none _ 0 [.ref 41, .ref 35, .int w] [] m
  refine go_aload_n dX2_want_0 rfl ?_
  refine go_aload_n dX2_want_1 rfl ?_
  refine go_putr dX2_want_2 fX2_24 rfl (by decide) (by decide) (by decide) rfl (fun _ _ _ h => by cases h; rfl) ⟨_, rfl⟩ ?_
  refine go_aload_n dX2_want_5 rfl ?_
  refine go_iload_n dX2_want_6 rfl ?_
  refine go_puti dX2_want_7 fX2_42 rfl (by decide) (by decide) (by decide) rfl (fun _ _ _ h => by cases h; rfl) (Or.inl rfl) ?_
  refine go_aload_n dX2_want_10 rfl ?_
  refine go_getc dX2_want_11 fX2_9 rfl (by decide) (by decide) (by decide) rfl ?_
  refine go_iconst (-1) dX2_want_14 (by decide +kernel) ?_
  refine go_callS0 (K' := kJ7_fill_53178) [_, _] dX2_want_15 mX2_46 lJ7_fill_53178 rfl rfl (Nat.le_of_ble_eq_true rfl) (Nat.le_of_ble_eq_true rfl) (c_fill rfl (by decide) (by decide)) ?_
  exact go_vret dX2_want_18 rfl rfl rfl
theorem wtM_ok_35 {m : gMem} {G : Nat → Nat → Nat} {w : Nat} (hG : ∀ h a, h < 6 → a < 3 → m.1 37 (h * 3 + a) = nI (G h a)) : OkD (wtM_35 m (nI w)) 35 G w ∧ NdM G w ((wtM_35 m (nI w)).1 42) := by
  refine ⟨⟨rfl, rfl, fun h a hh ha => hG h a hh ha⟩, fun h k hh hk => Or.inl ?_⟩
  show flP (m.1 42) (-1) 384 (h * 64 + k) = -1
  rw [flP_at, if_pos (by omega)]
theorem c_refusal_35 {O : gOm} {d : Nat} {m : gMem} {n x : Int32} {P N lw : Nat} (hT : m.2 0 = 35) (t5 : m.1 35 5 = nI P) (hP6 : P ≤ 6) (t6 : m.1 35 6 = nI N) (hN3 : N ≤ 3) (t7 : m.1 35 7 = nI lw) (hl3 : lw < 3) : Ca O (d + 1) kX6_refusalOfPlan [.ref 0, .int n, .int x] (some (.int (rfP n x P N lw))) m m := by
  have e2 : 2 ^ P ≤ 64 := Nat.pow_le_pow_right (n := 2) (by omega) hP6
  show Go O (d + 1) kX6_refusalOfPlan _ m 0 [.ref 0, .int n, .int x] [] m
  refine go_aload_n dX6_refusalOfPlan_0 rfl ?_
  refine go_iload_n dX6_refusalOfPlan_1 rfl ?_
  refine go_callV1 (K' := kX6_isNews) [_] dX6_refusalOfPlan_2 mX6_116 lX6_isNews rfl (by decide) rfl (by decide) rfl rfl (Nat.le_of_ble_eq_true rfl) (Nat.le_of_ble_eq_true rfl) (c_isNews_35 hT t6 (by omega)) ?_
  refine go_if_ne 10 dX6_refusalOfPlan_5 (by decide) (fun h5 => ?_) (fun h5 => ?_)
  · have en : iR n N = true := bI_n0.mp h5
    refine go_iload_n dX6_refusalOfPlan_10 rfl ?_
    refine go_if_lt 27 dX6_refusalOfPlan_11 (by decide) (fun h11 => ?_) (fun h11 => ?_)
    · have ex := iR_neg (n := 2 ^ P) h11
      refine go_bipush (-2) dX6_refusalOfPlan_27 (by decide +kernel) ?_
      exact go_iret dX6_refusalOfPlan_29 rfl (by rw [rfP, if_neg (by rw [en]; decide), if_pos ex]) rfl
    · refine go_iload_n dX6_refusalOfPlan_14 rfl ?_
      refine go_iconst (nI 1) dX6_refusalOfPlan_15 (by decide +kernel) ?_
      refine go_aload_n dX6_refusalOfPlan_16 rfl ?_
      refine go_getm dX6_refusalOfPlan_17 fX6_47 rfl (by decide) (by decide) (by decide) rfl hT ?_
      refine go_geti dX6_refusalOfPlan_20 fX6_85 rfl (by decide) (by decide) (by decide) rfl t5 ?_
      refine go_ishl dX6_refusalOfPlan_23 (nb_one (by omega)) ?_
      refine go_icmp_lt 30 dX6_refusalOfPlan_24 (by decide) (fun h24 => ?_) (fun h24 => ?_)
      · have ex : iR x (2 ^ P) = true := iR_mid (by omega) h11 (by rw [Int32.not_le]; exact h24)
        refine go_aload_n dX6_refusalOfPlan_30 rfl ?_
        refine go_getm dX6_refusalOfPlan_31 fX6_47 rfl (by decide) (by decide) (by decide) rfl hT ?_
        refine go_geti dX6_refusalOfPlan_34 fX6_91 rfl (by decide) (by decide) (by decide) rfl t7 ?_
        refine go_if_eq 45 dX6_refusalOfPlan_37 (by decide) (fun h37 => ?_) (fun h37 => ?_)
        · have el : lw = 0 := (nI_eq (b := 0) (by omega) (by omega)).mp h37
          refine go_iconst (nI 0) dX6_refusalOfPlan_45 (by decide +kernel) ?_
          exact go_iret dX6_refusalOfPlan_46 rfl (by first | rw [rfP, if_neg (by rw [en]; decide), if_neg (by rw [ex]; decide), if_pos el] | rw [rfP, if_neg (by rw [en]; decide), if_neg (by rw [ex]; decide), if_neg (Decidable.not_not.mpr el)]) rfl
        · have el : lw ≠ 0 := fun z => h37 (by rw [z]; rfl)
          refine go_bipush (-3) dX6_refusalOfPlan_40 (by decide +kernel) ?_
          refine go_goto 46 dX6_refusalOfPlan_42 (by decide) ?_
          exact go_iret dX6_refusalOfPlan_46 rfl (by first | rw [rfP, if_neg (by rw [en]; decide), if_neg (by rw [ex]; decide), if_pos el] | rw [rfP, if_neg (by rw [en]; decide), if_neg (by rw [ex]; decide), if_neg (Decidable.not_not.mpr el)]) rfl
      · have ex := iR_big (n := 2 ^ P) (by omega) (Int32.not_lt.mp h24)
        refine go_bipush (-2) dX6_refusalOfPlan_27 (by decide +kernel) ?_
        exact go_iret dX6_refusalOfPlan_29 rfl (by rw [rfP, if_neg (by rw [en]; decide), if_pos ex]) rfl
  · have en : iR n N = false := bI_0.mp h5
    refine go_iconst (-1) dX6_refusalOfPlan_8 (by decide +kernel) ?_
    exact go_iret dX6_refusalOfPlan_9 rfl (by rw [rfP, if_pos en]) rfl
theorem c_least_35 {O : gOm} {d : Nat} {m : gMem} {G : Nat → Nat → Nat} {w h k n a b : Nat} (hT : m.2 0 = 35) (hw : w < 64) (hg : ∀ h a, G h a < 64) (hh : h < 6) (hk : k < 64) (hn : n < 3) (hG : ∀ h a, h < 6 → a < 3 → m.1 37 (h * 3 + a) = nI (G h a)) (s4 : m.1 3 4 = nI h) (sk : m.1 4 n = nI k) (ha : m.1 38 n = nI a) (hb : nI 0 + m.1 7 (n * 3 + 0) + m.1 7 (n * 3 + 1) + m.1 7 (n * 3 + 2) = nI b) (hab : b ≤ a) (ha9 : a ≤ 9) : ∃ m', Ca O (d + 16) kX6_leastTellings [.ref 0, .int (nI n), .int (nI w)] (some (.int (if nR G w (6 - h) k ≤ a - b then nI (nR G w (6 - h) k) else -9))) m m' ∧ Fr [42] (wtM_35 m (nI w)) m' ∧ OkD m' 35 G w ∧ NdM G w (m'.1 42) := by
  obtain ⟨o1, o2⟩ := wtM_ok_35 (w := w) hG
  obtain ⟨m', c1, f1, v1⟩ := c_need_35 (O := O) (d := d + (13 - 2 * (6 - h))) hw hg (6 - h) (wtM_35 m (nI w)) h k (by omega) hk o1 o2
  rw [show d + (13 - 2 * (6 - h)) + 2 * (6 - h) + 2 = d + 15 by omega] at c1
  refine ⟨m', ?_, f1, o1.fr f1 (by decide) (by decide), v1⟩
  have hc := cR_n G w (6 - h) k
  have e7 : m'.1 7 = m.1 7 := (f1.2 7 (by decide)).trans rfl
  show Go O (d + 16) kX6_leastTellings _ m' 0 [.ref 0, .int (nI n), .int (nI w), .null] [] m
  refine go_aload_n dX6_leastTellings_0 rfl ?_
  refine go_getc dX6_leastTellings_1 fX6_59 rfl (by decide) (by decide) (by decide) rfl ?_
  refine go_aload_n dX6_leastTellings_4 rfl ?_
  refine go_getm dX6_leastTellings_5 fX6_47 rfl (by decide) (by decide) (by decide) rfl hT ?_
  refine go_iload_n dX6_leastTellings_8 rfl ?_
  refine go_callV0 (K' := kX2_want) [_, _] dX6_leastTellings_9 mX6_219 lX2_want rfl (by decide) rfl (by decide) rfl rfl (Nat.le_of_ble_eq_true rfl) (Nat.le_of_ble_eq_true rfl) (c_want_35) ?_
  refine go_aload_n dX6_leastTellings_12 rfl ?_
  refine go_getc dX6_leastTellings_13 fX6_59 rfl (by decide) (by decide) (by decide) rfl ?_
  refine go_aload_n dX6_leastTellings_16 rfl ?_
  refine go_getc dX6_leastTellings_17 fX6_19 rfl (by decide) (by decide) (by decide) rfl ?_
  refine go_geti dX6_leastTellings_20 fX6_94 rfl (by decide) (by decide) (by decide) rfl s4 ?_
  refine go_aload_n dX6_leastTellings_23 rfl ?_
  refine go_getc dX6_leastTellings_24 fX6_19 rfl (by decide) (by decide) (by decide) rfl ?_
  refine go_getc dX6_leastTellings_27 fX6_130 rfl (by decide) (by decide) (by decide) rfl ?_
  refine go_iload_n dX6_leastTellings_30 rfl ?_
  refine go_iald dX6_leastTellings_31 rfl (by decide) rfl (by omega) (by decide) sk ?_
  refine go_callV1 (K' := kX2_need) [_, _] dX6_leastTellings_32 mX6_262 lX2_need rfl (by decide) rfl (by decide) rfl rfl (Nat.le_of_ble_eq_true rfl) (Nat.le_of_ble_eq_true rfl) (c1) ?_
  refine go_istore_n (L' := [_, _, _, _]) dX6_leastTellings_35 (by decide) rfl ?_
  refine go_iload_n dX6_leastTellings_36 rfl ?_
  refine go_aload_n dX6_leastTellings_37 rfl ?_
  refine go_iload_n dX6_leastTellings_38 rfl ?_
  refine go_callV1 (K' := kX6_leftOf) [_] dX6_leastTellings_39 mX6_201 lX6_leftOf rfl (by decide) rfl (by decide) rfl rfl (Nat.le_of_ble_eq_true rfl) (Nat.le_of_ble_eq_true rfl) (c_leftOfX_35 ((congrFun f1.1 0).trans hT) hn ((congrFun (f1.2 38 (by decide)) n).trans ha) (by rw [e7]; exact hb) hab) ?_
  refine go_icmp_gt 49 dX6_leastTellings_42 (by decide) (fun h42 => ?_) (fun h42 => ?_)
  · have z := (nI_ltI (by omega) (by omega)).mp h42
    have er : ¬ nR G w (6 - h) k ≤ a - b := by omega
    refine go_bipush (-9) dX6_leastTellings_49 (by decide +kernel) ?_
    exact go_iret dX6_leastTellings_51 rfl (by first | rw [if_neg er] | rw [if_pos er, er2]) rfl
  · have z : ¬ a - b < cR G w (6 - h) k := fun q => h42 (nI_lt q (by omega))
    have er : nR G w (6 - h) k ≤ a - b := by omega
    have er2 : cR G w (6 - h) k = nR G w (6 - h) k := by omega
    refine go_iload_n dX6_leastTellings_45 rfl ?_
    refine go_goto 51 dX6_leastTellings_46 (by decide) ?_
    exact go_iret dX6_leastTellings_51 rfl (by first | rw [if_neg er] | rw [if_pos er, er2]) rfl
