/-! SUMS -/
def sm (f : Nat → Nat) : Nat → Nat
  | 0 => 0
  | n + 1 => sm f n + f n
theorem sm_s (f : Nat → Nat) (n : Nat) : sm f (n + 1) = sm f n + f n := rfl
theorem sm_congr {f g : Nat → Nat} : ∀ n, (∀ j, j < n → f j = g j) → sm f n = sm g n
  | 0, _ => rfl
  | n + 1, h => by rw [sm, sm, sm_congr n (fun j hj => h j (by omega)), h n (by omega)]
theorem sm_le {f g : Nat → Nat} : ∀ n, (∀ j, j < n → f j ≤ g j) → sm f n ≤ sm g n
  | 0, _ => Nat.le_refl _
  | n + 1, h => Nat.add_le_add (sm_le n (fun j hj => h j (by omega))) (h n (by omega))
theorem sm_add (f g : Nat → Nat) : ∀ n, sm (fun j => f j + g j) n = sm f n + sm g n
  | 0 => rfl
  | n + 1 => by
    simp only [sm]
    rw [sm_add f g n]
    omega
theorem sm_zero {f : Nat → Nat} : ∀ n, (∀ j, j < n → f j = 0) → sm f n = 0
  | 0, _ => rfl
  | n + 1, h => by rw [sm, sm_zero n (fun j hj => h j (by omega)), h n (by omega)]
theorem sm_const (c : Nat) : ∀ n, sm (fun _ => c) n = n * c
  | 0 => by simp [sm]
  | n + 1 => by rw [sm, sm_const c n, Nat.succ_mul]
theorem sm_mul (c : Nat) (f : Nat → Nat) : ∀ n, sm (fun j => c * f j) n = c * sm f n
  | 0 => by simp [sm]
  | n + 1 => by simp only [sm]; rw [sm_mul c f n, Nat.mul_add]
theorem sm_swap (f : Nat → Nat → Nat) (b : Nat) : ∀ a, sm (fun i => sm (fun j => f i j) b) a = sm (fun j => sm (fun i => f i j) a) b
  | 0 => by simp only [sm]; rw [sm_zero b (fun _ _ => rfl)]
  | a + 1 => by
    rw [sm_s, sm_swap f b a, ← sm_add]
    rfl
theorem sm_ge {f : Nat → Nat} {j : Nat} : ∀ {n}, j < n → f j ≤ sm f n
  | 0, h => absurd h (by omega)
  | n + 1, h => by
    rw [sm]
    by_cases e : j = n
    · rw [e]; omega
    · have := sm_ge (f := f) (j := j) (n := n) (by omega)
      omega
theorem sm_pos {f : Nat → Nat} : ∀ {n}, 0 < sm f n ↔ ∃ j, j < n ∧ 0 < f j
  | 0 => ⟨fun h => absurd h (by simp [sm]), fun ⟨_, h, _⟩ => absurd h (by omega)⟩
  | n + 1 => by
    rw [sm]
    constructor
    · intro h
      by_cases e : 0 < f n
      · exact ⟨n, by omega, e⟩
      · obtain ⟨j, a, b⟩ := (sm_pos (f := f) (n := n)).mp (by omega)
        exact ⟨j, by omega, b⟩
    · rintro ⟨j, a, b⟩
      by_cases e : j = n
      · rw [e] at b; omega
      · have := (sm_pos (f := f) (n := n)).mpr ⟨j, by omega, b⟩
        omega
theorem sm_pick (x : Option Nat) (w : Nat) : ∀ n, sm (fun i => if x = some i then w else 0) n ≤ w ∧ ((∀ i, i < n → x ≠ some i) → sm (fun i => if x = some i then w else 0) n = 0)
  | 0 => ⟨Nat.zero_le _, fun _ => rfl⟩
  | n + 1 => by
    obtain ⟨h1, h2⟩ := sm_pick x w n
    simp only [sm]
    by_cases e : x = some n
    · have h3 := h2 (fun i hi q => by rw [e] at q; have := Option.some.inj q; omega)
      rw [if_pos e, h3]
      exact ⟨by omega, fun h => absurd e (h n (by omega))⟩
    · rw [if_neg e]
      exact ⟨by omega, fun h => by rw [h2 (fun i hi => h i (by omega))]⟩
/-- from a set and a number of tellings (10 k + t) by places S to the next -/
def cbI (gr : Nat → Nat) (most S j : Nat) : Option Nat := match bh gr S (j / 10) with
  | none => none
  | some k => if j % 10 + pc6 S ≤ most then some (10 * k + (j % 10 + pc6 S)) else none
def gW (gr : Nat → Nat) (most : Nat) (W : Nat → Nat) (i : Nat) : Nat := sm (fun j => sm (fun S => if cbI gr most S j = some i then W j else 0) 8) 640
theorem gW_tot (gr : Nat → Nat) (most : Nat) (W : Nat → Nat) : sm (gW gr most W) 640 ≤ 8 * sm W 640 := by
  have e : sm (gW gr most W) 640 = sm (fun j => sm (fun S => sm (fun i => if cbI gr most S j = some i then W j else 0) 640) 8) 640 := by
    show sm (fun i => sm (fun j => sm (fun S => if cbI gr most S j = some i then W j else 0) 8) 640) 640 = _
    rw [sm_swap]
    exact sm_congr 640 (fun j _ => sm_swap _ 8 640)
  rw [e, ← sm_mul]
  refine sm_le 640 (fun j _ => ?_)
  have := sm_le (f := fun S => sm (fun i => if cbI gr most S j = some i then W j else 0) 640) (g := fun _ => W j) 8 (fun S _ => (sm_pick _ _ 640).1)
  rw [sm_const] at this
  exact this
theorem cbI_lt {gr : Nat → Nat} {most S j i : Nat} (hg : ∀ a, gr a < 64) (hm : most ≤ 9) (hj : j < 640) (h : cbI gr most S j = some i) : i < 640 := by
  unfold cbI at h
  cases hb : bh gr S (j / 10) with
  | none => rw [hb] at h; cases h
  | some k =>
    rw [hb] at h
    dsimp only at h
    have := bh_lt (by omega) hg hb
    split at h
    · have := Option.some.inj h
      omega
    · cases h
theorem c_goWays {O : gOm} {d : Nat} {m : gMem} {P h most : Nat} {gr W : Nat → Nat} (hP : m.1 46 4 = nI P) (hP6 : P ≤ 6) (hG : grp (m.1 48) P h = gr) (hh : h < 6) (hm9 : most ≤ 9) (hW : ∀ i, i < 640 → m.1 65 i = nI (W i) ∧ W i < 2 ^ 31) : ∃ (x' y' : Nat → Int32), (∀ i, i < 640 → x' i = nI (gW gr most W i)) ∧ Ca O (d + 3) kX7_goWays [.ref 46, .int (nI h), .int (nI most)] none m (mm m 65 66 x' y') := by
  have hg : ∀ a, gr a < 64 := fun a => by rw [← hG]; exact grp_64 _ h a hP6
  have hGm : ∀ x y, grp ((mm m 65 66 x y).1 48) P h = gr := fun x y => by rw [mm_k _ _ _ (by decide) (by decide), hG]
  have inn : ∀ (j : Nat), j < 640 → 0 < W j → ∀ (T : Nat → Nat) q S (y : Nat → Int32), S + q = 8 → (∀ i, i < 640 → y i = nI (T i + sm (fun S => if cbI gr most S j = some i then W j else 0) S)) → ∃ y' : Nat → Int32, (∀ i, i < 640 → y' i = nI (T i + sm (fun S => if cbI gr most S j = some i then W j else 0) 8)) ∧ ∀ M, (∀ u v z, Go O (d + 3) kX7_goWays none M 116 [.ref 46, .int (nI h), .int (nI most), .int (nI j), u, v, z] [] (mm m 65 66 (m.1 65) y')) → ∀ v z, Go O (d + 3) kX7_goWays none M 34 [.ref 46, .int (nI h), .int (nI most), .int (nI j), .int (nI S), v, z] [] (mm m 65 66 (m.1 65) y) := by
    intro j hj hWj T q
    obtain ⟨w1, w2⟩ := hW j hj
    induction q with
    | zero =>
      intro S y hS hy
      obtain rfl : S = 8 := by omega
      refine ⟨y, hy, fun M kk v z => ?_⟩
      refine go_iload dX7_goWays_34 rfl ?_
      refine go_bipush (nI 8) dX7_goWays_36 (by decide +kernel) ?_
      refine go_icmp_ge 116 dX7_goWays_38 (by decide) (fun h38 => ?_) (fun h => absurd (nI_le (by omega) (by omega)) h)
      exact kk _ _ _
    | succ q ih =>
      intro S y hS hy
      have cb := c_behind (O := O) (d := d) (m := mm m 65 66 (m.1 65) y) (P := P) (h := h) (S := S) (k := j / 10) hP hP6 hh (by omega) (by omega)
      rw [hGm] at cb
      have hS6 := pc6_le S
      have step : ∀ (y1 : Nat → Int32), (∀ i, i < 640 → y1 i = nI (T i + sm (fun S => if cbI gr most S j = some i then W j else 0) (S + 1))) → (∀ M, (∀ v z, Go O (d + 3) kX7_goWays none M 110 [.ref 46, .int (nI h), .int (nI most), .int (nI j), .int (nI S), v, z] [] (mm m 65 66 (m.1 65) y1)) → ∀ v z, Go O (d + 3) kX7_goWays none M 34 [.ref 46, .int (nI h), .int (nI most), .int (nI j), .int (nI S), v, z] [] (mm m 65 66 (m.1 65) y)) → ∃ y' : Nat → Int32, (∀ i, i < 640 → y' i = nI (T i + sm (fun S => if cbI gr most S j = some i then W j else 0) 8)) ∧ ∀ M, (∀ u v z, Go O (d + 3) kX7_goWays none M 116 [.ref 46, .int (nI h), .int (nI most), .int (nI j), u, v, z] [] (mm m 65 66 (m.1 65) y')) → ∀ v z, Go O (d + 3) kX7_goWays none M 34 [.ref 46, .int (nI h), .int (nI most), .int (nI j), .int (nI S), v, z] [] (mm m 65 66 (m.1 65) y) := by
        intro y1 v1 hgo
        obtain ⟨y', r1, r2⟩ := ih (S + 1) y1 (by omega) v1
        refine ⟨y', r1, fun M kk => hgo M (fun v z => ?_)⟩
        have r3 := r2 M kk
        refine go_iinc_n (L' := [_, _, _, _, _, _, _]) dX7_goWays_110 rfl (by decide) rfl ?_
        refine go_goto 34 dX7_goWays_113 (by decide) ?_
        exact r3 _ _
      have eC : cbI gr most S j = match bh gr S (j / 10) with
        | none => none
        | some k => if j % 10 + pc6 S ≤ most then some (10 * k + (j % 10 + pc6 S)) else none := rfl
      have same : cbI gr most S j = none → ∀ i, i < 640 → y i = nI (T i + sm (fun S => if cbI gr most S j = some i then W j else 0) (S + 1)) := by
        intro e i hi
        rw [sm_s, e, if_neg (by simp), Nat.add_zero]
        exact hy i hi
      cases hbh : bh gr S (j / 10) with
      | none =>
        rw [hbh] at cb eC
        refine step y (same eC) (fun M kk v z => ?_)
        refine go_iload dX7_goWays_34 rfl ?_
        refine go_bipush (nI 8) dX7_goWays_36 (by decide +kernel) ?_
        refine go_icmp_ge 116 dX7_goWays_38 (by decide) (fun h => absurd h (nI_ge (by omega) (by omega))) (fun h38 => ?_)
        refine go_aload_n dX7_goWays_41 rfl ?_
        refine go_getc dX7_goWays_42 fX7_65 rfl (by decide) (by decide) (by decide) rfl ?_
        refine go_iload_n dX7_goWays_45 rfl ?_
        refine go_iald dX7_goWays_46 rfl (by decide) rfl (by omega) (by decide) w1 ?_
        refine go_if_le 116 dX7_goWays_47 (by decide) (fun h => absurd h (nI_nle (by omega) (by omega))) (fun h47 => ?_)
        refine go_aload_n dX7_goWays_50 rfl ?_
        refine go_iload dX7_goWays_51 rfl ?_
        refine go_iload_n dX7_goWays_53 rfl ?_
        refine go_iload_n dX7_goWays_54 rfl ?_
        refine go_bipush (nI 10) dX7_goWays_55 (by decide +kernel) ?_
        refine go_idiv dX7_goWays_57 (by decide +kernel) (pk_div (by omega) (by omega) (by omega)) ?_
        refine go_callV1 (K' := kX7_behind) [_, _, _] dX7_goWays_58 mX7_183 lX7_behind rfl (by decide) rfl (by decide) rfl rfl (Nat.le_of_ble_eq_true rfl) (Nat.le_of_ble_eq_true rfl) (cb) ?_
        refine go_istore (L' := [_, _, _, _, _, _, _]) dX7_goWays_61 (by decide) rfl ?_
        refine go_iload_n dX7_goWays_63 rfl ?_
        refine go_bipush (nI 10) dX7_goWays_64 (by decide +kernel) ?_
        refine go_irem dX7_goWays_66 (by decide +kernel) (pk_rem (by omega) (by omega) (by omega)) ?_
        refine go_iload dX7_goWays_67 rfl ?_
        refine go_callS1 (K' := kX7_many) [_] dX7_goWays_69 mX7_143 lX7_many rfl rfl (Nat.le_of_ble_eq_true rfl) (Nat.le_of_ble_eq_true rfl) (c_many (by omega)) ?_
        first | refine go_iadd_n dX7_goWays_72 ?_ | refine go_iadd dX7_goWays_72 rfl ?_
        refine go_istore (L' := [_, _, _, _, _, _, _]) dX7_goWays_73 (by decide) rfl ?_
        refine go_iload dX7_goWays_75 rfl ?_
        refine go_bipush (-9) dX7_goWays_77 (by decide +kernel) ?_
        refine go_icmp_eq 110 dX7_goWays_79 (by decide) (fun h79 => ?_) (fun h => absurd (rfl) h)
        exact kk _ _
      | some k =>
        rw [hbh] at cb eC
        dsimp only at eC
        have hk := bh_lt (by omega) hg hbh
        by_cases hle : j % 10 + pc6 S ≤ most
        · rw [if_pos hle] at eC
          have v1 := hy (10 * k + (j % 10 + pc6 S)) (by omega)
          refine step (upd y (10 * k + (j % 10 + pc6 S)) (nI (T (10 * k + (j % 10 + pc6 S)) + sm (fun S' => if cbI gr most S' j = some (10 * k + (j % 10 + pc6 S)) then W j else 0) S + W j))) (fun i hi => ?_) (fun M kk v z => ?_)
          · rw [sm_s, eC]
            by_cases e : i = 10 * k + (j % 10 + pc6 S)
            · rw [if_pos (by rw [e]), e, upd_s, Nat.add_assoc]
            · rw [if_neg (fun q => e (Option.some.inj q).symm), upd_n _ _ e, Nat.add_zero]
              exact hy i hi
          · skip
            refine go_iload dX7_goWays_34 rfl ?_
            refine go_bipush (nI 8) dX7_goWays_36 (by decide +kernel) ?_
            refine go_icmp_ge 116 dX7_goWays_38 (by decide) (fun h => absurd h (nI_ge (by omega) (by omega))) (fun h38 => ?_)
            refine go_aload_n dX7_goWays_41 rfl ?_
            refine go_getc dX7_goWays_42 fX7_65 rfl (by decide) (by decide) (by decide) rfl ?_
            refine go_iload_n dX7_goWays_45 rfl ?_
            refine go_iald dX7_goWays_46 rfl (by decide) rfl (by omega) (by decide) w1 ?_
            refine go_if_le 116 dX7_goWays_47 (by decide) (fun h => absurd h (nI_nle (by omega) (by omega))) (fun h47 => ?_)
            refine go_aload_n dX7_goWays_50 rfl ?_
            refine go_iload dX7_goWays_51 rfl ?_
            refine go_iload_n dX7_goWays_53 rfl ?_
            refine go_iload_n dX7_goWays_54 rfl ?_
            refine go_bipush (nI 10) dX7_goWays_55 (by decide +kernel) ?_
            refine go_idiv dX7_goWays_57 (by decide +kernel) (pk_div (by omega) (by omega) (by omega)) ?_
            refine go_callV1 (K' := kX7_behind) [_, _, _] dX7_goWays_58 mX7_183 lX7_behind rfl (by decide) rfl (by decide) rfl rfl (Nat.le_of_ble_eq_true rfl) (Nat.le_of_ble_eq_true rfl) (cb) ?_
            refine go_istore (L' := [_, _, _, _, _, _, _]) dX7_goWays_61 (by decide) rfl ?_
            refine go_iload_n dX7_goWays_63 rfl ?_
            refine go_bipush (nI 10) dX7_goWays_64 (by decide +kernel) ?_
            refine go_irem dX7_goWays_66 (by decide +kernel) (pk_rem (by omega) (by omega) (by omega)) ?_
            refine go_iload dX7_goWays_67 rfl ?_
            refine go_callS1 (K' := kX7_many) [_] dX7_goWays_69 mX7_143 lX7_many rfl rfl (Nat.le_of_ble_eq_true rfl) (Nat.le_of_ble_eq_true rfl) (c_many (by omega)) ?_
            first | refine go_iadd_n dX7_goWays_72 ?_ | refine go_iadd dX7_goWays_72 rfl ?_
            refine go_istore (L' := [_, _, _, _, _, _, _]) dX7_goWays_73 (by decide) rfl ?_
            refine go_iload dX7_goWays_75 rfl ?_
            refine go_bipush (-9) dX7_goWays_77 (by decide +kernel) ?_
            refine go_icmp_eq 110 dX7_goWays_79 (by decide) (fun h => absurd h (nI_n9 (by omega))) (fun h79 => ?_)
            refine go_iload dX7_goWays_82 rfl ?_
            refine go_iload_n dX7_goWays_84 rfl ?_
            refine go_icmp_gt 110 dX7_goWays_85 (by decide) (fun h => absurd h (nI_nlt (by omega) (by omega))) (fun h85 => ?_)
            refine go_aload_n dX7_goWays_88 rfl ?_
            refine go_getc dX7_goWays_89 fX7_68 rfl (by decide) (by decide) (by decide) rfl ?_
            refine go_bipush (nI 10) dX7_goWays_92 (by decide +kernel) ?_
            refine go_iload dX7_goWays_94 rfl ?_
            first | refine go_imul_n dX7_goWays_96 ?_ | refine go_imul dX7_goWays_96 rfl ?_
            refine go_iload dX7_goWays_97 rfl ?_
            first | refine go_iadd_n dX7_goWays_99 ?_ | refine go_iadd dX7_goWays_99 rfl ?_
            refine go_dup2 dX7_goWays_100 rfl rfl ?_
            refine go_iald dX7_goWays_101 rfl (by decide) rfl (by omega) (by decide) v1 ?_
            refine go_aload_n dX7_goWays_102 rfl ?_
            refine go_getc dX7_goWays_103 fX7_65 rfl (by decide) (by decide) (by decide) rfl ?_
            refine go_iload_n dX7_goWays_106 rfl ?_
            refine go_iald dX7_goWays_107 rfl (by decide) rfl (by omega) (by decide) w1 ?_
            first | refine go_iadd_n dX7_goWays_108 ?_ | refine go_iadd dX7_goWays_108 rfl ?_
            refine go_iast dX7_goWays_109 rfl (by decide) rfl (by omega) (by decide) ?_
            rw [mm_2]
            exact kk _ _
        · rw [if_neg hle] at eC
          refine step y (same eC) (fun M kk v z => ?_)
          refine go_iload dX7_goWays_34 rfl ?_
          refine go_bipush (nI 8) dX7_goWays_36 (by decide +kernel) ?_
          refine go_icmp_ge 116 dX7_goWays_38 (by decide) (fun h => absurd h (nI_ge (by omega) (by omega))) (fun h38 => ?_)
          refine go_aload_n dX7_goWays_41 rfl ?_
          refine go_getc dX7_goWays_42 fX7_65 rfl (by decide) (by decide) (by decide) rfl ?_
          refine go_iload_n dX7_goWays_45 rfl ?_
          refine go_iald dX7_goWays_46 rfl (by decide) rfl (by omega) (by decide) w1 ?_
          refine go_if_le 116 dX7_goWays_47 (by decide) (fun h => absurd h (nI_nle (by omega) (by omega))) (fun h47 => ?_)
          refine go_aload_n dX7_goWays_50 rfl ?_
          refine go_iload dX7_goWays_51 rfl ?_
          refine go_iload_n dX7_goWays_53 rfl ?_
          refine go_iload_n dX7_goWays_54 rfl ?_
          refine go_bipush (nI 10) dX7_goWays_55 (by decide +kernel) ?_
          refine go_idiv dX7_goWays_57 (by decide +kernel) (pk_div (by omega) (by omega) (by omega)) ?_
          refine go_callV1 (K' := kX7_behind) [_, _, _] dX7_goWays_58 mX7_183 lX7_behind rfl (by decide) rfl (by decide) rfl rfl (Nat.le_of_ble_eq_true rfl) (Nat.le_of_ble_eq_true rfl) (cb) ?_
          refine go_istore (L' := [_, _, _, _, _, _, _]) dX7_goWays_61 (by decide) rfl ?_
          refine go_iload_n dX7_goWays_63 rfl ?_
          refine go_bipush (nI 10) dX7_goWays_64 (by decide +kernel) ?_
          refine go_irem dX7_goWays_66 (by decide +kernel) (pk_rem (by omega) (by omega) (by omega)) ?_
          refine go_iload dX7_goWays_67 rfl ?_
          refine go_callS1 (K' := kX7_many) [_] dX7_goWays_69 mX7_143 lX7_many rfl rfl (Nat.le_of_ble_eq_true rfl) (Nat.le_of_ble_eq_true rfl) (c_many (by omega)) ?_
          first | refine go_iadd_n dX7_goWays_72 ?_ | refine go_iadd dX7_goWays_72 rfl ?_
          refine go_istore (L' := [_, _, _, _, _, _, _]) dX7_goWays_73 (by decide) rfl ?_
          refine go_iload dX7_goWays_75 rfl ?_
          refine go_bipush (-9) dX7_goWays_77 (by decide +kernel) ?_
          refine go_icmp_eq 110 dX7_goWays_79 (by decide) (fun h => absurd h (nI_n9 (by omega))) (fun h79 => ?_)
          refine go_iload dX7_goWays_82 rfl ?_
          refine go_iload_n dX7_goWays_84 rfl ?_
          refine go_icmp_gt 110 dX7_goWays_85 (by decide) (fun h85 => ?_) (fun h => absurd (nI_lt (by omega) (by omega)) h)
          exact kk _ _
  have mid : ∀ q j (y : Nat → Int32), j + q = 640 → (∀ i, i < 640 → y i = nI (sm (fun j => sm (fun S => if cbI gr most S j = some i then W j else 0) 8) j)) → ∃ y' : Nat → Int32, (∀ i, i < 640 → y' i = nI (gW gr most W i)) ∧ ∀ M, (∀ u v z, Go O (d + 3) kX7_goWays none M 122 [.ref 46, .int (nI h), .int (nI most), .int (nI 640), u, v, z] [] (mm m 65 66 (m.1 65) y')) → ∀ u v z, Go O (d + 3) kX7_goWays none M 24 [.ref 46, .int (nI h), .int (nI most), .int (nI j), u, v, z] [] (mm m 65 66 (m.1 65) y) := by
    intro q
    induction q with
    | zero =>
      intro j y hj hy
      obtain rfl : j = 640 := by omega
      refine ⟨y, hy, fun M kk u v z => ?_⟩
      refine go_iload_n dX7_goWays_24 rfl ?_
      refine go_sipush (nI 640) dX7_goWays_25 (by decide +kernel) ?_
      refine go_icmp_ge 122 dX7_goWays_28 (by decide) (fun h28 => ?_) (fun h => absurd (nI_le (by omega) (by omega)) h)
      exact kk _ _ _
    | succ q ih =>
      intro j y hj hy
      obtain ⟨w1, w2⟩ := hW j (by omega)
      by_cases hw : 0 < W j
      · obtain ⟨y1, r1, r2⟩ := inn j (by omega) hw (fun i => sm (fun j => sm (fun S => if cbI gr most S j = some i then W j else 0) 8) j) 8 0 y (by omega) (fun i hi => by rw [hy i hi]; rfl)
        obtain ⟨y', p1, p2⟩ := ih (j + 1) y1 (by omega) r1
        refine ⟨y', p1, fun M kk u v z => ?_⟩
        have p3 := p2 M kk
        have r3 := r2 M (fun u v z => by
          refine go_iinc_n (L' := [_, _, _, _, _, _, _]) dX7_goWays_116 rfl (by decide) rfl ?_
          refine go_goto 24 dX7_goWays_119 (by decide) ?_
          exact p3 _ _ _)
        refine go_iload_n dX7_goWays_24 rfl ?_
        refine go_sipush (nI 640) dX7_goWays_25 (by decide +kernel) ?_
        refine go_icmp_ge 122 dX7_goWays_28 (by decide) (fun h => absurd h (nI_ge (by omega) (by omega))) (fun h28 => ?_)
        refine go_iconst (nI 0) dX7_goWays_31 (by decide +kernel) ?_
        refine go_istore (L' := [_, _, _, _, _, _, _]) dX7_goWays_32 (by decide) rfl ?_
        exact r3 _ _
      · obtain ⟨y', p1, p2⟩ := ih (j + 1) y (by omega) (fun i hi => by
          rw [sm_s, sm_zero 8 (fun S _ => by split <;> omega), Nat.add_zero]
          exact hy i hi)
        refine ⟨y', p1, fun M kk u v z => ?_⟩
        have p3 := p2 M kk
        refine go_iload_n dX7_goWays_24 rfl ?_
        refine go_sipush (nI 640) dX7_goWays_25 (by decide +kernel) ?_
        refine go_icmp_ge 122 dX7_goWays_28 (by decide) (fun h => absurd h (nI_ge (by omega) (by omega))) (fun h28 => ?_)
        refine go_iconst (nI 0) dX7_goWays_31 (by decide +kernel) ?_
        refine go_istore (L' := [_, _, _, _, _, _, _]) dX7_goWays_32 (by decide) rfl ?_
        refine go_iload dX7_goWays_34 rfl ?_
        refine go_bipush (nI 8) dX7_goWays_36 (by decide +kernel) ?_
        refine go_icmp_ge 116 dX7_goWays_38 (by decide) (fun h => absurd h (nI_ge (by omega) (by omega))) (fun h38 => ?_)
        refine go_aload_n dX7_goWays_41 rfl ?_
        refine go_getc dX7_goWays_42 fX7_65 rfl (by decide) (by decide) (by decide) rfl ?_
        refine go_iload_n dX7_goWays_45 rfl ?_
        refine go_iald dX7_goWays_46 rfl (by decide) rfl (by omega) (by decide) w1 ?_
        refine go_if_le 116 dX7_goWays_47 (by decide) (fun h47 => ?_) (fun h => absurd (by rw [show W j = 0 by omega]; decide +kernel) h)
        refine go_iinc_n (L' := [_, _, _, _, _, _, _]) dX7_goWays_116 rfl (by decide) rfl ?_
        refine go_goto 24 dX7_goWays_119 (by decide) ?_
        exact p3 _ _ _
  have clr : ∀ M, (∀ u v z, Go O (d + 3) kX7_goWays none M 22 [.ref 46, .int (nI h), .int (nI most), .int (nI 640), u, v, z] [] (mm m 65 66 (m.1 65) (flP (m.1 66) (nI 0) 640))) → ∀ q k, k + q = 640 → ∀ u v z, Go O (d + 3) kX7_goWays none M 2 [.ref 46, .int (nI h), .int (nI most), .int (nI k), u, v, z] [] (mm m 65 66 (m.1 65) (flP (m.1 66) (nI 0) k)) := by
    intro M kk q
    induction q with
    | zero =>
      intro k hk u v z
      obtain rfl : k = 640 := by omega
      refine go_iload_n dX7_goWays_2 rfl ?_
      refine go_sipush (nI 640) dX7_goWays_3 (by decide +kernel) ?_
      refine go_icmp_ge 22 dX7_goWays_6 (by decide) (fun h6 => ?_) (fun h => absurd (nI_le (by omega) (by omega)) h)
      exact kk _ _ _
    | succ q ih =>
      intro k hk u v z
      refine go_iload_n dX7_goWays_2 rfl ?_
      refine go_sipush (nI 640) dX7_goWays_3 (by decide +kernel) ?_
      refine go_icmp_ge 22 dX7_goWays_6 (by decide) (fun h => absurd h (nI_ge (by omega) (by omega))) (fun h6 => ?_)
      refine go_aload_n dX7_goWays_9 rfl ?_
      refine go_getc dX7_goWays_10 fX7_68 rfl (by decide) (by decide) (by decide) rfl ?_
      refine go_iload_n dX7_goWays_13 rfl ?_
      refine go_iconst (nI 0) dX7_goWays_14 (by decide +kernel) ?_
      refine go_iast dX7_goWays_15 rfl (by decide) rfl (by omega) (by decide) ?_
      rw [mm_2]
      refine go_iinc_n (L' := [_, _, _, _, _, _, _]) dX7_goWays_16 rfl (by decide) rfl ?_
      refine go_goto 2 dX7_goWays_19 (by decide) ?_
      exact ih (k + 1) (by omega) _ _ _
  have cpy : ∀ (y : Nat → Int32), ∀ q k, k + q = 640 → ∀ u v z, Go O (d + 3) kX7_goWays none (mm m 65 66 (flV (m.1 65) y 640) y) 124 [.ref 46, .int (nI h), .int (nI most), .int (nI k), u, v, z] [] (mm m 65 66 (flV (m.1 65) y k) y) := by
    intro y q
    induction q with
    | zero =>
      intro k hk u v z
      obtain rfl : k = 640 := by omega
      refine go_iload_n dX7_goWays_124 rfl ?_
      refine go_sipush (nI 640) dX7_goWays_125 (by decide +kernel) ?_
      refine go_icmp_ge 149 dX7_goWays_128 (by decide) (fun h128 => ?_) (fun h => absurd (nI_le (by omega) (by omega)) h)
      exact go_vret dX7_goWays_149 rfl rfl rfl
    | succ q ih =>
      intro k hk u v z
      refine go_iload_n dX7_goWays_124 rfl ?_
      refine go_sipush (nI 640) dX7_goWays_125 (by decide +kernel) ?_
      refine go_icmp_ge 149 dX7_goWays_128 (by decide) (fun h => absurd h (nI_ge (by omega) (by omega))) (fun h128 => ?_)
      refine go_aload_n dX7_goWays_131 rfl ?_
      refine go_getc dX7_goWays_132 fX7_65 rfl (by decide) (by decide) (by decide) rfl ?_
      refine go_iload_n dX7_goWays_135 rfl ?_
      refine go_aload_n dX7_goWays_136 rfl ?_
      refine go_getc dX7_goWays_137 fX7_68 rfl (by decide) (by decide) (by decide) rfl ?_
      refine go_iload_n dX7_goWays_140 rfl ?_
      refine go_iald dX7_goWays_141 rfl (by decide) rfl (by omega) (by decide) rfl ?_
      refine go_iast dX7_goWays_142 rfl (by decide) rfl (by omega) (by decide) ?_
      rw [mm_1 (by decide)]
      refine go_iinc_n (L' := [_, _, _, _, _, _, _]) dX7_goWays_143 rfl (by decide) rfl ?_
      refine go_goto 124 dX7_goWays_146 (by decide) ?_
      exact ih (k + 1) (by omega) _ _ _
  obtain ⟨y', p1, p2⟩ := mid 640 0 (flP (m.1 66) (nI 0) 640) (by omega) (fun i hi => by rw [flP_at, if_pos hi]; rfl)
  refine ⟨flV (m.1 65) y' 640, y', fun i hi => by rw [flV_at, if_pos hi]; exact p1 i hi, ?_⟩
  have p3 := p2 (mm m 65 66 (flV (m.1 65) y' 640) y') (fun u v z => by
    refine go_iconst (nI 0) dX7_goWays_122 (by decide +kernel) ?_
    refine go_istore_n (L' := [_, _, _, _, _, _, _]) dX7_goWays_123 (by decide) rfl ?_
    exact cpy y' 640 0 (by omega) _ _ _)
  have p4 := clr (mm m 65 66 (flV (m.1 65) y' 640) y') (fun u v z => by
    refine go_iconst (nI 0) dX7_goWays_22 (by decide +kernel) ?_
    refine go_istore_n (L' := [_, _, _, _, _, _, _]) dX7_goWays_23 (by decide) rfl ?_
    exact p3 _ _ _) 640 0 (by omega)
  show Go O (d + 3) kX7_goWays none _ 0 [.ref 46, .int (nI h), .int (nI most), .null, .null, .null, .null] [] m
  refine go_mem (mm_id m 65 66).symm ?_
  refine go_iconst (nI 0) dX7_goWays_0 (by decide +kernel) ?_
  refine go_istore_n (L' := [_, _, _, _, _, _, _]) dX7_goWays_1 (by decide) rfl ?_
  exact p4 _ _ _
