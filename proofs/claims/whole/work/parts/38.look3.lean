theorem upd_upd (f : Nat → Int32) (i : Nat) (x y : Int32) : upd (upd f i x) i y = upd f i y := by
  funext j
  by_cases h : j = i
  · rw [h, upd_s, upd_s]
  · rw [upd_n _ _ h, upd_n _ _ h, upd_n _ _ h]
/-- a row of sets -/
def rwF (f : Nat → Int32) (h : Nat) (v : Nat → Nat) : Nat → Nat → Int32
  | 0 => f
  | k + 1 => upd (rwF f h v k) (64 * h + k) (nI (v k))
theorem rwF_in {f : Nat → Int32} {h : Nat} {v : Nat → Nat} {j : Nat} : ∀ {n}, j < n → rwF f h v n (64 * h + j) = nI (v j)
  | 0, e => absurd e (by omega)
  | n + 1, e => by
    rw [rwF]
    by_cases z : j = n
    · rw [z, upd_s]
    · rw [upd_n _ _ (by omega)]
      exact rwF_in (by omega)
theorem rwF_out {f : Nat → Int32} {h : Nat} {v : Nat → Nat} {i : Nat} : ∀ {n}, (i < 64 * h ∨ 64 * h + n ≤ i) → rwF f h v n i = f i
  | 0, _ => rfl
  | n + 1, e => by
    rw [rwF, upd_n _ _ (by omega)]
    exact rwF_out (by omega)
def lyF (G : Nat → Nat → Nat) (w : Nat) (f : Nat → Int32) : Nat → Nat → Int32
  | 0 => rwF f 6 (nR G w 0) 64
  | c + 1 => rwF (lyF G w f c) (5 - c) (nR G w (c + 1)) 64
theorem lyF_at {G : Nat → Nat → Nat} {w : Nat} {f : Nat → Int32} {h r k : Nat} (hr : h + r = 6) (hk : k < 64) : ∀ {c}, c ≤ 6 → r ≤ c → lyF G w f c (64 * h + k) = nI (nR G w r k)
  | 0, _, h2 => by
    obtain rfl : r = 0 := by omega
    obtain rfl : h = 6 := by omega
    exact rwF_in hk
  | c + 1, h1, h2 => by
    rw [lyF]
    by_cases z : r = c + 1
    · subst z
      rw [show 5 - c = h by omega]
      exact rwF_in hk
    · rw [rwF_out (by omega)]
      exact lyF_at hr hk (by omega) (by omega)
theorem h5d : ∀ c, c < 6 → nI (5 - c) + Int32.ofInt (-1) = nI 5 - nI (c + 1) := by decide +kernel
theorem h5e : ∀ h, h < 6 → nI 5 - nI (6 - h) < nI h := by decide +kernel
theorem mnA_s (c : Nat) (f : Nat → Nat) (j : Nat) : mnA c f (j + 1) = min (mnA c f j) (f j) := rfl
theorem c_layNeed {O : gOm} {d : Nat} {m : gMem} {P w hr : Nat} (hP : m.1 46 4 = nI P) (hP6 : P ≤ 6) (hh : m.1 46 11 = nI hr) (hr6 : hr < 6) (hw : w < 64) : Ca O (d + 3) kX7_layNeed [.ref 46, .int (nI w)] none m (gupA m 64 (lyF (grp (m.1 48) P) w (m.1 64) (6 - hr))) := by
  generalize hG : grp (m.1 48) P = G
  have hg : ∀ h a, G h a < 64 := fun h a => by rw [← hG]; exact grp_64 _ h a hP6
  generalize hM : gupA m 64 (lyF G w (m.1 64) (6 - hr)) = M
  -- the places
  have k3 : ∀ (f : Nat → Int32) (r h k : Nat), h + (r + 1) = 6 → k < 64 → (∀ t, t < 64 → f (64 * (h + 1) + t) = nI (nR G w r t)) → ∀ n j x y, j + n = 8 → (∀ x y, Go O (d + 3) kX7_layNeed none M 174 [.ref 46, .int (nI w), .int (nI h), .int (nI k), .int (nI 8), x, y] [] (gupA m 64 (upd f (64 * h + k) (nI (nR G w (r + 1) k))))) → Go O (d + 3) kX7_layNeed none M 73 [.ref 46, .int (nI w), .int (nI h), .int (nI k), .int (nI j), x, y] [] (gupA m 64 (upd f (64 * h + k) (nI (mnA 999 (byN (G (5 - r)) (nR G w r) k) j)))) := by
    intro f r h k hr1 hk hf n
    have e5 : 5 - r = h := by omega
    induction n with
    | zero =>
      intro j x y hj kk
      obtain rfl : j = 8 := by omega
      refine go_iload dX7_layNeed_73 rfl ?_
      refine go_bipush (nI 8) dX7_layNeed_75 (by decide +kernel) ?_
      refine go_icmp_ge 174 dX7_layNeed_77 (by decide) (fun h77 => ?_) (fun h => absurd (nI_le (by omega) (by omega)) h)
      exact kk _ _
    | succ n ih =>
      intro j x y hj kk
      have cb := c_behind (O := O) (d := d) (m := gupA m 64 (upd f (64 * h + k) (nI (mnA 999 (byN (G (5 - r)) (nR G w r) k) j)))) (P := P) (h := h) (S := j) (k := k) hP hP6 (by omega) (by omega) hk
      rw [show grp ((gupA m 64 (upd f (64 * h + k) (nI (mnA 999 (byN (G (5 - r)) (nR G w r) k) j)))).1 48) P h = G (5 - r) by rw [e5, ← hG]; rfl] at cb
      have hb1 := mnA_c 999 (byN (G (5 - r)) (nR G w r) k) j
      have hS6 := pc6_le j
      have eB : byN (G (5 - r)) (nR G w r) k j = match bh (G (5 - r)) j k with
        | none => 999
        | some t => pc6 j + nR G w r t := rfl
      -- the end of the row
      have fin : ∀ x v, v = byN (G (5 - r)) (nR G w r) k j → v < 2000 → Go O (d + 3) kX7_layNeed none M 125 [.ref 46, .int (nI w), .int (nI h), .int (nI k), .int (nI j), x, .int (nI v)] [] (gupA m 64 (upd f (64 * h + k) (nI (mnA 999 (byN (G (5 - r)) (nR G w r) k) j)))) := by
        intro x v hv hv2
        have tail : ∀ x y, Go O (d + 3) kX7_layNeed none M 168 [.ref 46, .int (nI w), .int (nI h), .int (nI k), .int (nI j), x, y] [] (gupA m 64 (upd f (64 * h + k) (nI (mnA 999 (byN (G (5 - r)) (nR G w r) k) (j + 1))))) := by
          intro x y
          refine go_iinc_n (L' := [_, _, _, _, _, _, _]) dX7_layNeed_168 rfl (by decide) rfl ?_
          refine go_goto 73 dX7_layNeed_171 (by decide) ?_
          exact ih (j + 1) _ _ (by omega) kk
        refine go_aload_n dX7_layNeed_125 rfl ?_
        refine go_getc dX7_layNeed_126 fX7_62 rfl (by decide) (by decide) (by decide) rfl ?_
        refine go_bipush (nI 64) dX7_layNeed_129 (by decide +kernel) ?_
        refine go_iload_n dX7_layNeed_131 rfl ?_
        first | refine go_imul_n dX7_layNeed_132 ?_ | refine go_imul dX7_layNeed_132 rfl ?_
        refine go_iload_n dX7_layNeed_133 rfl ?_
        first | refine go_iadd_n dX7_layNeed_134 ?_ | refine go_iadd dX7_layNeed_134 rfl ?_
        refine go_iload dX7_layNeed_135 rfl ?_
        refine go_aload_n dX7_layNeed_137 rfl ?_
        refine go_getc dX7_layNeed_138 fX7_62 rfl (by decide) (by decide) (by decide) rfl ?_
        refine go_bipush (nI 64) dX7_layNeed_141 (by decide +kernel) ?_
        refine go_iload_n dX7_layNeed_143 rfl ?_
        first | refine go_imul_n dX7_layNeed_144 ?_ | refine go_imul dX7_layNeed_144 rfl ?_
        refine go_iload_n dX7_layNeed_145 rfl ?_
        first | refine go_iadd_n dX7_layNeed_146 ?_ | refine go_iadd dX7_layNeed_146 rfl ?_
        refine go_ialdA dX7_layNeed_147 rfl (by decide) rfl (by omega) (by decide) (upd_s _ _ _) ?_
        refine go_icmp_ge 156 dX7_layNeed_148 (by decide) (fun h148 => ?_) (fun h148 => ?_)
        · have z := (nI_leI (by omega) (by omega)).mp h148
          have er : mnA 999 (byN (G (5 - r)) (nR G w r) k) j = mnA 999 (byN (G (5 - r)) (nR G w r) k) (j + 1) := by rw [mnA_s, ← hv]; omega
          refine go_aload_n dX7_layNeed_156 rfl ?_
          refine go_getc dX7_layNeed_157 fX7_62 rfl (by decide) (by decide) (by decide) rfl ?_
          refine go_bipush (nI 64) dX7_layNeed_160 (by decide +kernel) ?_
          refine go_iload_n dX7_layNeed_162 rfl ?_
          first | refine go_imul_n dX7_layNeed_163 ?_ | refine go_imul dX7_layNeed_163 rfl ?_
          refine go_iload_n dX7_layNeed_164 rfl ?_
          first | refine go_iadd_n dX7_layNeed_165 ?_ | refine go_iadd dX7_layNeed_165 rfl ?_
          refine go_ialdA dX7_layNeed_166 rfl (by decide) rfl (by omega) (by decide) (upd_s _ _ _) ?_
          refine go_iastA dX7_layNeed_167 rfl (by decide) rfl (by omega) (by decide) ?_
          rw [upd_upd, er]
          exact tail _ _
        · have z : ¬ mnA 999 (byN (G (5 - r)) (nR G w r) k) j ≤ v := fun q => h148 (nI_le q (by omega))
          have er : v = mnA 999 (byN (G (5 - r)) (nR G w r) k) (j + 1) := by rw [mnA_s, ← hv]; omega
          refine go_iload dX7_layNeed_151 rfl ?_
          refine go_goto 167 dX7_layNeed_153 (by decide) ?_
          refine go_iastA dX7_layNeed_167 rfl (by decide) rfl (by omega) (by decide) ?_
          rw [upd_upd, er]
          exact tail _ _
      cases hb : bh (G (5 - r)) j k with
      | none =>
        rw [hb] at cb eB
        refine go_iload dX7_layNeed_73 rfl ?_
        refine go_bipush (nI 8) dX7_layNeed_75 (by decide +kernel) ?_
        refine go_icmp_ge 174 dX7_layNeed_77 (by decide) (fun h => absurd h (nI_ge (by omega) (by omega))) (fun h77 => ?_)
        refine go_aload_n dX7_layNeed_80 rfl ?_
        refine go_iload dX7_layNeed_81 rfl ?_
        refine go_iload_n dX7_layNeed_83 rfl ?_
        refine go_iload_n dX7_layNeed_84 rfl ?_
        refine go_callV1 (K' := kX7_behind) [_, _, _] dX7_layNeed_85 mX7_183 lX7_behind rfl (by decide) rfl (by decide) rfl rfl (Nat.le_of_ble_eq_true rfl) (Nat.le_of_ble_eq_true rfl) (cb) ?_
        refine go_istore (L' := [_, _, _, _, _, _, _]) dX7_layNeed_88 (by decide) rfl ?_
        refine go_iload dX7_layNeed_90 rfl ?_
        refine go_bipush (-9) dX7_layNeed_92 (by decide +kernel) ?_
        refine go_icmp_ne 103 dX7_layNeed_94 (by decide) (fun h => absurd h (fun q => q rfl)) (fun h94 => ?_)
        refine go_sipush (nI 999) dX7_layNeed_97 (by decide +kernel) ?_
        refine go_goto 123 dX7_layNeed_100 (by decide) ?_
        refine go_istore (L' := [_, _, _, _, _, _, _]) dX7_layNeed_123 (by decide) rfl ?_
        exact fin _ _ (by rw [eB]) (by omega)
      | some t =>
        rw [hb] at cb eB
        have ht := bh_lt hk (hg _) hb
        have hn := nR_le G w r t
        refine go_iload dX7_layNeed_73 rfl ?_
        refine go_bipush (nI 8) dX7_layNeed_75 (by decide +kernel) ?_
        refine go_icmp_ge 174 dX7_layNeed_77 (by decide) (fun h => absurd h (nI_ge (by omega) (by omega))) (fun h77 => ?_)
        refine go_aload_n dX7_layNeed_80 rfl ?_
        refine go_iload dX7_layNeed_81 rfl ?_
        refine go_iload_n dX7_layNeed_83 rfl ?_
        refine go_iload_n dX7_layNeed_84 rfl ?_
        refine go_callV1 (K' := kX7_behind) [_, _, _] dX7_layNeed_85 mX7_183 lX7_behind rfl (by decide) rfl (by decide) rfl rfl (Nat.le_of_ble_eq_true rfl) (Nat.le_of_ble_eq_true rfl) (cb) ?_
        refine go_istore (L' := [_, _, _, _, _, _, _]) dX7_layNeed_88 (by decide) rfl ?_
        refine go_iload dX7_layNeed_90 rfl ?_
        refine go_bipush (-9) dX7_layNeed_92 (by decide +kernel) ?_
        refine go_icmp_ne 103 dX7_layNeed_94 (by decide) (fun h94 => ?_) (fun h => absurd h (nI_n9 (by omega)))
        refine go_iload dX7_layNeed_103 rfl ?_
        refine go_callS1 (K' := kX7_many) [_] dX7_layNeed_105 mX7_143 lX7_many rfl rfl (Nat.le_of_ble_eq_true rfl) (Nat.le_of_ble_eq_true rfl) (c_many (by omega)) ?_
        refine go_aload_n dX7_layNeed_108 rfl ?_
        refine go_getc dX7_layNeed_109 fX7_62 rfl (by decide) (by decide) (by decide) rfl ?_
        refine go_bipush (nI 64) dX7_layNeed_112 (by decide +kernel) ?_
        refine go_iload_n dX7_layNeed_114 rfl ?_
        refine go_iconst (nI 1) dX7_layNeed_115 (by decide +kernel) ?_
        first | refine go_iadd_n dX7_layNeed_116 ?_ | refine go_iadd dX7_layNeed_116 rfl ?_
        first | refine go_imul_n dX7_layNeed_117 ?_ | refine go_imul dX7_layNeed_117 rfl ?_
        refine go_iload dX7_layNeed_118 rfl ?_
        first | refine go_iadd_n dX7_layNeed_120 ?_ | refine go_iadd dX7_layNeed_120 rfl ?_
        refine go_ialdA dX7_layNeed_121 rfl (by decide) rfl (by omega) (by decide) ((upd_n _ _ (by omega)).trans (hf t ht)) ?_
        first | refine go_iadd_n dX7_layNeed_122 ?_ | refine go_iadd dX7_layNeed_122 rfl ?_
        refine go_istore (L' := [_, _, _, _, _, _, _]) dX7_layNeed_123 (by decide) rfl ?_
        exact fin _ _ (by rw [eB]) (by omega)
  -- the sets
  have k2 : ∀ (f : Nat → Int32) (r h : Nat), h + (r + 1) = 6 → (∀ t, t < 64 → f (64 * (h + 1) + t) = nI (nR G w r t)) → ∀ n k x y z, k + n = 64 → (∀ x y z, Go O (d + 3) kX7_layNeed none M 180 [.ref 46, .int (nI w), .int (nI h), .int (nI 64), x, y, z] [] (gupA m 64 (rwF f h (nR G w (r + 1)) 64))) → Go O (d + 3) kX7_layNeed none M 50 [.ref 46, .int (nI w), .int (nI h), .int (nI k), x, y, z] [] (gupA m 64 (rwF f h (nR G w (r + 1)) k)) := by
    intro f r h hr1 hf n
    induction n with
    | zero =>
      intro k x y z hk kk
      obtain rfl : k = 64 := by omega
      refine go_iload_n dX7_layNeed_50 rfl ?_
      refine go_bipush (nI 64) dX7_layNeed_51 (by decide +kernel) ?_
      refine go_icmp_ge 180 dX7_layNeed_53 (by decide) (fun h53 => ?_) (fun h => absurd (nI_le (by omega) (by omega)) h)
      exact kk _ _ _
    | succ n ih =>
      intro k x y z hk kk
      refine go_iload_n dX7_layNeed_50 rfl ?_
      refine go_bipush (nI 64) dX7_layNeed_51 (by decide +kernel) ?_
      refine go_icmp_ge 180 dX7_layNeed_53 (by decide) (fun h => absurd h (nI_ge (by omega) (by omega))) (fun h53 => ?_)
      refine go_aload_n dX7_layNeed_56 rfl ?_
      refine go_getc dX7_layNeed_57 fX7_62 rfl (by decide) (by decide) (by decide) rfl ?_
      refine go_bipush (nI 64) dX7_layNeed_60 (by decide +kernel) ?_
      refine go_iload_n dX7_layNeed_62 rfl ?_
      first | refine go_imul_n dX7_layNeed_63 ?_ | refine go_imul dX7_layNeed_63 rfl ?_
      refine go_iload_n dX7_layNeed_64 rfl ?_
      first | refine go_iadd_n dX7_layNeed_65 ?_ | refine go_iadd dX7_layNeed_65 rfl ?_
      refine go_sipush (nI 999) dX7_layNeed_66 (by decide +kernel) ?_
      refine go_iastA dX7_layNeed_69 rfl (by decide) rfl (by omega) (by decide) ?_
      refine go_iconst (nI 0) dX7_layNeed_70 (by decide +kernel) ?_
      refine go_istore (L' := [_, _, _, _, _, _, _]) dX7_layNeed_71 (by decide) rfl ?_
      refine k3 _ r h k hr1 (by omega) (fun t ht => ?_) 8 0 _ _ (by omega) (fun x y => ?_)
      · rw [rwF_out (by omega)]
        exact hf t ht
      refine go_iinc_n (L' := [_, _, _, _, _, _, _]) dX7_layNeed_174 rfl (by decide) rfl ?_
      refine go_goto 50 dX7_layNeed_177 (by decide) ?_
      exact ih (k + 1) _ _ _ (by omega) kk
  -- the hours
  have k1 : ∀ n c x y z u, c + n = 6 - hr → Go O (d + 3) kX7_layNeed none M 40 [.ref 46, .int (nI w), .int (nI 5 - nI c), x, y, z, u] [] (gupA m 64 (lyF G w (m.1 64) c)) := by
    intro n
    induction n with
    | zero =>
      intro c x y z u hc
      obtain rfl : c = 6 - hr := by omega
      refine go_iload_n dX7_layNeed_40 rfl ?_
      refine go_aload_n dX7_layNeed_41 rfl ?_
      refine go_geti dX7_layNeed_42 fX7_137 rfl (by decide) (by decide) (by decide) rfl hh ?_
      refine go_icmp_lt 186 dX7_layNeed_45 (by decide) (fun h45 => ?_) (fun h => absurd (h5e hr hr6) h)
      exact go_vret dX7_layNeed_186 rfl rfl hM.symm
    | succ n ih =>
      intro c x y z u hc
      rw [pk_sub (show c ≤ 5 by omega)]
      refine go_iload_n dX7_layNeed_40 rfl ?_
      refine go_aload_n dX7_layNeed_41 rfl ?_
      refine go_geti dX7_layNeed_42 fX7_137 rfl (by decide) (by decide) (by decide) rfl hh ?_
      refine go_icmp_lt 186 dX7_layNeed_45 (by decide) (fun h => absurd h (nI_nlt (by omega) (by omega))) (fun h45 => ?_)
      refine go_iconst (nI 0) dX7_layNeed_48 (by decide +kernel) ?_
      refine go_istore_n (L' := [_, _, _, _, _, _, _]) dX7_layNeed_49 (by decide) rfl ?_
      refine k2 (lyF G w (m.1 64) c) c (5 - c) (by omega) (fun t ht => lyF_at (by omega) ht (by omega) (Nat.le_refl _)) 64 0 _ _ _ (by omega) (fun x y z => ?_)
      refine go_iinc (L' := [_, _, _, _, _, _, _]) dX7_layNeed_180 rfl (by decide) (h5d c (by omega)) rfl ?_
      refine go_goto 40 dX7_layNeed_183 (by decide) ?_
      exact ih (c + 1) _ _ _ _ (by omega)
  -- behind the last hour
  have k0 : ∀ n k x y z u, k + n = 64 → Go O (d + 3) kX7_layNeed none M 2 [.ref 46, .int (nI w), .int (nI k), x, y, z, u] [] (gupA m 64 (rwF (m.1 64) 6 (nR G w 0) k)) := by
    intro n
    induction n with
    | zero =>
      intro k x y z u hk
      obtain rfl : k = 64 := by omega
      refine go_iload_n dX7_layNeed_2 rfl ?_
      refine go_bipush (nI 64) dX7_layNeed_3 (by decide +kernel) ?_
      refine go_icmp_ge 38 dX7_layNeed_5 (by decide) (fun h5 => ?_) (fun h => absurd (nI_le (by omega) (by omega)) h)
      refine go_iconst (nI 5) dX7_layNeed_38 (by decide +kernel) ?_
      refine go_istore_n (L' := [_, _, _, _, _, _, _]) dX7_layNeed_39 (by decide) rfl ?_
      exact k1 (6 - hr) 0 _ _ _ _ (by omega)
    | succ n ih =>
      intro k x y z u hk
      have hand : k &&& w < 64 := Nat.and_lt_two_pow (n := 6) _ hw
      refine go_iload_n dX7_layNeed_2 rfl ?_
      refine go_bipush (nI 64) dX7_layNeed_3 (by decide +kernel) ?_
      refine go_icmp_ge 38 dX7_layNeed_5 (by decide) (fun h => absurd h (nI_ge (by omega) (by omega))) (fun h5 => ?_)
      refine go_aload_n dX7_layNeed_8 rfl ?_
      refine go_getc dX7_layNeed_9 fX7_62 rfl (by decide) (by decide) (by decide) rfl ?_
      refine go_sipush (nI 384) dX7_layNeed_12 (by decide +kernel) ?_
      refine go_iload_n dX7_layNeed_15 rfl ?_
      first | refine go_iadd_n dX7_layNeed_16 ?_ | refine go_iadd dX7_layNeed_16 rfl ?_
      refine go_iload_n dX7_layNeed_17 rfl ?_
      refine go_iload_n dX7_layNeed_18 rfl ?_
      refine go_iand dX7_layNeed_19 (nb_and _ _) ?_
      refine go_iload_n dX7_layNeed_20 rfl ?_
      refine go_icmp_ne 28 dX7_layNeed_21 (by decide) (fun h21 => ?_) (fun h21 => ?_)
      · have er : nI 999 = nI (nR G w 0 k) := by rw [nR, if_neg (fun q => h21 (by rw [q]))]
        refine go_sipush (nI 999) dX7_layNeed_28 (by decide +kernel) ?_
        refine go_iastA (i := 64 * 6 + k) dX7_layNeed_31 rfl (by decide) rfl (by omega) (by decide) ?_
        rw [er]
        refine go_iinc_n (L' := [_, _, _, _, _, _, _]) dX7_layNeed_32 rfl (by decide) rfl ?_
        refine go_goto 2 dX7_layNeed_35 (by decide) ?_
        exact ih (k + 1) _ _ _ _ (by omega)
      · have er : nI 0 = nI (nR G w 0 k) := by rw [nR, if_pos ((nI_eq (by omega) (by omega)).mp h21)]
        refine go_iconst (nI 0) dX7_layNeed_24 (by decide +kernel) ?_
        refine go_goto 31 dX7_layNeed_25 (by decide) ?_
        refine go_iastA (i := 64 * 6 + k) dX7_layNeed_31 rfl (by decide) rfl (by omega) (by decide) ?_
        rw [er]
        refine go_iinc_n (L' := [_, _, _, _, _, _, _]) dX7_layNeed_32 rfl (by decide) rfl ?_
        refine go_goto 2 dX7_layNeed_35 (by decide) ?_
        exact ih (k + 1) _ _ _ _ (by omega)
  show Go O (d + 3) kX7_layNeed none M 0 [.ref 46, .int (nI w), .null, .null, .null, .null, .null] [] m
  refine go_mem (gupA_self m 64).symm ?_
  refine go_iconst (nI 0) dX7_layNeed_0 (by decide +kernel) ?_
  refine go_istore_n (L' := [_, _, _, _, _, _, _]) dX7_layNeed_1 (by decide) rfl ?_
  exact k0 64 0 _ _ _ _ (by omega)
theorem c_noPlan {O : gOm} {d : Nat} {m : gMem} {n x : Int32} {P N lw : Nat} (hP : m.1 46 4 = nI P) (hP6 : P ≤ 6) (hN : m.1 46 5 = nI N) (hN3 : N ≤ 3) (hl : m.1 46 6 = nI lw) (hl3 : lw < 3) : Ca O (d + 2) kX7_noPlan [.ref 46, .int n, .int x] (some (.int (rfP n x P N lw))) m m := by
  have e2 : 2 ^ P ≤ 64 := Nat.pow_le_pow_right (n := 2) (by omega) hP6
  have ein : ∀ (d : Nat), Ca O d kX7_in [.long x.toInt64, .long 0, .long (nI (2 ^ P) - nI 1).toInt64] (some (.int (bI (iR x (2 ^ P))))) m m := fun d => by
    rw [← iR_in x (by omega)]
    exact c_in
  show Go O (d + 2) kX7_noPlan _ m 0 [.ref 46, .int n, .int x] [] m
  refine go_aload_n dX7_noPlan_0 rfl ?_
  refine go_iload_n dX7_noPlan_1 rfl ?_
  refine go_callV1 (K' := kX7_noNews) [_] dX7_noPlan_2 mX7_155 lX7_noNews rfl (by decide) rfl (by decide) rfl rfl (Nat.le_of_ble_eq_true rfl) (Nat.le_of_ble_eq_true rfl) (c_noNews hN (by omega)) ?_
  refine go_if_eq 10 dX7_noPlan_5 (by decide) (fun h5 => ?_) (fun h5 => ?_)
  · have en : iR n N = true := by
      have := bI_0.mp h5
      cases hz : iR n N with
      | true => rfl
      | false => rw [hz] at this; cases this
    refine go_iload_n dX7_noPlan_10 rfl ?_
    refine go_i2l dX7_noPlan_11 rfl ?_
    refine go_lconst 0 dX7_noPlan_12 (by decide +kernel) ?_
    refine go_iconst (nI 1) dX7_noPlan_13 (by decide +kernel) ?_
    refine go_aload_n dX7_noPlan_14 rfl ?_
    refine go_geti dX7_noPlan_15 fX7_81 rfl (by decide) (by decide) (by decide) rfl hP ?_
    refine go_ishl dX7_noPlan_18 (nb_one (by omega)) ?_
    refine go_iconst (nI 1) dX7_noPlan_19 (by decide +kernel) ?_
    refine go_isub dX7_noPlan_20 rfl ?_
    refine go_i2l dX7_noPlan_21 rfl ?_
    refine go_callS1 (K' := kX7_in) [_, _, _] dX7_noPlan_22 mX7_84 lX7_in rfl rfl (Nat.le_of_ble_eq_true rfl) (Nat.le_of_ble_eq_true rfl) (ein _) ?_
    refine go_if_ne 33 dX7_noPlan_25 (by decide) (fun h25 => ?_) (fun h25 => ?_)
    · have ex : iR x (2 ^ P) = true := bI_n0.mp h25
      refine go_aload_n dX7_noPlan_33 rfl ?_
      refine go_geti dX7_noPlan_34 fX7_130 rfl (by decide) (by decide) (by decide) rfl hl ?_
      refine go_if_eq 45 dX7_noPlan_37 (by decide) (fun h37 => ?_) (fun h37 => ?_)
      · have el : lw = 0 := (nI_eq (b := 0) (by omega) (by omega)).mp h37
        refine go_iconst (nI 0) dX7_noPlan_45 (by decide +kernel) ?_
        exact go_iret dX7_noPlan_46 rfl (by first | rw [rfP, if_neg (by rw [en]; decide), if_pos ex] | rw [rfP, if_neg (by rw [en]; decide), if_neg (by rw [ex]; decide), if_pos el] | rw [rfP, if_neg (by rw [en]; decide), if_neg (by rw [ex]; decide), if_neg (Decidable.not_not.mpr el)]) rfl
      · have el : lw ≠ 0 := fun z => h37 (by rw [z]; rfl)
        refine go_bipush (-3) dX7_noPlan_40 (by decide +kernel) ?_
        refine go_goto 46 dX7_noPlan_42 (by decide) ?_
        exact go_iret dX7_noPlan_46 rfl (by first | rw [rfP, if_neg (by rw [en]; decide), if_pos ex] | rw [rfP, if_neg (by rw [en]; decide), if_neg (by rw [ex]; decide), if_pos el] | rw [rfP, if_neg (by rw [en]; decide), if_neg (by rw [ex]; decide), if_neg (Decidable.not_not.mpr el)]) rfl
    · have ex : iR x (2 ^ P) = false := bI_0.mp h25
      refine go_bipush (-2) dX7_noPlan_28 (by decide +kernel) ?_
      refine go_goto 46 dX7_noPlan_30 (by decide) ?_
      exact go_iret dX7_noPlan_46 rfl (by first | rw [rfP, if_neg (by rw [en]; decide), if_pos ex] | rw [rfP, if_neg (by rw [en]; decide), if_neg (by rw [ex]; decide), if_pos el] | rw [rfP, if_neg (by rw [en]; decide), if_neg (by rw [ex]; decide), if_neg (Decidable.not_not.mpr el)]) rfl
  · have en : iR n N = false := by
      have := bI_n0.mp h5
      cases hz : iR n N with
      | false => rfl
      | true => rw [hz] at this; cases this
    refine go_iconst (-1) dX7_noPlan_8 (by decide +kernel) ?_
    exact go_iret dX7_noPlan_9 rfl (by rw [rfP, if_pos en]) rfl
theorem c_findFewest {O : gOm} {d : Nat} {m : gMem} {P w hr n k a b : Nat} (hP : m.1 46 4 = nI P) (hP6 : P ≤ 6) (hh : m.1 46 11 = nI hr) (hr6 : hr < 6) (hw : w < 64) (hn : n < 3) (hk : k < 64) (sk : m.1 52 (3 + n) = nI k) (ha : m.1 49 n = nI a) (hb : m.1 52 n = nI b) (hab : b ≤ a) (ha9 : a ≤ 9) : Ca O (d + 4) kX7_findFewest [.ref 46, .int (nI n), .int (nI w)] (some (.int (if nR (grp (m.1 48) P) w (6 - hr) k ≤ a - b then nI (nR (grp (m.1 48) P) w (6 - hr) k) else -9))) m (gupA m 64 (lyF (grp (m.1 48) P) w (m.1 64) (6 - hr))) := by
  have hl := lyF_at (G := grp (m.1 48) P) (w := w) (f := m.1 64) (h := hr) (r := 6 - hr) (k := k) (c := 6 - hr) (by omega) hk (by omega) (Nat.le_refl _)
  have hn9 := nR_le (grp (m.1 48) P) w (6 - hr) k
  show Go O (d + 4) kX7_findFewest _ _ 0 [.ref 46, .int (nI n), .int (nI w), .null] [] m
  refine go_aload_n dX7_findFewest_0 rfl ?_
  refine go_iload_n dX7_findFewest_1 rfl ?_
  refine go_callV0 (K' := kX7_layNeed) [_] dX7_findFewest_2 mX7_187 lX7_layNeed rfl (by decide) rfl (by decide) rfl rfl (Nat.le_of_ble_eq_true rfl) (Nat.le_of_ble_eq_true rfl) (c_layNeed hP hP6 hh hr6 hw) ?_
  refine go_aload_n dX7_findFewest_5 rfl ?_
  refine go_getc dX7_findFewest_6 fX7_62 rfl (by decide) (by decide) (by decide) rfl ?_
  refine go_bipush (nI 64) dX7_findFewest_9 (by decide +kernel) ?_
  refine go_aload_n dX7_findFewest_11 rfl ?_
  refine go_geti dX7_findFewest_12 fX7_137 rfl (by decide) (by decide) (by decide) rfl hh ?_
  first | refine go_imul_n dX7_findFewest_15 ?_ | refine go_imul dX7_findFewest_15 rfl ?_
  refine go_aload_n dX7_findFewest_16 rfl ?_
  refine go_getc dX7_findFewest_17 fX7_25 rfl (by decide) (by decide) (by decide) rfl ?_
  refine go_iconst (nI 3) dX7_findFewest_20 (by decide +kernel) ?_
  refine go_iload_n dX7_findFewest_21 rfl ?_
  first | refine go_iadd_n dX7_findFewest_22 ?_ | refine go_iadd dX7_findFewest_22 rfl ?_
  refine go_iald dX7_findFewest_23 rfl (by decide) rfl (by omega) (by decide) sk ?_
  first | refine go_iadd_n dX7_findFewest_24 ?_ | refine go_iadd dX7_findFewest_24 rfl ?_
  refine go_ialdA dX7_findFewest_25 rfl (by decide) rfl (by omega) (by decide) hl ?_
  refine go_istore_n (L' := [_, _, _, _]) dX7_findFewest_26 (by decide) rfl ?_
  refine go_iload_n dX7_findFewest_27 rfl ?_
  refine go_aload_n dX7_findFewest_28 rfl ?_
  refine go_iload_n dX7_findFewest_29 rfl ?_
  refine go_callV1 (K' := kX7_leftOf) [_] dX7_findFewest_30 mX7_191 lX7_leftOf rfl (by decide) rfl (by decide) rfl rfl (Nat.le_of_ble_eq_true rfl) (Nat.le_of_ble_eq_true rfl) (c_leftOf hn ha hb hab) ?_
  refine go_icmp_le 41 dX7_findFewest_33 (by decide) (fun h33 => ?_) (fun h33 => ?_)
  · have er := (nI_leI (by omega) (by omega)).mp h33
    refine go_iload_n dX7_findFewest_41 rfl ?_
    exact go_iret dX7_findFewest_42 rfl (by first | rw [if_pos er] | rw [if_neg er]) rfl
  · have er : ¬ nR (grp (m.1 48) P) w (6 - hr) k ≤ a - b := fun q => h33 (nI_le q (by omega))
    refine go_bipush (-9) dX7_findFewest_36 (by decide +kernel) ?_
    refine go_goto 42 dX7_findFewest_38 (by decide) ?_
    exact go_iret dX7_findFewest_42 rfl (by first | rw [if_pos er] | rw [if_neg er]) rfl
