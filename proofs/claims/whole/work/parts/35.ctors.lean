/-! the constructors -/
set_option maxHeartbeats 4000000 in
set_option maxRecDepth 20000 in
theorem c_init_X0 {O : mOm} {d : Nat} (h : Nat) : Cm O (d + 1) 1 16 kX0_init [.ref h] [(h, .inr (0, [.null, .int 0]))] (fun u => [(h, .inr (0, [.ref (u.getD 0 0), .int 0])), ((u.getD 0 0), .inl (O.2.1, 16, .inl (fun _ => 0)))]) := by
  show Gm O (d + 1) 1 16 kX0_init _ 0 [.ref h] [] [(h, .inr (0, [.null, .int 0]))] 0 0
  refine gm_aload_n dX0_init_0 rfl ?_
  refine gm_objInit dX0_init_1 moX0_3 gOi gOc (Nat.le_of_ble_eq_true rfl) (by omega) ?_
  refine gm_aload_n dX0_init_4 rfl ?_
  refine gm_bipush (nI 16) dX0_init_5 (by decide +kernel) ?_
  refine gm_newI dX0_init_7 gAi rfl (by decide) (by decide) (by decide) (fun q1 => ?_)
  refine gm_put (q0 := 0) (ws1 := [(_, .inr (0, [_, _])), _]) dX0_init_9 foX0_9 rfl (Nat.le_of_ble_eq_true rfl) rfl (Or.inr ⟨_, rfl⟩) rfl ?_
  exact gm_vret [q1] dX0_init_12 rfl rfl rfl rfl
set_option maxHeartbeats 4000000 in
set_option maxRecDepth 20000 in
theorem c_init_X1 {O : mOm} {d : Nat} (h : Nat) : Cm O (d + 1) 5 63 kX1_init [.ref h] [(h, .inr (1, [.null, .null, .null, .null, .null, .int 0, .int 0, .int 0]))] (fun u => [(h, .inr (1, [.ref (u.getD 0 0), .ref (u.getD 1 0), .ref (u.getD 2 0), .ref (u.getD 3 0), .ref (u.getD 4 0), .int 0, .int 0, .int 0])), ((u.getD 0 0), .inl (O.2.1, 36, .inl (fun _ => 0))), ((u.getD 1 0), .inl (O.2.1, 18, .inl (fun _ => 0))), ((u.getD 2 0), .inl (O.2.1, 3, .inl (fun _ => 0))), ((u.getD 3 0), .inl (O.2.1, 3, .inl (fun _ => 0))), ((u.getD 4 0), .inl (O.2.1, 3, .inl (fun _ => 0)))]) := by
  show Gm O (d + 1) 5 63 kX1_init _ 0 [.ref h] [] [(h, .inr (1, [.null, .null, .null, .null, .null, .int 0, .int 0, .int 0]))] 0 0
  refine gm_aload_n dX1_init_0 rfl ?_
  refine gm_objInit dX1_init_1 moX1_3 gOi gOc (Nat.le_of_ble_eq_true rfl) (by omega) ?_
  refine gm_aload_n dX1_init_4 rfl ?_
  refine gm_bipush (nI 36) dX1_init_5 (by decide +kernel) ?_
  refine gm_newI dX1_init_7 gAi rfl (by decide) (by decide) (by decide) (fun q1 => ?_)
  refine gm_put (q0 := 0) (ws1 := [(_, .inr (1, [_, _, _, _, _, _, _, _])), _]) dX1_init_9 foX1_9 rfl (Nat.le_of_ble_eq_true rfl) rfl (Or.inr ⟨_, rfl⟩) rfl ?_
  refine gm_aload_n dX1_init_12 rfl ?_
  refine gm_bipush (nI 18) dX1_init_13 (by decide +kernel) ?_
  refine gm_newI dX1_init_15 gAi rfl (by decide) (by decide) (by decide) (fun q2 => ?_)
  refine gm_put (q0 := 0) (ws1 := [(_, .inr (1, [_, _, _, _, _, _, _, _])), _, _]) dX1_init_17 foX1_15 rfl (Nat.le_of_ble_eq_true rfl) rfl (Or.inr ⟨_, rfl⟩) rfl ?_
  refine gm_aload_n dX1_init_20 rfl ?_
  refine gm_iconst (nI 3) dX1_init_21 (by decide +kernel) ?_
  refine gm_newI dX1_init_22 gAi rfl (by decide) (by decide) (by decide) (fun q3 => ?_)
  refine gm_put (q0 := 0) (ws1 := [(_, .inr (1, [_, _, _, _, _, _, _, _])), _, _, _]) dX1_init_24 foX1_18 rfl (Nat.le_of_ble_eq_true rfl) rfl (Or.inr ⟨_, rfl⟩) rfl ?_
  refine gm_aload_n dX1_init_27 rfl ?_
  refine gm_iconst (nI 3) dX1_init_28 (by decide +kernel) ?_
  refine gm_newI dX1_init_29 gAi rfl (by decide) (by decide) (by decide) (fun q4 => ?_)
  refine gm_put (q0 := 0) (ws1 := [(_, .inr (1, [_, _, _, _, _, _, _, _])), _, _, _, _]) dX1_init_31 foX1_21 rfl (Nat.le_of_ble_eq_true rfl) rfl (Or.inr ⟨_, rfl⟩) rfl ?_
  refine gm_aload_n dX1_init_34 rfl ?_
  refine gm_iconst (nI 3) dX1_init_35 (by decide +kernel) ?_
  refine gm_newI dX1_init_36 gAi rfl (by decide) (by decide) (by decide) (fun q5 => ?_)
  refine gm_put (q0 := 0) (ws1 := [(_, .inr (1, [_, _, _, _, _, _, _, _])), _, _, _, _, _]) dX1_init_38 foX1_24 rfl (Nat.le_of_ble_eq_true rfl) rfl (Or.inr ⟨_, rfl⟩) rfl ?_
  exact gm_vret [q1, q2, q3, q4, q5] dX1_init_41 rfl rfl rfl rfl
set_option maxHeartbeats 4000000 in
set_option maxRecDepth 20000 in
theorem c_init_X2 {O : mOm} {d : Nat} (h t : Nat) : Cm O (d + 1) 4 1096 kX2_init [.ref h, .ref t] [(h, .inr (2, [.null, .null, .null, .null, .null, .int 0, .int 0]))] (fun u => [(h, .inr (2, [.ref (u.getD 0 0), .ref (u.getD 1 0), .ref (u.getD 2 0), .ref (u.getD 3 0), .ref t, .int 0, .int 0])), ((u.getD 0 0), .inl (O.2.1, 384, .inl (fun _ => 0))), ((u.getD 1 0), .inl (O.2.1, 64, .inl (fun _ => 0))), ((u.getD 2 0), .inl (O.2.1, 640, .inl (fun _ => 0))), ((u.getD 3 0), .inl (O.2.1, 8, .inl (fun _ => 0)))]) := by
  show Gm O (d + 1) 4 1096 kX2_init _ 0 [.ref h, .ref t] [] [(h, .inr (2, [.null, .null, .null, .null, .null, .int 0, .int 0]))] 0 0
  refine gm_aload_n dX2_init_0 rfl ?_
  refine gm_objInit dX2_init_1 moX2_3 gOi gOc (Nat.le_of_ble_eq_true rfl) (by omega) ?_
  refine gm_aload_n dX2_init_4 rfl ?_
  refine gm_sipush (nI 384) dX2_init_5 (by decide +kernel) ?_
  refine gm_newI dX2_init_8 gAi rfl (by decide) (by decide) (by decide) (fun q1 => ?_)
  refine gm_put (q0 := 0) (ws1 := [(_, .inr (2, [_, _, _, _, _, _, _])), _]) dX2_init_10 foX2_9 rfl (Nat.le_of_ble_eq_true rfl) rfl (Or.inr ⟨_, rfl⟩) rfl ?_
  refine gm_aload_n dX2_init_13 rfl ?_
  refine gm_bipush (nI 64) dX2_init_14 (by decide +kernel) ?_
  refine gm_newI dX2_init_16 gAi rfl (by decide) (by decide) (by decide) (fun q2 => ?_)
  refine gm_put (q0 := 0) (ws1 := [(_, .inr (2, [_, _, _, _, _, _, _])), _, _]) dX2_init_18 foX2_15 rfl (Nat.le_of_ble_eq_true rfl) rfl (Or.inr ⟨_, rfl⟩) rfl ?_
  refine gm_aload_n dX2_init_21 rfl ?_
  refine gm_sipush (nI 640) dX2_init_22 (by decide +kernel) ?_
  refine gm_newI dX2_init_25 gAi rfl (by decide) (by decide) (by decide) (fun q3 => ?_)
  refine gm_put (q0 := 0) (ws1 := [(_, .inr (2, [_, _, _, _, _, _, _])), _, _, _]) dX2_init_27 foX2_18 rfl (Nat.le_of_ble_eq_true rfl) rfl (Or.inr ⟨_, rfl⟩) rfl ?_
  refine gm_aload_n dX2_init_30 rfl ?_
  refine gm_bipush (nI 8) dX2_init_31 (by decide +kernel) ?_
  refine gm_newI dX2_init_33 gAi rfl (by decide) (by decide) (by decide) (fun q4 => ?_)
  refine gm_put (q0 := 0) (ws1 := [(_, .inr (2, [_, _, _, _, _, _, _])), _, _, _, _]) dX2_init_35 foX2_21 rfl (Nat.le_of_ble_eq_true rfl) rfl (Or.inr ⟨_, rfl⟩) rfl ?_
  refine gm_aload_n dX2_init_38 rfl ?_
  refine gm_aload_n dX2_init_39 rfl ?_
  refine gm_put (q0 := 0) (ws1 := [(_, .inr (2, [_, _, _, _, _, _, _])), _, _, _, _]) dX2_init_40 foX2_24 rfl (Nat.le_of_ble_eq_true rfl) rfl (Or.inl ⟨_, rfl⟩) rfl ?_
  exact gm_vret [q1, q2, q3, q4] dX2_init_43 rfl rfl rfl rfl
set_option maxHeartbeats 4000000 in
set_option maxRecDepth 20000 in
theorem c_init_X3 {O : mOm} {d : Nat} (h : Nat) : Cm O (d + 1) 1 72 kX3_init [.ref h] [(h, .inr (3, [.null, .int 0]))] (fun u => [(h, .inr (3, [.ref (u.getD 0 0), .int 0])), ((u.getD 0 0), .inl (O.2.1, 72, .inl (fun _ => 0)))]) := by
  show Gm O (d + 1) 1 72 kX3_init _ 0 [.ref h] [] [(h, .inr (3, [.null, .int 0]))] 0 0
  refine gm_aload_n dX3_init_0 rfl ?_
  refine gm_objInit dX3_init_1 moX3_3 gOi gOc (Nat.le_of_ble_eq_true rfl) (by omega) ?_
  refine gm_aload_n dX3_init_4 rfl ?_
  refine gm_bipush (nI 72) dX3_init_5 (by decide +kernel) ?_
  refine gm_newI dX3_init_7 gAi rfl (by decide) (by decide) (by decide) (fun q1 => ?_)
  refine gm_put (q0 := 0) (ws1 := [(_, .inr (3, [_, _])), _]) dX3_init_9 foX3_9 rfl (Nat.le_of_ble_eq_true rfl) rfl (Or.inr ⟨_, rfl⟩) rfl ?_
  exact gm_vret [q1] dX3_init_12 rfl rfl rfl rfl
set_option maxHeartbeats 4000000 in
set_option maxRecDepth 20000 in
theorem c_init_X4 {O : mOm} {d : Nat} (h : Nat) : Cm O (d + 1) 2 12 kX4_init [.ref h] [(h, .inr (4, [.null, .null, .int 0]))] (fun u => [(h, .inr (4, [.ref (u.getD 0 0), .ref (u.getD 1 0), .int 0])), ((u.getD 0 0), .inl (O.2.1, 6, .inl (fun _ => 0))), ((u.getD 1 0), .inl (O.2.1, 6, .inl (fun _ => 0)))]) := by
  show Gm O (d + 1) 2 12 kX4_init _ 0 [.ref h] [] [(h, .inr (4, [.null, .null, .int 0]))] 0 0
  refine gm_aload_n dX4_init_0 rfl ?_
  refine gm_objInit dX4_init_1 moX4_3 gOi gOc (Nat.le_of_ble_eq_true rfl) (by omega) ?_
  refine gm_aload_n dX4_init_4 rfl ?_
  refine gm_bipush (nI 6) dX4_init_5 (by decide +kernel) ?_
  refine gm_newI dX4_init_7 gAi rfl (by decide) (by decide) (by decide) (fun q1 => ?_)
  refine gm_put (q0 := 0) (ws1 := [(_, .inr (4, [_, _, _])), _]) dX4_init_9 foX4_9 rfl (Nat.le_of_ble_eq_true rfl) rfl (Or.inr ⟨_, rfl⟩) rfl ?_
  refine gm_aload_n dX4_init_12 rfl ?_
  refine gm_bipush (nI 6) dX4_init_13 (by decide +kernel) ?_
  refine gm_newI dX4_init_15 gAi rfl (by decide) (by decide) (by decide) (fun q2 => ?_)
  refine gm_put (q0 := 0) (ws1 := [(_, .inr (4, [_, _, _])), _, _]) dX4_init_17 foX4_15 rfl (Nat.le_of_ble_eq_true rfl) rfl (Or.inr ⟨_, rfl⟩) rfl ?_
  exact gm_vret [q1, q2] dX4_init_20 rfl rfl rfl rfl
set_option maxHeartbeats 4000000 in
set_option maxRecDepth 20000 in
theorem c_init_X5 {O : mOm} {d : Nat} (h : Nat) : Cm O (d + 1) 4 48 kX5_init [.ref h] [(h, .inr (5, [.null, .null, .null, .null, .int 0, .int 0]))] (fun u => [(h, .inr (5, [.ref (u.getD 0 0), .ref (u.getD 1 0), .ref (u.getD 2 0), .ref (u.getD 3 0), .int 0, .int 0])), ((u.getD 0 0), .inl (O.2.1, 3, .inl (fun _ => 0))), ((u.getD 1 0), .inl (O.2.1, 18, .inl (fun _ => 0))), ((u.getD 2 0), .inl (O.2.1, 18, .inl (fun _ => 0))), ((u.getD 3 0), .inl (O.2.1, 9, .inl (fun _ => 0)))]) := by
  show Gm O (d + 1) 4 48 kX5_init _ 0 [.ref h] [] [(h, .inr (5, [.null, .null, .null, .null, .int 0, .int 0]))] 0 0
  refine gm_aload_n dX5_init_0 rfl ?_
  refine gm_objInit dX5_init_1 moX5_3 gOi gOc (Nat.le_of_ble_eq_true rfl) (by omega) ?_
  refine gm_aload_n dX5_init_4 rfl ?_
  refine gm_iconst (nI 3) dX5_init_5 (by decide +kernel) ?_
  refine gm_newI dX5_init_6 gAi rfl (by decide) (by decide) (by decide) (fun q1 => ?_)
  refine gm_put (q0 := 0) (ws1 := [(_, .inr (5, [_, _, _, _, _, _])), _]) dX5_init_8 foX5_9 rfl (Nat.le_of_ble_eq_true rfl) rfl (Or.inr ⟨_, rfl⟩) rfl ?_
  refine gm_aload_n dX5_init_11 rfl ?_
  refine gm_bipush (nI 18) dX5_init_12 (by decide +kernel) ?_
  refine gm_newI dX5_init_14 gAi rfl (by decide) (by decide) (by decide) (fun q2 => ?_)
  refine gm_put (q0 := 0) (ws1 := [(_, .inr (5, [_, _, _, _, _, _])), _, _]) dX5_init_16 foX5_15 rfl (Nat.le_of_ble_eq_true rfl) rfl (Or.inr ⟨_, rfl⟩) rfl ?_
  refine gm_aload_n dX5_init_19 rfl ?_
  refine gm_bipush (nI 18) dX5_init_20 (by decide +kernel) ?_
  refine gm_newI dX5_init_22 gAi rfl (by decide) (by decide) (by decide) (fun q3 => ?_)
  refine gm_put (q0 := 0) (ws1 := [(_, .inr (5, [_, _, _, _, _, _])), _, _, _]) dX5_init_24 foX5_18 rfl (Nat.le_of_ble_eq_true rfl) rfl (Or.inr ⟨_, rfl⟩) rfl ?_
  refine gm_aload_n dX5_init_27 rfl ?_
  refine gm_bipush (nI 9) dX5_init_28 (by decide +kernel) ?_
  refine gm_newI dX5_init_30 gAi rfl (by decide) (by decide) (by decide) (fun q4 => ?_)
  refine gm_put (q0 := 0) (ws1 := [(_, .inr (5, [_, _, _, _, _, _])), _, _, _, _]) dX5_init_32 foX5_21 rfl (Nat.le_of_ble_eq_true rfl) rfl (Or.inr ⟨_, rfl⟩) rfl ?_
  exact gm_vret [q1, q2, q3, q4] dX5_init_35 rfl rfl rfl rfl
set_option maxHeartbeats 4000000 in
set_option maxRecDepth 20000 in
theorem c_init_X6 {O : mOm} {d : Nat} (h : Nat) : Cm O (d + 2) 45 1570 kX6_init [.ref h] [(h, .inr (6, [.null, .null, .null, .null, .null, .null, .null, .null, .null]))] (fun u => [(h, .inr (6, [.ref (u.getD 0 0), .ref (u.getD 2 0), .ref (u.getD 7 0), .ref (u.getD 12 0), .ref (u.getD 23 0), .ref (u.getD 25 0), .ref (u.getD 40 0), .ref (u.getD 28 0), .ref (u.getD 34 0)])), ((u.getD 0 0), .inr (3, [.ref (u.getD 1 0), .int 0])), ((u.getD 1 0), .inl (O.2.1, 72, .inl (fun _ => 0))), ((u.getD 2 0), .inr (5, [.ref (u.getD 3 0), .ref (u.getD 4 0), .ref (u.getD 5 0), .ref (u.getD 6 0), .int 0, .int 0])), ((u.getD 3 0), .inl (O.2.1, 3, .inl (fun _ => 0))), ((u.getD 4 0), .inl (O.2.1, 18, .inl (fun _ => 0))), ((u.getD 5 0), .inl (O.2.1, 18, .inl (fun _ => 0))), ((u.getD 6 0), .inl (O.2.1, 9, .inl (fun _ => 0))), ((u.getD 7 0), .inr (5, [.ref (u.getD 8 0), .ref (u.getD 9 0), .ref (u.getD 10 0), .ref (u.getD 11 0), .int 0, .int 0])), ((u.getD 8 0), .inl (O.2.1, 3, .inl (fun _ => 0))), ((u.getD 9 0), .inl (O.2.1, 18, .inl (fun _ => 0))), ((u.getD 10 0), .inl (O.2.1, 18, .inl (fun _ => 0))), ((u.getD 11 0), .inl (O.2.1, 9, .inl (fun _ => 0))), ((u.getD 12 0), .inl (O.2.2.2, 2, .inr (.inr (.inr (.inr (va_up (va_up (fun _ => none) 0 (some (u.getD 13 0))) 1 (some (u.getD 18 0)))))))), ((u.getD 13 0), .inr (5, [.ref (u.getD 14 0), .ref (u.getD 15 0), .ref (u.getD 16 0), .ref (u.getD 17 0), .int 0, .int 0])), ((u.getD 14 0), .inl (O.2.1, 3, .inl (fun _ => 0))), ((u.getD 15 0), .inl (O.2.1, 18, .inl (fun _ => 0))), ((u.getD 16 0), .inl (O.2.1, 18, .inl (fun _ => 0))), ((u.getD 17 0), .inl (O.2.1, 9, .inl (fun _ => 0))), ((u.getD 18 0), .inr (5, [.ref (u.getD 19 0), .ref (u.getD 20 0), .ref (u.getD 21 0), .ref (u.getD 22 0), .int 0, .int 0])), ((u.getD 19 0), .inl (O.2.1, 3, .inl (fun _ => 0))), ((u.getD 20 0), .inl (O.2.1, 18, .inl (fun _ => 0))), ((u.getD 21 0), .inl (O.2.1, 18, .inl (fun _ => 0))), ((u.getD 22 0), .inl (O.2.1, 9, .inl (fun _ => 0))), ((u.getD 23 0), .inr (0, [.ref (u.getD 24 0), .int 0])), ((u.getD 24 0), .inl (O.2.1, 16, .inl (fun _ => 0))), ((u.getD 25 0), .inr (4, [.ref (u.getD 26 0), .ref (u.getD 27 0), .int 0])), ((u.getD 26 0), .inl (O.2.1, 6, .inl (fun _ => 0))), ((u.getD 27 0), .inl (O.2.1, 6, .inl (fun _ => 0))), ((u.getD 28 0), .inr (1, [.ref (u.getD 29 0), .ref (u.getD 30 0), .ref (u.getD 31 0), .ref (u.getD 32 0), .ref (u.getD 33 0), .int 0, .int 0, .int 0])), ((u.getD 29 0), .inl (O.2.1, 36, .inl (fun _ => 0))), ((u.getD 30 0), .inl (O.2.1, 18, .inl (fun _ => 0))), ((u.getD 31 0), .inl (O.2.1, 3, .inl (fun _ => 0))), ((u.getD 32 0), .inl (O.2.1, 3, .inl (fun _ => 0))), ((u.getD 33 0), .inl (O.2.1, 3, .inl (fun _ => 0))), ((u.getD 34 0), .inr (1, [.ref (u.getD 35 0), .ref (u.getD 36 0), .ref (u.getD 37 0), .ref (u.getD 38 0), .ref (u.getD 39 0), .int 0, .int 0, .int 0])), ((u.getD 35 0), .inl (O.2.1, 36, .inl (fun _ => 0))), ((u.getD 36 0), .inl (O.2.1, 18, .inl (fun _ => 0))), ((u.getD 37 0), .inl (O.2.1, 3, .inl (fun _ => 0))), ((u.getD 38 0), .inl (O.2.1, 3, .inl (fun _ => 0))), ((u.getD 39 0), .inl (O.2.1, 3, .inl (fun _ => 0))), ((u.getD 40 0), .inr (2, [.ref (u.getD 41 0), .ref (u.getD 42 0), .ref (u.getD 43 0), .ref (u.getD 44 0), .ref (u.getD 28 0), .int 0, .int 0])), ((u.getD 41 0), .inl (O.2.1, 384, .inl (fun _ => 0))), ((u.getD 42 0), .inl (O.2.1, 64, .inl (fun _ => 0))), ((u.getD 43 0), .inl (O.2.1, 640, .inl (fun _ => 0))), ((u.getD 44 0), .inl (O.2.1, 8, .inl (fun _ => 0)))]) := by
  show Gm O (d + 2) 45 1570 kX6_init _ 0 [.ref h, .null] [] [(h, .inr (6, [.null, .null, .null, .null, .null, .null, .null, .null, .null]))] 0 0
  refine gm_aload_n dX6_init_0 rfl ?_
  refine gm_objInit dX6_init_1 moX6_3 gOi gOc (Nat.le_of_ble_eq_true rfl) (by omega) ?_
  refine gm_aload_n dX6_init_4 rfl ?_
  refine gm_new (ci := 3) (fs := [.null, .int 0]) dX6_init_5 rfl clX6_9 itX3 inX3 (by decide +kernel) (by decide) (by decide) (fun q1 => ?_)
  refine gm_dup dX6_init_8 rfl ?_
  refine gm_ctor (K' := kX3_init) (wc := [_]) (wr := [_]) [] [1] [0] dX6_init_9 mX6_11 lX3_init rfl rfl (by decide) (by decide) (by decide) rfl rfl (Nat.le_of_ble_eq_true rfl) (Nat.le_of_ble_eq_true rfl) (by decide) (by decide) (c_init_X3 q1) (fun u2 => ?_)
  refine gm_put (q0 := 0) (ws1 := [(_, .inr (6, [_, _, _, _, _, _, _, _, _])), _, _]) dX6_init_12 foX6_12 rfl (Nat.le_of_ble_eq_true rfl) rfl (Or.inl ⟨_, rfl⟩) rfl ?_
  refine gm_aload_n dX6_init_15 rfl ?_
  refine gm_new (ci := 5) (fs := [.null, .null, .null, .null, .int 0, .int 0]) dX6_init_16 rfl clX6_16 itX5 inX5 (by decide +kernel) (by decide) (by decide) (fun q3 => ?_)
  refine gm_dup dX6_init_19 rfl ?_
  refine gm_ctor (K' := kX5_init) (wc := [_]) (wr := [_, _, _]) [] [3] [0, 1, 2] dX6_init_20 mX6_18 lX5_init rfl rfl (by decide) (by decide) (by decide) rfl rfl (Nat.le_of_ble_eq_true rfl) (Nat.le_of_ble_eq_true rfl) (by decide) (by decide) (c_init_X5 q3) (fun u4 => ?_)
  refine gm_put (q0 := 0) (ws1 := [(_, .inr (6, [_, _, _, _, _, _, _, _, _])), _, _, _, _, _, _, _]) dX6_init_23 foX6_19 rfl (Nat.le_of_ble_eq_true rfl) rfl (Or.inl ⟨_, rfl⟩) rfl ?_
  refine gm_aload_n dX6_init_26 rfl ?_
  refine gm_new (ci := 5) (fs := [.null, .null, .null, .null, .int 0, .int 0]) dX6_init_27 rfl clX6_16 itX5 inX5 (by decide +kernel) (by decide) (by decide) (fun q5 => ?_)
  refine gm_dup dX6_init_30 rfl ?_
  refine gm_ctor (K' := kX5_init) (wc := [_]) (wr := [_, _, _, _, _, _, _, _]) [] [8] [0, 1, 2, 3, 4, 5, 6, 7] dX6_init_31 mX6_18 lX5_init rfl rfl (by decide) (by decide) (by decide) rfl rfl (Nat.le_of_ble_eq_true rfl) (Nat.le_of_ble_eq_true rfl) (by decide) (by decide) (c_init_X5 q5) (fun u6 => ?_)
  refine gm_put (q0 := 0) (ws1 := [(_, .inr (6, [_, _, _, _, _, _, _, _, _])), _, _, _, _, _, _, _, _, _, _, _, _]) dX6_init_34 foX6_23 rfl (Nat.le_of_ble_eq_true rfl) rfl (Or.inl ⟨_, rfl⟩) rfl ?_
  refine gm_aload_n dX6_init_37 rfl ?_
  refine gm_iconst (nI 2) dX6_init_38 (by decide +kernel) ?_
  refine gm_newS dX6_init_39 clX6_16 rfl (by decide) (by decide) (by decide) (fun q7 => ?_)
  refine gm_put (q0 := 0) (ws1 := [(_, .inr (6, [_, _, _, _, _, _, _, _, _])), _, _, _, _, _, _, _, _, _, _, _, _, _]) dX6_init_42 foX6_26 rfl (Nat.le_of_ble_eq_true rfl) rfl (Or.inr ⟨_, rfl⟩) rfl ?_
  refine gm_iconst (nI 0) dX6_init_45 (by decide +kernel) ?_
  refine gm_istore_n (L' := [_, _]) dX6_init_46 (by decide) rfl ?_
  refine gm_iload_n dX6_init_47 rfl ?_
  refine gm_iconst (nI 2) dX6_init_48 (by decide +kernel) ?_
  refine gm_icmp_ge 71 dX6_init_49 (by decide) (fun h => absurd h (by decide +kernel)) (fun _ => ?_)
  refine gm_aload_n dX6_init_52 rfl ?_
  refine gm_get (q0 := 0) dX6_init_53 fX6_26 rfl rfl (fun _ _ _ h => by cases h; decide) ?_
  refine gm_iload_n dX6_init_56 rfl ?_
  refine gm_new (ci := 5) (fs := [.null, .null, .null, .null, .int 0, .int 0]) dX6_init_57 rfl clX6_16 itX5 inX5 (by decide +kernel) (by decide) (by decide) (fun q8 => ?_)
  refine gm_dup dX6_init_60 rfl ?_
  refine gm_ctor (K' := kX5_init) (wc := [_]) (wr := [_, _, _, _, _, _, _, _, _, _, _, _, _, _]) [] [14] [0, 1, 2, 3, 4, 5, 6, 7, 8, 9, 10, 11, 12, 13] dX6_init_61 mX6_18 lX5_init rfl rfl (by decide) (by decide) (by decide) rfl rfl (Nat.le_of_ble_eq_true rfl) (Nat.le_of_ble_eq_true rfl) (by decide) (by decide) (c_init_X5 q8) (fun u9 => ?_)
  refine gm_aast (q0 := 13) (qk := 14) (ws1 := [_, _, _, _, _, _, _, _, _, _, _, _, _, _, _, _, _, _, _]) dX6_init_64 rfl rfl rfl (by decide) (by decide) rfl ?_
  refine gm_iinc (L' := [_, _]) dX6_init_65 rfl (by decide) (nI_inc 0) rfl ?_
  refine gm_goto 47 dX6_init_68 (by decide) ?_
  refine gm_iload_n dX6_init_47 rfl ?_
  refine gm_iconst (nI 2) dX6_init_48 (by decide +kernel) ?_
  refine gm_icmp_ge 71 dX6_init_49 (by decide) (fun h => absurd h (by decide +kernel)) (fun _ => ?_)
  refine gm_aload_n dX6_init_52 rfl ?_
  refine gm_get (q0 := 0) dX6_init_53 fX6_26 rfl rfl (fun _ _ _ h => by cases h; decide) ?_
  refine gm_iload_n dX6_init_56 rfl ?_
  refine gm_new (ci := 5) (fs := [.null, .null, .null, .null, .int 0, .int 0]) dX6_init_57 rfl clX6_16 itX5 inX5 (by decide +kernel) (by decide) (by decide) (fun q10 => ?_)
  refine gm_dup dX6_init_60 rfl ?_
  refine gm_ctor (K' := kX5_init) (wc := [_]) (wr := [_, _, _, _, _, _, _, _, _, _, _, _, _, _, _, _, _, _, _]) [] [19] [0, 1, 2, 3, 4, 5, 6, 7, 8, 9, 10, 11, 12, 13, 14, 15, 16, 17, 18] dX6_init_61 mX6_18 lX5_init rfl rfl (by decide) (by decide) (by decide) rfl rfl (Nat.le_of_ble_eq_true rfl) (Nat.le_of_ble_eq_true rfl) (by decide) (by decide) (c_init_X5 q10) (fun u11 => ?_)
  refine gm_aast (q0 := 13) (qk := 19) (ws1 := [_, _, _, _, _, _, _, _, _, _, _, _, _, _, _, _, _, _, _, _, _, _, _, _]) dX6_init_64 rfl rfl rfl (by decide) (by decide) rfl ?_
  refine gm_iinc (L' := [_, _]) dX6_init_65 rfl (by decide) (nI_inc 1) rfl ?_
  refine gm_goto 47 dX6_init_68 (by decide) ?_
  refine gm_iload_n dX6_init_47 rfl ?_
  refine gm_iconst (nI 2) dX6_init_48 (by decide +kernel) ?_
  refine gm_icmp_ge 71 dX6_init_49 (by decide) (fun _ => ?_) (fun h => absurd (by decide +kernel) h)
  refine gm_aload_n dX6_init_71 rfl ?_
  refine gm_new (ci := 0) (fs := [.null, .int 0]) dX6_init_72 rfl clX6_30 itX0 inX0 (by decide +kernel) (by decide) (by decide) (fun q12 => ?_)
  refine gm_dup dX6_init_75 rfl ?_
  refine gm_ctor (K' := kX0_init) (wc := [_]) (wr := [_, _, _, _, _, _, _, _, _, _, _, _, _, _, _, _, _, _, _, _, _, _, _, _]) [] [24] [0, 1, 2, 3, 4, 5, 6, 7, 8, 9, 10, 11, 12, 13, 14, 15, 16, 17, 18, 19, 20, 21, 22, 23] dX6_init_76 mX6_32 lX0_init rfl rfl (by decide) (by decide) (by decide) rfl rfl (Nat.le_of_ble_eq_true rfl) (Nat.le_of_ble_eq_true rfl) (by decide) (by decide) (c_init_X0 q12) (fun u13 => ?_)
  refine gm_put (q0 := 0) (ws1 := [(_, .inr (6, [_, _, _, _, _, _, _, _, _])), _, _, _, _, _, _, _, _, _, _, _, _, _, _, _, _, _, _, _, _, _, _, _, _, _]) dX6_init_79 foX6_33 rfl (Nat.le_of_ble_eq_true rfl) rfl (Or.inl ⟨_, rfl⟩) rfl ?_
  refine gm_aload_n dX6_init_82 rfl ?_
  refine gm_new (ci := 4) (fs := [.null, .null, .int 0]) dX6_init_83 rfl clX6_37 itX4 inX4 (by decide +kernel) (by decide) (by decide) (fun q14 => ?_)
  refine gm_dup dX6_init_86 rfl ?_
  refine gm_ctor (K' := kX4_init) (wc := [_]) (wr := [_, _, _, _, _, _, _, _, _, _, _, _, _, _, _, _, _, _, _, _, _, _, _, _, _, _]) [] [26] [0, 1, 2, 3, 4, 5, 6, 7, 8, 9, 10, 11, 12, 13, 14, 15, 16, 17, 18, 19, 20, 21, 22, 23, 24, 25] dX6_init_87 mX6_39 lX4_init rfl rfl (by decide) (by decide) (by decide) rfl rfl (Nat.le_of_ble_eq_true rfl) (Nat.le_of_ble_eq_true rfl) (by decide) (by decide) (c_init_X4 q14) (fun u15 => ?_)
  refine gm_put (q0 := 0) (ws1 := [(_, .inr (6, [_, _, _, _, _, _, _, _, _])), _, _, _, _, _, _, _, _, _, _, _, _, _, _, _, _, _, _, _, _, _, _, _, _, _, _, _, _]) dX6_init_90 foX6_40 rfl (Nat.le_of_ble_eq_true rfl) rfl (Or.inl ⟨_, rfl⟩) rfl ?_
  refine gm_aload_n dX6_init_93 rfl ?_
  refine gm_new (ci := 1) (fs := [.null, .null, .null, .null, .null, .int 0, .int 0, .int 0]) dX6_init_94 rfl clX6_44 itX1 inX1 (by decide +kernel) (by decide) (by decide) (fun q16 => ?_)
  refine gm_dup dX6_init_97 rfl ?_
  refine gm_ctor (K' := kX1_init) (wc := [_]) (wr := [_, _, _, _, _, _, _, _, _, _, _, _, _, _, _, _, _, _, _, _, _, _, _, _, _, _, _, _, _]) [] [29] [0, 1, 2, 3, 4, 5, 6, 7, 8, 9, 10, 11, 12, 13, 14, 15, 16, 17, 18, 19, 20, 21, 22, 23, 24, 25, 26, 27, 28] dX6_init_98 mX6_46 lX1_init rfl rfl (by decide) (by decide) (by decide) rfl rfl (Nat.le_of_ble_eq_true rfl) (Nat.le_of_ble_eq_true rfl) (by decide) (by decide) (c_init_X1 q16) (fun u17 => ?_)
  refine gm_put (q0 := 0) (ws1 := [(_, .inr (6, [_, _, _, _, _, _, _, _, _])), _, _, _, _, _, _, _, _, _, _, _, _, _, _, _, _, _, _, _, _, _, _, _, _, _, _, _, _, _, _, _, _, _, _]) dX6_init_101 foX6_47 rfl (Nat.le_of_ble_eq_true rfl) rfl (Or.inl ⟨_, rfl⟩) rfl ?_
  refine gm_aload_n dX6_init_104 rfl ?_
  refine gm_new (ci := 1) (fs := [.null, .null, .null, .null, .null, .int 0, .int 0, .int 0]) dX6_init_105 rfl clX6_44 itX1 inX1 (by decide +kernel) (by decide) (by decide) (fun q18 => ?_)
  refine gm_dup dX6_init_108 rfl ?_
  refine gm_ctor (K' := kX1_init) (wc := [_]) (wr := [_, _, _, _, _, _, _, _, _, _, _, _, _, _, _, _, _, _, _, _, _, _, _, _, _, _, _, _, _, _, _, _, _, _, _]) [] [35] [0, 1, 2, 3, 4, 5, 6, 7, 8, 9, 10, 11, 12, 13, 14, 15, 16, 17, 18, 19, 20, 21, 22, 23, 24, 25, 26, 27, 28, 29, 30, 31, 32, 33, 34] dX6_init_109 mX6_46 lX1_init rfl rfl (by decide) (by decide) (by decide) rfl rfl (Nat.le_of_ble_eq_true rfl) (Nat.le_of_ble_eq_true rfl) (by decide) (by decide) (c_init_X1 q18) (fun u19 => ?_)
  refine gm_put (q0 := 0) (ws1 := [(_, .inr (6, [_, _, _, _, _, _, _, _, _])), _, _, _, _, _, _, _, _, _, _, _, _, _, _, _, _, _, _, _, _, _, _, _, _, _, _, _, _, _, _, _, _, _, _, _, _, _, _, _, _]) dX6_init_112 foX6_51 rfl (Nat.le_of_ble_eq_true rfl) rfl (Or.inl ⟨_, rfl⟩) rfl ?_
  refine gm_aload_n dX6_init_115 rfl ?_
  refine gm_new (ci := 2) (fs := [.null, .null, .null, .null, .null, .int 0, .int 0]) dX6_init_116 rfl clX6_54 itX2 inX2 (by decide +kernel) (by decide) (by decide) (fun q20 => ?_)
  refine gm_dup dX6_init_119 rfl ?_
  refine gm_aload_n dX6_init_120 rfl ?_
  refine gm_get (q0 := 0) dX6_init_121 fX6_47 rfl rfl (fun _ _ _ h => by cases h; decide) ?_
  refine gm_ctor (K' := kX2_init) (wc := [_]) (wr := [_, _, _, _, _, _, _, _, _, _, _, _, _, _, _, _, _, _, _, _, _, _, _, _, _, _, _, _, _, _, _, _, _, _, _, _, _, _, _, _, _]) [_] [41] [0, 1, 2, 3, 4, 5, 6, 7, 8, 9, 10, 11, 12, 13, 14, 15, 16, 17, 18, 19, 20, 21, 22, 23, 24, 25, 26, 27, 28, 29, 30, 31, 32, 33, 34, 35, 36, 37, 38, 39, 40] dX6_init_124 mX6_56 lX2_init rfl rfl (by decide) (by decide) (by decide) rfl rfl (Nat.le_of_ble_eq_true rfl) (Nat.le_of_ble_eq_true rfl) (by decide) (by decide) (c_init_X2 q20 q16) (fun u21 => ?_)
  refine gm_put (q0 := 0) (ws1 := [(_, .inr (6, [_, _, _, _, _, _, _, _, _])), _, _, _, _, _, _, _, _, _, _, _, _, _, _, _, _, _, _, _, _, _, _, _, _, _, _, _, _, _, _, _, _, _, _, _, _, _, _, _, _, _, _, _, _, _]) dX6_init_127 foX6_59 rfl (Nat.le_of_ble_eq_true rfl) rfl (Or.inl ⟨_, rfl⟩) rfl ?_
  exact gm_vret [q1, (u2.getD 0 0), q3, (u4.getD 0 0), (u4.getD 1 0), (u4.getD 2 0), (u4.getD 3 0), q5, (u6.getD 0 0), (u6.getD 1 0), (u6.getD 2 0), (u6.getD 3 0), q7, q8, (u9.getD 0 0), (u9.getD 1 0), (u9.getD 2 0), (u9.getD 3 0), q10, (u11.getD 0 0), (u11.getD 1 0), (u11.getD 2 0), (u11.getD 3 0), q12, (u13.getD 0 0), q14, (u15.getD 0 0), (u15.getD 1 0), q16, (u17.getD 0 0), (u17.getD 1 0), (u17.getD 2 0), (u17.getD 3 0), (u17.getD 4 0), q18, (u19.getD 0 0), (u19.getD 1 0), (u19.getD 2 0), (u19.getD 3 0), (u19.getD 4 0), q20, (u21.getD 0 0), (u21.getD 1 0), (u21.getD 2 0), (u21.getD 3 0)] dX6_init_130 rfl rfl rfl rfl
set_option maxHeartbeats 4000000 in
set_option maxRecDepth 20000 in
theorem c_init_X7 {O : mOm} {d : Nat} (h : Nat) : Cm O (d + 1) 22 4356 kX7_init [.ref h] [(h, .inr (7, [.int 0, .null, .int 0, .int 0, .int 0, .int 0, .int 0, .null, .null, .null, .null, .int 0, .null, .int 0, .int 0, .int 0, .null, .null, .null, .null, .null, .int 0, .null, .null, .null, .int 0, .null, .null, .null, .null, .null, .null, .null, .null]))] (fun u => [(h, .inr (7, [.int 0, .ref (u.getD 0 0), .int 0, .int 0, .int 0, .int 0, .int 0, .ref (u.getD 1 0), .ref (u.getD 2 0), .ref (u.getD 3 0), .ref (u.getD 4 0), .int 0, .ref (u.getD 5 0), .int 0, .int 0, .int 0, .ref (u.getD 6 0), .ref (u.getD 7 0), .ref (u.getD 8 0), .ref (u.getD 9 0), .ref (u.getD 10 0), .int 0, .ref (u.getD 11 0), .ref (u.getD 12 0), .ref (u.getD 13 0), .int 0, .ref (u.getD 14 0), .ref (u.getD 15 0), .ref (u.getD 16 0), .ref (u.getD 17 0), .ref (u.getD 18 0), .ref (u.getD 19 0), .ref (u.getD 20 0), .ref (u.getD 21 0)])), ((u.getD 0 0), .inl (O.2.1, 72, .inl (fun _ => 0))), ((u.getD 1 0), .inl (O.2.1, 36, .inl (fun _ => 0))), ((u.getD 2 0), .inl (O.2.1, 3, .inl (fun _ => 0))), ((u.getD 3 0), .inl (O.2.1, 3, .inl (fun _ => 0))), ((u.getD 4 0), .inl (O.2.1, 3, .inl (fun _ => 0))), ((u.getD 5 0), .inl (O.2.1, 58, .inl (fun _ => 0))), ((u.getD 6 0), .inl (O.2.1, 36, .inl (fun _ => 0))), ((u.getD 7 0), .inl (O.2.1, 3, .inl (fun _ => 0))), ((u.getD 8 0), .inl (O.2.1, 3, .inl (fun _ => 0))), ((u.getD 9 0), .inl (O.2.1, 3, .inl (fun _ => 0))), ((u.getD 10 0), .inl (O.2.1, 928, .inl (fun _ => 0))), ((u.getD 11 0), .inl (O.2.1, 116, .inl (fun _ => 0))), ((u.getD 12 0), .inl (O.2.2.1, 2, .inl (fun _ => 0))), ((u.getD 13 0), .inl (O.2.1, 58, .inl (fun _ => 0))), ((u.getD 14 0), .inl (O.2.1, 8, .inl (fun _ => 0))), ((u.getD 15 0), .inl (O.2.1, 8, .inl (fun _ => 0))), ((u.getD 16 0), .inl (O.2.2.1, 8, .inl (fun _ => 0))), ((u.getD 17 0), .inl (O.2.1, 448, .inl (fun _ => 0))), ((u.getD 18 0), .inl (O.2.1, 640, .inl (fun _ => 0))), ((u.getD 19 0), .inl (O.2.1, 640, .inl (fun _ => 0))), ((u.getD 20 0), .inl (O.2.2.1, 640, .inl (fun _ => 0))), ((u.getD 21 0), .inl (O.2.2.1, 640, .inl (fun _ => 0)))]) := by
  show Gm O (d + 1) 22 4356 kX7_init _ 0 [.ref h] [] [(h, .inr (7, [.int 0, .null, .int 0, .int 0, .int 0, .int 0, .int 0, .null, .null, .null, .null, .int 0, .null, .int 0, .int 0, .int 0, .null, .null, .null, .null, .null, .int 0, .null, .null, .null, .int 0, .null, .null, .null, .null, .null, .null, .null, .null]))] 0 0
  refine gm_aload_n dX7_init_0 rfl ?_
  refine gm_objInit dX7_init_1 moX7_1 gOi gOc (Nat.le_of_ble_eq_true rfl) (by omega) ?_
  refine gm_aload_n dX7_init_4 rfl ?_
  refine gm_bipush (nI 72) dX7_init_5 (by decide +kernel) ?_
  refine gm_newI dX7_init_7 gAi rfl (by decide) (by decide) (by decide) (fun q1 => ?_)
  refine gm_put (q0 := 0) (ws1 := [(_, .inr (7, [_, _, _, _, _, _, _, _, _, _, _, _, _, _, _, _, _, _, _, _, _, _, _, _, _, _, _, _, _, _, _, _, _, _])), _]) dX7_init_9 foX7_7 rfl (Nat.le_of_ble_eq_true rfl) rfl (Or.inr ⟨_, rfl⟩) rfl ?_
  refine gm_aload_n dX7_init_12 rfl ?_
  refine gm_bipush (nI 36) dX7_init_13 (by decide +kernel) ?_
  refine gm_newI dX7_init_15 gAi rfl (by decide) (by decide) (by decide) (fun q2 => ?_)
  refine gm_put (q0 := 0) (ws1 := [(_, .inr (7, [_, _, _, _, _, _, _, _, _, _, _, _, _, _, _, _, _, _, _, _, _, _, _, _, _, _, _, _, _, _, _, _, _, _])), _, _]) dX7_init_17 foX7_13 rfl (Nat.le_of_ble_eq_true rfl) rfl (Or.inr ⟨_, rfl⟩) rfl ?_
  refine gm_aload_n dX7_init_20 rfl ?_
  refine gm_iconst (nI 3) dX7_init_21 (by decide +kernel) ?_
  refine gm_newI dX7_init_22 gAi rfl (by decide) (by decide) (by decide) (fun q3 => ?_)
  refine gm_put (q0 := 0) (ws1 := [(_, .inr (7, [_, _, _, _, _, _, _, _, _, _, _, _, _, _, _, _, _, _, _, _, _, _, _, _, _, _, _, _, _, _, _, _, _, _])), _, _, _]) dX7_init_24 foX7_16 rfl (Nat.le_of_ble_eq_true rfl) rfl (Or.inr ⟨_, rfl⟩) rfl ?_
  refine gm_aload_n dX7_init_27 rfl ?_
  refine gm_iconst (nI 3) dX7_init_28 (by decide +kernel) ?_
  refine gm_newI dX7_init_29 gAi rfl (by decide) (by decide) (by decide) (fun q4 => ?_)
  refine gm_put (q0 := 0) (ws1 := [(_, .inr (7, [_, _, _, _, _, _, _, _, _, _, _, _, _, _, _, _, _, _, _, _, _, _, _, _, _, _, _, _, _, _, _, _, _, _])), _, _, _, _]) dX7_init_31 foX7_19 rfl (Nat.le_of_ble_eq_true rfl) rfl (Or.inr ⟨_, rfl⟩) rfl ?_
  refine gm_aload_n dX7_init_34 rfl ?_
  refine gm_iconst (nI 3) dX7_init_35 (by decide +kernel) ?_
  refine gm_newI dX7_init_36 gAi rfl (by decide) (by decide) (by decide) (fun q5 => ?_)
  refine gm_put (q0 := 0) (ws1 := [(_, .inr (7, [_, _, _, _, _, _, _, _, _, _, _, _, _, _, _, _, _, _, _, _, _, _, _, _, _, _, _, _, _, _, _, _, _, _])), _, _, _, _, _]) dX7_init_38 foX7_22 rfl (Nat.le_of_ble_eq_true rfl) rfl (Or.inr ⟨_, rfl⟩) rfl ?_
  refine gm_aload_n dX7_init_41 rfl ?_
  refine gm_bipush (nI 58) dX7_init_42 (by decide +kernel) ?_
  refine gm_newI dX7_init_44 gAi rfl (by decide) (by decide) (by decide) (fun q6 => ?_)
  refine gm_put (q0 := 0) (ws1 := [(_, .inr (7, [_, _, _, _, _, _, _, _, _, _, _, _, _, _, _, _, _, _, _, _, _, _, _, _, _, _, _, _, _, _, _, _, _, _])), _, _, _, _, _, _]) dX7_init_46 foX7_25 rfl (Nat.le_of_ble_eq_true rfl) rfl (Or.inr ⟨_, rfl⟩) rfl ?_
  refine gm_aload_n dX7_init_49 rfl ?_
  refine gm_bipush (nI 36) dX7_init_50 (by decide +kernel) ?_
  refine gm_newI dX7_init_52 gAi rfl (by decide) (by decide) (by decide) (fun q7 => ?_)
  refine gm_put (q0 := 0) (ws1 := [(_, .inr (7, [_, _, _, _, _, _, _, _, _, _, _, _, _, _, _, _, _, _, _, _, _, _, _, _, _, _, _, _, _, _, _, _, _, _])), _, _, _, _, _, _, _]) dX7_init_54 foX7_28 rfl (Nat.le_of_ble_eq_true rfl) rfl (Or.inr ⟨_, rfl⟩) rfl ?_
  refine gm_aload_n dX7_init_57 rfl ?_
  refine gm_iconst (nI 3) dX7_init_58 (by decide +kernel) ?_
  refine gm_newI dX7_init_59 gAi rfl (by decide) (by decide) (by decide) (fun q8 => ?_)
  refine gm_put (q0 := 0) (ws1 := [(_, .inr (7, [_, _, _, _, _, _, _, _, _, _, _, _, _, _, _, _, _, _, _, _, _, _, _, _, _, _, _, _, _, _, _, _, _, _])), _, _, _, _, _, _, _, _]) dX7_init_61 foX7_31 rfl (Nat.le_of_ble_eq_true rfl) rfl (Or.inr ⟨_, rfl⟩) rfl ?_
  refine gm_aload_n dX7_init_64 rfl ?_
  refine gm_iconst (nI 3) dX7_init_65 (by decide +kernel) ?_
  refine gm_newI dX7_init_66 gAi rfl (by decide) (by decide) (by decide) (fun q9 => ?_)
  refine gm_put (q0 := 0) (ws1 := [(_, .inr (7, [_, _, _, _, _, _, _, _, _, _, _, _, _, _, _, _, _, _, _, _, _, _, _, _, _, _, _, _, _, _, _, _, _, _])), _, _, _, _, _, _, _, _, _]) dX7_init_68 foX7_34 rfl (Nat.le_of_ble_eq_true rfl) rfl (Or.inr ⟨_, rfl⟩) rfl ?_
  refine gm_aload_n dX7_init_71 rfl ?_
  refine gm_iconst (nI 3) dX7_init_72 (by decide +kernel) ?_
  refine gm_newI dX7_init_73 gAi rfl (by decide) (by decide) (by decide) (fun q10 => ?_)
  refine gm_put (q0 := 0) (ws1 := [(_, .inr (7, [_, _, _, _, _, _, _, _, _, _, _, _, _, _, _, _, _, _, _, _, _, _, _, _, _, _, _, _, _, _, _, _, _, _])), _, _, _, _, _, _, _, _, _, _]) dX7_init_75 foX7_37 rfl (Nat.le_of_ble_eq_true rfl) rfl (Or.inr ⟨_, rfl⟩) rfl ?_
  refine gm_aload_n dX7_init_78 rfl ?_
  refine gm_sipush (nI 928) dX7_init_79 (by decide +kernel) ?_
  refine gm_newI dX7_init_82 gAi rfl (by decide) (by decide) (by decide) (fun q11 => ?_)
  refine gm_put (q0 := 0) (ws1 := [(_, .inr (7, [_, _, _, _, _, _, _, _, _, _, _, _, _, _, _, _, _, _, _, _, _, _, _, _, _, _, _, _, _, _, _, _, _, _])), _, _, _, _, _, _, _, _, _, _, _]) dX7_init_84 foX7_40 rfl (Nat.le_of_ble_eq_true rfl) rfl (Or.inr ⟨_, rfl⟩) rfl ?_
  refine gm_aload_n dX7_init_87 rfl ?_
  refine gm_bipush (nI 116) dX7_init_88 (by decide +kernel) ?_
  refine gm_newI dX7_init_90 gAi rfl (by decide) (by decide) (by decide) (fun q12 => ?_)
  refine gm_put (q0 := 0) (ws1 := [(_, .inr (7, [_, _, _, _, _, _, _, _, _, _, _, _, _, _, _, _, _, _, _, _, _, _, _, _, _, _, _, _, _, _, _, _, _, _])), _, _, _, _, _, _, _, _, _, _, _, _]) dX7_init_92 foX7_43 rfl (Nat.le_of_ble_eq_true rfl) rfl (Or.inr ⟨_, rfl⟩) rfl ?_
  refine gm_aload_n dX7_init_95 rfl ?_
  refine gm_iconst (nI 2) dX7_init_96 (by decide +kernel) ?_
  refine gm_newZ dX7_init_97 gAz rfl (by decide) (by decide) (by decide) (fun q13 => ?_)
  refine gm_put (q0 := 0) (ws1 := [(_, .inr (7, [_, _, _, _, _, _, _, _, _, _, _, _, _, _, _, _, _, _, _, _, _, _, _, _, _, _, _, _, _, _, _, _, _, _])), _, _, _, _, _, _, _, _, _, _, _, _, _]) dX7_init_99 foX7_46 rfl (Nat.le_of_ble_eq_true rfl) rfl (Or.inr ⟨_, rfl⟩) rfl ?_
  refine gm_aload_n dX7_init_102 rfl ?_
  refine gm_bipush (nI 58) dX7_init_103 (by decide +kernel) ?_
  refine gm_newI dX7_init_105 gAi rfl (by decide) (by decide) (by decide) (fun q14 => ?_)
  refine gm_put (q0 := 0) (ws1 := [(_, .inr (7, [_, _, _, _, _, _, _, _, _, _, _, _, _, _, _, _, _, _, _, _, _, _, _, _, _, _, _, _, _, _, _, _, _, _])), _, _, _, _, _, _, _, _, _, _, _, _, _, _]) dX7_init_107 foX7_50 rfl (Nat.le_of_ble_eq_true rfl) rfl (Or.inr ⟨_, rfl⟩) rfl ?_
  refine gm_aload_n dX7_init_110 rfl ?_
  refine gm_bipush (nI 8) dX7_init_111 (by decide +kernel) ?_
  refine gm_newI dX7_init_113 gAi rfl (by decide) (by decide) (by decide) (fun q15 => ?_)
  refine gm_put (q0 := 0) (ws1 := [(_, .inr (7, [_, _, _, _, _, _, _, _, _, _, _, _, _, _, _, _, _, _, _, _, _, _, _, _, _, _, _, _, _, _, _, _, _, _])), _, _, _, _, _, _, _, _, _, _, _, _, _, _, _]) dX7_init_115 foX7_53 rfl (Nat.le_of_ble_eq_true rfl) rfl (Or.inr ⟨_, rfl⟩) rfl ?_
  refine gm_aload_n dX7_init_118 rfl ?_
  refine gm_bipush (nI 8) dX7_init_119 (by decide +kernel) ?_
  refine gm_newI dX7_init_121 gAi rfl (by decide) (by decide) (by decide) (fun q16 => ?_)
  refine gm_put (q0 := 0) (ws1 := [(_, .inr (7, [_, _, _, _, _, _, _, _, _, _, _, _, _, _, _, _, _, _, _, _, _, _, _, _, _, _, _, _, _, _, _, _, _, _])), _, _, _, _, _, _, _, _, _, _, _, _, _, _, _, _]) dX7_init_123 foX7_56 rfl (Nat.le_of_ble_eq_true rfl) rfl (Or.inr ⟨_, rfl⟩) rfl ?_
  refine gm_aload_n dX7_init_126 rfl ?_
  refine gm_bipush (nI 8) dX7_init_127 (by decide +kernel) ?_
  refine gm_newZ dX7_init_129 gAz rfl (by decide) (by decide) (by decide) (fun q17 => ?_)
  refine gm_put (q0 := 0) (ws1 := [(_, .inr (7, [_, _, _, _, _, _, _, _, _, _, _, _, _, _, _, _, _, _, _, _, _, _, _, _, _, _, _, _, _, _, _, _, _, _])), _, _, _, _, _, _, _, _, _, _, _, _, _, _, _, _, _]) dX7_init_131 foX7_59 rfl (Nat.le_of_ble_eq_true rfl) rfl (Or.inr ⟨_, rfl⟩) rfl ?_
  refine gm_aload_n dX7_init_134 rfl ?_
  refine gm_sipush (nI 448) dX7_init_135 (by decide +kernel) ?_
  refine gm_newI dX7_init_138 gAi rfl (by decide) (by decide) (by decide) (fun q18 => ?_)
  refine gm_put (q0 := 0) (ws1 := [(_, .inr (7, [_, _, _, _, _, _, _, _, _, _, _, _, _, _, _, _, _, _, _, _, _, _, _, _, _, _, _, _, _, _, _, _, _, _])), _, _, _, _, _, _, _, _, _, _, _, _, _, _, _, _, _, _]) dX7_init_140 foX7_62 rfl (Nat.le_of_ble_eq_true rfl) rfl (Or.inr ⟨_, rfl⟩) rfl ?_
  refine gm_aload_n dX7_init_143 rfl ?_
  refine gm_sipush (nI 640) dX7_init_144 (by decide +kernel) ?_
  refine gm_newI dX7_init_147 gAi rfl (by decide) (by decide) (by decide) (fun q19 => ?_)
  refine gm_put (q0 := 0) (ws1 := [(_, .inr (7, [_, _, _, _, _, _, _, _, _, _, _, _, _, _, _, _, _, _, _, _, _, _, _, _, _, _, _, _, _, _, _, _, _, _])), _, _, _, _, _, _, _, _, _, _, _, _, _, _, _, _, _, _, _]) dX7_init_149 foX7_65 rfl (Nat.le_of_ble_eq_true rfl) rfl (Or.inr ⟨_, rfl⟩) rfl ?_
  refine gm_aload_n dX7_init_152 rfl ?_
  refine gm_sipush (nI 640) dX7_init_153 (by decide +kernel) ?_
  refine gm_newI dX7_init_156 gAi rfl (by decide) (by decide) (by decide) (fun q20 => ?_)
  refine gm_put (q0 := 0) (ws1 := [(_, .inr (7, [_, _, _, _, _, _, _, _, _, _, _, _, _, _, _, _, _, _, _, _, _, _, _, _, _, _, _, _, _, _, _, _, _, _])), _, _, _, _, _, _, _, _, _, _, _, _, _, _, _, _, _, _, _, _]) dX7_init_158 foX7_68 rfl (Nat.le_of_ble_eq_true rfl) rfl (Or.inr ⟨_, rfl⟩) rfl ?_
  refine gm_aload_n dX7_init_161 rfl ?_
  refine gm_sipush (nI 640) dX7_init_162 (by decide +kernel) ?_
  refine gm_newZ dX7_init_165 gAz rfl (by decide) (by decide) (by decide) (fun q21 => ?_)
  refine gm_put (q0 := 0) (ws1 := [(_, .inr (7, [_, _, _, _, _, _, _, _, _, _, _, _, _, _, _, _, _, _, _, _, _, _, _, _, _, _, _, _, _, _, _, _, _, _])), _, _, _, _, _, _, _, _, _, _, _, _, _, _, _, _, _, _, _, _, _]) dX7_init_167 foX7_71 rfl (Nat.le_of_ble_eq_true rfl) rfl (Or.inr ⟨_, rfl⟩) rfl ?_
  refine gm_aload_n dX7_init_170 rfl ?_
  refine gm_sipush (nI 640) dX7_init_171 (by decide +kernel) ?_
  refine gm_newZ dX7_init_174 gAz rfl (by decide) (by decide) (by decide) (fun q22 => ?_)
  refine gm_put (q0 := 0) (ws1 := [(_, .inr (7, [_, _, _, _, _, _, _, _, _, _, _, _, _, _, _, _, _, _, _, _, _, _, _, _, _, _, _, _, _, _, _, _, _, _])), _, _, _, _, _, _, _, _, _, _, _, _, _, _, _, _, _, _, _, _, _, _]) dX7_init_176 foX7_74 rfl (Nat.le_of_ble_eq_true rfl) rfl (Or.inr ⟨_, rfl⟩) rfl ?_
  exact gm_vret [q1, q2, q3, q4, q5, q6, q7, q8, q9, q10, q11, q12, q13, q14, q15, q16, q17, q18, q19, q20, q21, q22] dX7_init_179 rfl rfl rfl rfl
