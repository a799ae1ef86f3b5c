/-! ROWS IN THE SHAPES THAT THE WALKER PRINTS -/
theorem nI_inc (a : Nat) : nI a + Int32.ofInt 1 = nI (a + 1) := nI_1 a
theorem nI_dec (a : Nat) : nI (a + 1) + Int32.ofInt (-1) = nI a := by
  rw [← nI_1]
  have e : Int32.ofInt (-1) = -1 := by decide +kernel
  rw [e, Int32.add_assoc, show (1 : Int32) + -1 = 0 by decide +kernel, Int32.add_zero]
theorem nI_mul (a b : Nat) : nI a * nI b = nI (a * b) := by
  simp [nI, Int32.ofNat_mul]
section GoShapes
variable {O : gOm} {d : Nat} {K : gM} {r : Option Value} {m m' : gMem} {pc : Nat} {L st : List Value}
theorem go_iadd_n {a b : Nat} (hd : decode K.2.1 pc = .ok (.iadd, 1)) (k : Go O d K r m' (pc + 1) L (.int (nI (a + b)) :: st) m) : Go O d K r m' pc L (.int (nI b) :: .int (nI a) :: st) m := go_iadd hd (nI_add a b) k
theorem go_imul_n {a b : Nat} (hd : decode K.2.1 pc = .ok (.imul, 1)) (k : Go O d K r m' (pc + 1) L (.int (nI (a * b)) :: st) m) : Go O d K r m' pc L (.int (nI b) :: .int (nI a) :: st) m := go_imul hd (nI_mul a b) k
theorem go_iinc_n {i a : Nat} {L' : List Value} (hd : decode K.2.1 pc = .ok (.iinc i 1, 3)) (hx : L[i]? = some (.int (nI a))) (hi : i < K.2.2.1) (hl : gst L i (.int (nI (a + 1))) = L') (k : Go O d K r m' (pc + 3) L' st m) : Go O d K r m' pc L st m := go_iinc hd hx hi (nI_inc a) hl k
theorem go_geti {ix ci n k j : Nat} {v : Int32} (hd : decode K.2.1 pc = .ok (.getfield ix, 3)) (hF : gFl K.1.cls ix ci j) (hk : gK k = (ci, n)) (hc : ci < 8) (hj : j < n) (hkn : k < gNC) (hn : gfk k j = none) (hv : m.1 k j = v) (kk : Go O d K r m' (pc + 3) L (.int v :: st) m) : Go O d K r m' pc L (.ref k :: st) m :=
  go_get hd hF hk hc hj hkn (by simp [gfp, hn, hv]) kk
theorem go_getc {ix ci n k j t : Nat} (hd : decode K.2.1 pc = .ok (.getfield ix, 3)) (hF : gFl K.1.cls ix ci j) (hk : gK k = (ci, n)) (hc : ci < 8) (hj : j < n) (hkn : k < gNC) (hn : gfk k j = some (.inl t)) (kk : Go O d K r m' (pc + 3) L (.ref t :: st) m) : Go O d K r m' pc L (.ref k :: st) m :=
  go_get hd hF hk hc hj hkn (by simp [gfp, hn]) kk
theorem go_getm {ix ci n k j q t : Nat} (hd : decode K.2.1 pc = .ok (.getfield ix, 3)) (hF : gFl K.1.cls ix ci j) (hk : gK k = (ci, n)) (hc : ci < 8) (hj : j < n) (hkn : k < gNC) (hn : gfk k j = some (.inr q)) (hv : m.2 q = t) (kk : Go O d K r m' (pc + 3) L (.ref t :: st) m) : Go O d K r m' pc L (.ref k :: st) m :=
  go_get hd hF hk hc hj hkn (by simp [gfp, hn, hv]) kk
theorem go_callV1 {ix ci nf k n : Nat} {K' : gM} {v : Value} {m1 : gMem} (as : List Value) {st0 : List Value} (hd : decode K.2.1 pc = .ok (.invokevirtual ix, 3)) (hlk : gLk K.1.cls ix K'.1) (hl : gLv K' n) (hk : gK k = (ci, nf)) (hci : ci < 8) (hcl : (vwCl.map (fun q => q.1))[ci]? = some K'.1.cls) (hkn : k < gNC) (hst : st0 = as.reverse ++ .ref k :: st) (hn : as.length = n) (hW : (st.map fun v => v.category).sum ≤ 8) (hen : (gsp (.ref k :: as)).length ≤ K'.2.2.1)
    (hc : Ca O d K' (.ref k :: as) (some v) m m1) (kk : Go O (d + 1) K r m' (pc + 3) L (v :: st) m1) : Go O (d + 1) K r m' pc L st0 m := go_callV as hd hlk hl hk hci hcl hkn hst hn hW hen hc kk
theorem go_callV0 {ix ci nf k n : Nat} {K' : gM} {m1 : gMem} (as : List Value) {st0 : List Value} (hd : decode K.2.1 pc = .ok (.invokevirtual ix, 3)) (hlk : gLk K.1.cls ix K'.1) (hl : gLv K' n) (hk : gK k = (ci, nf)) (hci : ci < 8) (hcl : (vwCl.map (fun q => q.1))[ci]? = some K'.1.cls) (hkn : k < gNC) (hst : st0 = as.reverse ++ .ref k :: st) (hn : as.length = n) (hW : (st.map fun v => v.category).sum ≤ 8) (hen : (gsp (.ref k :: as)).length ≤ K'.2.2.1)
    (hc : Ca O d K' (.ref k :: as) none m m1) (kk : Go O (d + 1) K r m' (pc + 3) L st m1) : Go O (d + 1) K r m' pc L st0 m := go_callV as hd hlk hl hk hci hcl hkn hst hn hW hen hc kk
theorem go_callS1 {ix n : Nat} {K' : gM} {v : Value} {m1 : gMem} (as : List Value) {st0 : List Value} (hd : decode K.2.1 pc = .ok (.invokestatic ix, 3)) (hlk : gLk K.1.cls ix K'.1) (hl : gLt K' n) (hst : st0 = as.reverse ++ st) (hn : as.length = n) (hW : (st.map fun v => v.category).sum ≤ 8) (hen : (gsp as).length ≤ K'.2.2.1)
    (hc : Ca O d K' as (some v) m m1) (kk : Go O (d + 1) K r m' (pc + 3) L (v :: st) m1) : Go O (d + 1) K r m' pc L st0 m := go_callS as hd hlk hl hst hn hW hen hc kk
theorem go_callS0 {ix n : Nat} {K' : gM} {m1 : gMem} (as : List Value) {st0 : List Value} (hd : decode K.2.1 pc = .ok (.invokestatic ix, 3)) (hlk : gLk K.1.cls ix K'.1) (hl : gLt K' n) (hst : st0 = as.reverse ++ st) (hn : as.length = n) (hW : (st.map fun v => v.category).sum ≤ 8) (hen : (gsp as).length ≤ K'.2.2.1)
    (hc : Ca O d K' as none m m1) (kk : Go O (d + 1) K r m' (pc + 3) L st m1) : Go O (d + 1) K r m' pc L st0 m := go_callS as hd hlk hl hst hn hW hen hc kk
theorem go_mmax {ix : Nat} {x y v : Int32} (hd : decode K.2.1 pc = .ok (.invokestatic ix, 3)) (hlk : Cond.methodLink K.1.cls ix Lib.Math.max.name ∈ gT) (hW : (st.map fun v => v.category).sum ≤ 8) (hv : (if x < y then y else x) = v) (k : Go O (d + 1) K r m' (pc + 3) L (.int v :: st) m) : Go O (d + 1) K r m' pc L (.int y :: .int x :: st) m := by
  intro p l e s mi args below meth c H lo ls hC hP hS hL
  subst hv
  have hts := hC.2.2.2.2.2.2.1
  have hroom : ((st.map (gv O.1)).map fun v => v.category).sum ≤ 8 := by rw [gcats]; exact hW
  exact va_mmax hC.1 hC.2.1 (hC.2.2.1.trans hL.2.1.symm) hC.2.2.2.2.2.1 (hts _ hlk) (hts _ gMs_max) (hts _ gMi) (hts _ gMc_max) (by simp only [gRm]; omega) (by simp only [gRm]; omega) (Nat.zero_le _) (Nat.zero_le _) hd (k p l e s mi args below meth c H lo ls hC hP hS hL)
theorem go_mmin {ix : Nat} {x y v : Int32} (hd : decode K.2.1 pc = .ok (.invokestatic ix, 3)) (hlk : Cond.methodLink K.1.cls ix Lib.Math.min.name ∈ gT) (hW : (st.map fun v => v.category).sum ≤ 8) (hv : (if y < x then y else x) = v) (k : Go O (d + 1) K r m' (pc + 3) L (.int v :: st) m) : Go O (d + 1) K r m' pc L (.int y :: .int x :: st) m := by
  intro p l e s mi args below meth c H lo ls hC hP hS hL
  subst hv
  have hts := hC.2.2.2.2.2.2.1
  have hroom : ((st.map (gv O.1)).map fun v => v.category).sum ≤ 8 := by rw [gcats]; exact hW
  exact va_mmin hC.1 hC.2.1 (hC.2.2.1.trans hL.2.1.symm) hC.2.2.2.2.2.1 (hts _ hlk) (hts _ gMs_min) (hts _ gMi) (hts _ gMc_min) (by simp only [gRm]; omega) (by simp only [gRm]; omega) (Nat.zero_le _) (Nat.zero_le _) hd (k p l e s mi args below meth c H lo ls hC hP hS hL)
end GoShapes
