/-! The constructors -/
section INITS
variable {y : yCx} {a : Nat}

set_option maxRecDepth 100000 in
set_option maxHeartbeats 4000000 in
theorem c_X5_init {ci : Nat} : yC y mX5_init [.ref a] [(a, .inr (ci, []))] 0 0 (fun u => u = [(a, .inr (ci, []))]) := by
  refine yC_of (by decide +kernel) (Nat.le_of_ble_eq_true rfl) (fun A => ?_)
  refine yaload_n dX5_init_0 rfl ?_
  refine yobj dX5_init_1 (List.mem_of_getElem? (i := 50) (by decide +kernel) : Cond.methodLink RX5 1 objectInit ∈ wsL_law) (by decide) ?_
  exact yreturn dX5_init_4 rfl rfl
set_option maxRecDepth 100000 in
set_option maxHeartbeats 4000000 in
theorem c_X0_init {ci : Nat} : yC y mX0_init [.ref a] [(a, .inr (ci, []))] 0 0 (fun u => u = [(a, .inr (ci, []))]) := by
  refine yC_of (by decide +kernel) (Nat.le_of_ble_eq_true rfl) (fun A => ?_)
  refine yaload_n dX0_init_0 rfl ?_
  refine ycallN (wr := []) (n := 0) [0] [] (c_X5_init (ci := ci)) dX0_init_1 rfl (goodIn_r _ [49] (by decide +kernel) (by decide +kernel)) (List.mem_of_getElem? (i := 14) (by decide +kernel) : Cond.initialized RX5 ∈ wsL_law) (List.mem_of_getElem? (i := 85) (by decide +kernel)) (List.mem_of_getElem? (i := 48) (by decide +kernel) : Cond.instanceMethod yX5_init ∈ wsL_law) rfl (by unfold zNm; decide +kernel) rfl (by decide) (Nat.le_of_ble_eq_true rfl) (by omega) (by omega) rfl rfl rfl rfl rfl (by decide) (fun u hu => ?_) rfl
  subst hu
  exact yreturn dX0_init_4 rfl rfl
set_option maxRecDepth 100000 in
set_option maxHeartbeats 4000000 in
theorem c_X4_init {ci : Nat} : yC y mX4_init [.ref a] [(a, .inr (ci, []))] 0 0 (fun u => u = [(a, .inr (ci, []))]) := by
  refine yC_of (by decide +kernel) (Nat.le_of_ble_eq_true rfl) (fun A => ?_)
  refine yaload_n dX4_init_0 rfl ?_
  refine ycallN (wr := []) (n := 0) [0] [] (c_X5_init (ci := ci)) dX4_init_1 rfl (goodIn_r _ [49] (by decide +kernel) (by decide +kernel)) (List.mem_of_getElem? (i := 14) (by decide +kernel) : Cond.initialized RX5 ∈ wsL_law) (List.mem_of_getElem? (i := 92) (by decide +kernel)) (List.mem_of_getElem? (i := 48) (by decide +kernel) : Cond.instanceMethod yX5_init ∈ wsL_law) rfl (by unfold zNm; decide +kernel) rfl (by decide) (Nat.le_of_ble_eq_true rfl) (by omega) (by omega) rfl rfl rfl rfl rfl (by decide) (fun u hu => ?_) rfl
  subst hu
  exact yreturn dX4_init_4 rfl rfl
set_option maxRecDepth 100000 in
set_option maxHeartbeats 4000000 in
theorem c_X3_init {ci : Nat} : yC y mX3_init [.ref a] [(a, .inr (ci, []))] 0 0 (fun u => u = [(a, .inr (ci, []))]) := by
  refine yC_of (by decide +kernel) (Nat.le_of_ble_eq_true rfl) (fun A => ?_)
  refine yaload_n dX3_init_0 rfl ?_
  refine ycallN (wr := []) (n := 0) [0] [] (c_X5_init (ci := ci)) dX3_init_1 rfl (goodIn_r _ [49] (by decide +kernel) (by decide +kernel)) (List.mem_of_getElem? (i := 14) (by decide +kernel) : Cond.initialized RX5 ∈ wsL_law) (List.mem_of_getElem? (i := 99) (by decide +kernel)) (List.mem_of_getElem? (i := 48) (by decide +kernel) : Cond.instanceMethod yX5_init ∈ wsL_law) rfl (by unfold zNm; decide +kernel) rfl (by decide) (Nat.le_of_ble_eq_true rfl) (by omega) (by omega) rfl rfl rfl rfl rfl (by decide) (fun u hu => ?_) rfl
  subst hu
  exact yreturn dX3_init_4 rfl rfl
set_option maxRecDepth 100000 in
set_option maxHeartbeats 4000000 in
theorem c_X1_init {ci : Nat} : yC y mX1_init [.ref a] [(a, .inr (ci, []))] 0 0 (fun u => u = [(a, .inr (ci, []))]) := by
  refine yC_of (by decide +kernel) (Nat.le_of_ble_eq_true rfl) (fun A => ?_)
  refine yaload_n dX1_init_0 rfl ?_
  refine ycallN (wr := []) (n := 0) [0] [] (c_X0_init (ci := ci)) dX1_init_1 rfl (goodIn_r _ [52] (by decide +kernel) (by decide +kernel)) (List.mem_of_getElem? (i := 17) (by decide +kernel) : Cond.initialized RX0 ∈ wsL_law) (List.mem_of_getElem? (i := 106) (by decide +kernel)) (List.mem_of_getElem? (i := 51) (by decide +kernel) : Cond.instanceMethod yX0_init ∈ wsL_law) rfl (by unfold zNm; decide +kernel) rfl (by decide) (Nat.le_of_ble_eq_true rfl) (by omega) (by omega) rfl rfl rfl rfl rfl (by decide) (fun u hu => ?_) rfl
  subst hu
  exact yreturn dX1_init_4 rfl rfl
set_option maxRecDepth 100000 in
set_option maxHeartbeats 4000000 in
theorem c_X2_init {ci : Nat} : yC y mX2_init [.ref a] [(a, .inr (ci, []))] 0 0 (fun u => u = [(a, .inr (ci, []))]) := by
  refine yC_of (by decide +kernel) (Nat.le_of_ble_eq_true rfl) (fun A => ?_)
  refine yaload_n dX2_init_0 rfl ?_
  refine ycallN (wr := []) (n := 0) [0] [] (c_X1_init (ci := ci)) dX2_init_1 rfl (goodIn_r _ [58] (by decide +kernel) (by decide +kernel)) (List.mem_of_getElem? (i := 26) (by decide +kernel) : Cond.initialized RX1 ∈ wsL_law) (List.mem_of_getElem? (i := 113) (by decide +kernel)) (List.mem_of_getElem? (i := 57) (by decide +kernel) : Cond.instanceMethod yX1_init ∈ wsL_law) rfl (by unfold zNm; decide +kernel) rfl (by decide) (Nat.le_of_ble_eq_true rfl) (by omega) (by omega) rfl rfl rfl rfl rfl (by decide) (fun u hu => ?_) rfl
  subst hu
  exact yreturn dX2_init_4 rfl rfl
def twW (y : yCx) (a k q0 q1 q2 q3 q4 q5 q6 : Nat) : va_W := [(a, .inr (7, [.ref k, .ref q0, .ref q1, .ref q2, .ref q3, .ref q4, .ref q5, .ref q6, .int 0, .int 0])), (q0, .inl (y.2.2.1, 8, .inl (fun _ => 0))), (q1, .inl (y.2.2.1, 8, .inl (fun _ => 0))), (q2, .inl (y.2.2.1, 8, .inl (fun _ => 0))), (q3, .inl (y.2.2.1, 8, .inl (fun _ => 0))), (q4, .inl (y.2.2.1, 8, .inl (fun _ => 0))), (q5, .inl (y.2.2.1, 8, .inl (fun _ => 0))), (q6, .inl (y.2.2.1, 8, .inl (fun _ => 0)))]
set_option maxRecDepth 100000 in
set_option maxHeartbeats 4000000 in
theorem c_X7_init {k : Nat} : yC y mX7_init [.ref a, .ref k] [(a, .inr (7, [.null, .null, .null, .null, .null, .null, .null, .null, .int 0, .int 0]))] 7 56 (fun u => ∃ q0 q1 q2 q3 q4 q5 q6, u = twW y a k q0 q1 q2 q3 q4 q5 q6) := by
  refine yC_of (by decide +kernel) (Nat.le_of_ble_eq_true rfl) (fun A => ?_)
  refine yaload_n dX7_init_0 rfl ?_
  refine yobj dX7_init_1 (List.mem_of_getElem? (i := 64) (by decide +kernel) : Cond.methodLink RX7 3 objectInit ∈ wsL_law) (by decide) ?_
  refine yaload_n dX7_init_4 rfl ?_
  refine yaload_n dX7_init_5 rfl ?_
  refine yputF (k := 0) (q0 := 0) (ty := (.array (.object RX5))) (ws' := [(a, .inr (7, [.ref k, .null, .null, .null, .null, .null, .null, .null, .int 0, .int 0]))]) dX7_init_6 inlX7 tyX7 tyX7_ok nmX7 rfl rfl (by decide) (List.mem_of_getElem? (i := 65) (by decide +kernel) : Cond.fieldLink RX7 9 "EachLendsHisFace$Town" "kinds" "[LEachLendsHisFace$Person;" ∈ wsL_law) rfl rfl rfl (by decide +kernel) rfl rfl (Nat.le_of_ble_eq_true rfl) rfl ?_
  refine yaload_n dX7_init_9 rfl ?_
  refine ybipush (v := nI 8) dX7_init_10 (by decide) ?_
  refine ynewa (N := 8) dX7_init_12 rfl (by decide) (by omega) (by omega) (fun q0 => ?_)
  refine ywd (ws' := [(a, .inr (7, [.ref k, .null, .null, .null, .null, .null, .null, .null, .int 0, .int 0])), (q0, .inl (y.2.2.1, 8, .inl (fun _ => 0)))]) rfl ?_
  refine yputF (k := 1) (q0 := 0) (ty := (.array .int)) (ws' := [(a, .inr (7, [.ref k, .ref q0, .null, .null, .null, .null, .null, .null, .int 0, .int 0])), (q0, .inl (y.2.2.1, 8, .inl (fun _ => 0)))]) dX7_init_14 inlX7 tyX7 tyX7_ok nmX7 rfl rfl (by decide) (List.mem_of_getElem? (i := 66) (by decide +kernel) : Cond.fieldLink RX7 15 "EachLendsHisFace$Town" "kind" "[I" ∈ wsL_law) rfl rfl rfl (by decide +kernel) rfl rfl (Nat.le_of_ble_eq_true rfl) rfl ?_
  refine yaload_n dX7_init_17 rfl ?_
  refine ybipush (v := nI 8) dX7_init_18 (by decide) ?_
  refine ynewa (N := 8) dX7_init_20 rfl (by decide) (by omega) (by omega) (fun q1 => ?_)
  refine ywd (ws' := [(a, .inr (7, [.ref k, .ref q0, .null, .null, .null, .null, .null, .null, .int 0, .int 0])), (q0, .inl (y.2.2.1, 8, .inl (fun _ => 0))), (q1, .inl (y.2.2.1, 8, .inl (fun _ => 0)))]) rfl ?_
  refine yputF (k := 2) (q0 := 0) (ty := (.array .int)) (ws' := [(a, .inr (7, [.ref k, .ref q0, .ref q1, .null, .null, .null, .null, .null, .int 0, .int 0])), (q0, .inl (y.2.2.1, 8, .inl (fun _ => 0))), (q1, .inl (y.2.2.1, 8, .inl (fun _ => 0)))]) dX7_init_22 inlX7 tyX7 tyX7_ok nmX7 rfl rfl (by decide) (List.mem_of_getElem? (i := 67) (by decide +kernel) : Cond.fieldLink RX7 19 "EachLendsHisFace$Town" "figure" "[I" ∈ wsL_law) rfl rfl rfl (by decide +kernel) rfl rfl (Nat.le_of_ble_eq_true rfl) rfl ?_
  refine yaload_n dX7_init_25 rfl ?_
  refine ybipush (v := nI 8) dX7_init_26 (by decide) ?_
  refine ynewa (N := 8) dX7_init_28 rfl (by decide) (by omega) (by omega) (fun q2 => ?_)
  refine ywd (ws' := [(a, .inr (7, [.ref k, .ref q0, .ref q1, .null, .null, .null, .null, .null, .int 0, .int 0])), (q0, .inl (y.2.2.1, 8, .inl (fun _ => 0))), (q1, .inl (y.2.2.1, 8, .inl (fun _ => 0))), (q2, .inl (y.2.2.1, 8, .inl (fun _ => 0)))]) rfl ?_
  refine yputF (k := 3) (q0 := 0) (ty := (.array .int)) (ws' := [(a, .inr (7, [.ref k, .ref q0, .ref q1, .ref q2, .null, .null, .null, .null, .int 0, .int 0])), (q0, .inl (y.2.2.1, 8, .inl (fun _ => 0))), (q1, .inl (y.2.2.1, 8, .inl (fun _ => 0))), (q2, .inl (y.2.2.1, 8, .inl (fun _ => 0)))]) dX7_init_30 inlX7 tyX7 tyX7_ok nmX7 rfl rfl (by decide) (List.mem_of_getElem? (i := 68) (by decide +kernel) : Cond.fieldLink RX7 22 "EachLendsHisFace$Town" "known" "[I" ∈ wsL_law) rfl rfl rfl (by decide +kernel) rfl rfl (Nat.le_of_ble_eq_true rfl) rfl ?_
  refine yaload_n dX7_init_33 rfl ?_
  refine ybipush (v := nI 8) dX7_init_34 (by decide) ?_
  refine ynewa (N := 8) dX7_init_36 rfl (by decide) (by omega) (by omega) (fun q3 => ?_)
  refine ywd (ws' := [(a, .inr (7, [.ref k, .ref q0, .ref q1, .ref q2, .null, .null, .null, .null, .int 0, .int 0])), (q0, .inl (y.2.2.1, 8, .inl (fun _ => 0))), (q1, .inl (y.2.2.1, 8, .inl (fun _ => 0))), (q2, .inl (y.2.2.1, 8, .inl (fun _ => 0))), (q3, .inl (y.2.2.1, 8, .inl (fun _ => 0)))]) rfl ?_
  refine yputF (k := 4) (q0 := 0) (ty := (.array .int)) (ws' := [(a, .inr (7, [.ref k, .ref q0, .ref q1, .ref q2, .ref q3, .null, .null, .null, .int 0, .int 0])), (q0, .inl (y.2.2.1, 8, .inl (fun _ => 0))), (q1, .inl (y.2.2.1, 8, .inl (fun _ => 0))), (q2, .inl (y.2.2.1, 8, .inl (fun _ => 0))), (q3, .inl (y.2.2.1, 8, .inl (fun _ => 0)))]) dX7_init_38 inlX7 tyX7 tyX7_ok nmX7 rfl rfl (by decide) (List.mem_of_getElem? (i := 69) (by decide +kernel) : Cond.fieldLink RX7 25 "EachLendsHisFace$Town" "worn" "[I" ∈ wsL_law) rfl rfl rfl (by decide +kernel) rfl rfl (Nat.le_of_ble_eq_true rfl) rfl ?_
  refine yaload_n dX7_init_41 rfl ?_
  refine ybipush (v := nI 8) dX7_init_42 (by decide) ?_
  refine ynewa (N := 8) dX7_init_44 rfl (by decide) (by omega) (by omega) (fun q4 => ?_)
  refine ywd (ws' := [(a, .inr (7, [.ref k, .ref q0, .ref q1, .ref q2, .ref q3, .null, .null, .null, .int 0, .int 0])), (q0, .inl (y.2.2.1, 8, .inl (fun _ => 0))), (q1, .inl (y.2.2.1, 8, .inl (fun _ => 0))), (q2, .inl (y.2.2.1, 8, .inl (fun _ => 0))), (q3, .inl (y.2.2.1, 8, .inl (fun _ => 0))), (q4, .inl (y.2.2.1, 8, .inl (fun _ => 0)))]) rfl ?_
  refine yputF (k := 5) (q0 := 0) (ty := (.array .int)) (ws' := [(a, .inr (7, [.ref k, .ref q0, .ref q1, .ref q2, .ref q3, .ref q4, .null, .null, .int 0, .int 0])), (q0, .inl (y.2.2.1, 8, .inl (fun _ => 0))), (q1, .inl (y.2.2.1, 8, .inl (fun _ => 0))), (q2, .inl (y.2.2.1, 8, .inl (fun _ => 0))), (q3, .inl (y.2.2.1, 8, .inl (fun _ => 0))), (q4, .inl (y.2.2.1, 8, .inl (fun _ => 0)))]) dX7_init_46 inlX7 tyX7 tyX7_ok nmX7 rfl rfl (by decide) (List.mem_of_getElem? (i := 70) (by decide +kernel) : Cond.fieldLink RX7 28 "EachLendsHisFace$Town" "fame" "[I" ∈ wsL_law) rfl rfl rfl (by decide +kernel) rfl rfl (Nat.le_of_ble_eq_true rfl) rfl ?_
  refine yaload_n dX7_init_49 rfl ?_
  refine ybipush (v := nI 8) dX7_init_50 (by decide) ?_
  refine ynewa (N := 8) dX7_init_52 rfl (by decide) (by omega) (by omega) (fun q5 => ?_)
  refine ywd (ws' := [(a, .inr (7, [.ref k, .ref q0, .ref q1, .ref q2, .ref q3, .ref q4, .null, .null, .int 0, .int 0])), (q0, .inl (y.2.2.1, 8, .inl (fun _ => 0))), (q1, .inl (y.2.2.1, 8, .inl (fun _ => 0))), (q2, .inl (y.2.2.1, 8, .inl (fun _ => 0))), (q3, .inl (y.2.2.1, 8, .inl (fun _ => 0))), (q4, .inl (y.2.2.1, 8, .inl (fun _ => 0))), (q5, .inl (y.2.2.1, 8, .inl (fun _ => 0)))]) rfl ?_
  refine yputF (k := 6) (q0 := 0) (ty := (.array .int)) (ws' := [(a, .inr (7, [.ref k, .ref q0, .ref q1, .ref q2, .ref q3, .ref q4, .ref q5, .null, .int 0, .int 0])), (q0, .inl (y.2.2.1, 8, .inl (fun _ => 0))), (q1, .inl (y.2.2.1, 8, .inl (fun _ => 0))), (q2, .inl (y.2.2.1, 8, .inl (fun _ => 0))), (q3, .inl (y.2.2.1, 8, .inl (fun _ => 0))), (q4, .inl (y.2.2.1, 8, .inl (fun _ => 0))), (q5, .inl (y.2.2.1, 8, .inl (fun _ => 0)))]) dX7_init_54 inlX7 tyX7 tyX7_ok nmX7 rfl rfl (by decide) (List.mem_of_getElem? (i := 71) (by decide +kernel) : Cond.fieldLink RX7 31 "EachLendsHisFace$Town" "scars" "[I" ∈ wsL_law) rfl rfl rfl (by decide +kernel) rfl rfl (Nat.le_of_ble_eq_true rfl) rfl ?_
  refine yaload_n dX7_init_57 rfl ?_
  refine ybipush (v := nI 8) dX7_init_58 (by decide) ?_
  refine ynewa (N := 8) dX7_init_60 rfl (by decide) (by omega) (by omega) (fun q6 => ?_)
  refine ywd (ws' := [(a, .inr (7, [.ref k, .ref q0, .ref q1, .ref q2, .ref q3, .ref q4, .ref q5, .null, .int 0, .int 0])), (q0, .inl (y.2.2.1, 8, .inl (fun _ => 0))), (q1, .inl (y.2.2.1, 8, .inl (fun _ => 0))), (q2, .inl (y.2.2.1, 8, .inl (fun _ => 0))), (q3, .inl (y.2.2.1, 8, .inl (fun _ => 0))), (q4, .inl (y.2.2.1, 8, .inl (fun _ => 0))), (q5, .inl (y.2.2.1, 8, .inl (fun _ => 0))), (q6, .inl (y.2.2.1, 8, .inl (fun _ => 0)))]) rfl ?_
  refine yputF (k := 7) (q0 := 0) (ty := (.array .int)) (ws' := [(a, .inr (7, [.ref k, .ref q0, .ref q1, .ref q2, .ref q3, .ref q4, .ref q5, .ref q6, .int 0, .int 0])), (q0, .inl (y.2.2.1, 8, .inl (fun _ => 0))), (q1, .inl (y.2.2.1, 8, .inl (fun _ => 0))), (q2, .inl (y.2.2.1, 8, .inl (fun _ => 0))), (q3, .inl (y.2.2.1, 8, .inl (fun _ => 0))), (q4, .inl (y.2.2.1, 8, .inl (fun _ => 0))), (q5, .inl (y.2.2.1, 8, .inl (fun _ => 0))), (q6, .inl (y.2.2.1, 8, .inl (fun _ => 0)))]) dX7_init_62 inlX7 tyX7 tyX7_ok nmX7 rfl rfl (by decide) (List.mem_of_getElem? (i := 72) (by decide +kernel) : Cond.fieldLink RX7 34 "EachLendsHisFace$Town" "lent" "[I" ∈ wsL_law) rfl rfl rfl (by decide +kernel) rfl rfl (Nat.le_of_ble_eq_true rfl) rfl ?_
  refine yaload_n dX7_init_65 rfl ?_
  refine yiconst (v := 0) dX7_init_66 (by decide) ?_
  refine yput (k := 8) (q0 := 0) (ty := .int) (ws' := [(a, .inr (7, [.ref k, .ref q0, .ref q1, .ref q2, .ref q3, .ref q4, .ref q5, .ref q6, .int 0, .int 0])), (q0, .inl (y.2.2.1, 8, .inl (fun _ => 0))), (q1, .inl (y.2.2.1, 8, .inl (fun _ => 0))), (q2, .inl (y.2.2.1, 8, .inl (fun _ => 0))), (q3, .inl (y.2.2.1, 8, .inl (fun _ => 0))), (q4, .inl (y.2.2.1, 8, .inl (fun _ => 0))), (q5, .inl (y.2.2.1, 8, .inl (fun _ => 0))), (q6, .inl (y.2.2.1, 8, .inl (fun _ => 0)))]) dX7_init_67 inlX7 tyX7 tyX7_ok nmX7 rfl rfl (by decide) (List.mem_of_getElem? (i := 73) (by decide +kernel) : Cond.fieldLink RX7 37 "EachLendsHisFace$Town" "people" "I" ∈ wsL_law) rfl (by decide +kernel) rfl rfl (Nat.le_of_ble_eq_true rfl) rfl ?_
  refine yaload_n dX7_init_70 rfl ?_
  refine yiconst (v := 0) dX7_init_71 (by decide) ?_
  refine yput (k := 9) (q0 := 0) (ty := .int) (ws' := [(a, .inr (7, [.ref k, .ref q0, .ref q1, .ref q2, .ref q3, .ref q4, .ref q5, .ref q6, .int 0, .int 0])), (q0, .inl (y.2.2.1, 8, .inl (fun _ => 0))), (q1, .inl (y.2.2.1, 8, .inl (fun _ => 0))), (q2, .inl (y.2.2.1, 8, .inl (fun _ => 0))), (q3, .inl (y.2.2.1, 8, .inl (fun _ => 0))), (q4, .inl (y.2.2.1, 8, .inl (fun _ => 0))), (q5, .inl (y.2.2.1, 8, .inl (fun _ => 0))), (q6, .inl (y.2.2.1, 8, .inl (fun _ => 0)))]) dX7_init_72 inlX7 tyX7 tyX7_ok nmX7 rfl rfl (by decide) (List.mem_of_getElem? (i := 74) (by decide +kernel) : Cond.fieldLink RX7 41 "EachLendsHisFace$Town" "month" "I" ∈ wsL_law) rfl (by decide +kernel) rfl rfl (Nat.le_of_ble_eq_true rfl) rfl ?_
  exact yreturn dX7_init_75 rfl ⟨q0, q1, q2, q3, q4, q5, q6, rfl⟩
def teW (y : yCx) (a q0 : Nat) : va_W := [(a, .inr (6, [.ref q0, .int 0])), (q0, .inl (y.2.2.1, 96, .inl (fun _ => 0)))]
set_option maxRecDepth 100000 in
set_option maxHeartbeats 4000000 in
theorem c_X6_init : yC y mX6_init [.ref a] [(a, .inr (6, [.null, .int 0]))] 1 96 (fun u => ∃ q0, u = teW y a q0) := by
  refine yC_of (by decide +kernel) (Nat.le_of_ble_eq_true rfl) (fun A => ?_)
  refine yaload_n dX6_init_0 rfl ?_
  refine yobj dX6_init_1 (List.mem_of_getElem? (i := 78) (by decide +kernel) : Cond.methodLink RX6 3 objectInit ∈ wsL_law) (by decide) ?_
  refine yaload_n dX6_init_4 rfl ?_
  refine ybipush (v := nI 96) dX6_init_5 (by decide) ?_
  refine ynewa (N := 96) dX6_init_7 rfl (by decide) (by omega) (by omega) (fun q0 => ?_)
  refine ywd (ws' := [(a, .inr (6, [.null, .int 0])), (q0, .inl (y.2.2.1, 96, .inl (fun _ => 0)))]) rfl ?_
  refine yputF (k := 0) (q0 := 0) (ty := (.array .int)) (ws' := [(a, .inr (6, [.ref q0, .int 0])), (q0, .inl (y.2.2.1, 96, .inl (fun _ => 0)))]) dX6_init_9 inlX6 tyX6 tyX6_ok nmX6 rfl rfl (by decide) (List.mem_of_getElem? (i := 79) (by decide +kernel) : Cond.fieldLink RX6 9 "EachLendsHisFace$Telling" "letters" "[I" ∈ wsL_law) rfl rfl rfl (by decide +kernel) rfl rfl (Nat.le_of_ble_eq_true rfl) rfl ?_
  refine yaload_n dX6_init_12 rfl ?_
  refine yiconst (v := 0) dX6_init_13 (by decide) ?_
  refine yput (k := 1) (q0 := 0) (ty := .int) (ws' := [(a, .inr (6, [.ref q0, .int 0])), (q0, .inl (y.2.2.1, 96, .inl (fun _ => 0)))]) dX6_init_14 inlX6 tyX6 tyX6_ok nmX6 rfl rfl (by decide) (List.mem_of_getElem? (i := 80) (by decide +kernel) : Cond.fieldLink RX6 15 "EachLendsHisFace$Telling" "size" "I" ∈ wsL_law) rfl (by decide +kernel) rfl rfl (Nat.le_of_ble_eq_true rfl) rfl ?_
  exact yreturn dX6_init_17 rfl ⟨q0, rfl⟩
def moW (y : yCx) (a q0 q1 q2 q3 q4 q5 q6 q7 q8 : Nat) : va_W := [(a, .inr (9, [.ref q0, .ref q1, .ref q2, .ref q3, .ref q4, .int 0, .ref q5, .ref q6, .ref q7, .int 0, .int 0, .int 0, .ref q8, .int 0])), (q0, .inl (y.2.2.1, 58, .inl (fun _ => 0))), (q1, .inl (y.2.2.1, 58, .inl (fun _ => 0))), (q2, .inl (y.2.2.1, 58, .inl (fun _ => 0))), (q3, .inl (y.2.2.1, 58, .inl (fun _ => 0))), (q4, .inl (y.2.2.1, 58, .inl (fun _ => 0))), (q5, .inl (y.2.2.1, 96, .inl (fun _ => 0))), (q6, .inl (y.2.2.1, 16, .inl (fun _ => 0))), (q7, .inl (y.2.2.1, 7, .inl (fun _ => 0))), (q8, .inl (y.2.2.1, 2, .inl (fun _ => 0)))]
set_option maxRecDepth 100000 in
set_option maxHeartbeats 4000000 in
theorem c_X9_init : yC y mX9_init [.ref a] [(a, .inr (9, [.null, .null, .null, .null, .null, .int 0, .null, .null, .null, .int 0, .int 0, .int 0, .null, .int 0]))] 9 411 (fun u => ∃ q0 q1 q2 q3 q4 q5 q6 q7 q8, u = moW y a q0 q1 q2 q3 q4 q5 q6 q7 q8) := by
  refine yC_of (by decide +kernel) (Nat.le_of_ble_eq_true rfl) (fun A => ?_)
  refine yaload_n dX9_init_0 rfl ?_
  refine yobj dX9_init_1 (List.mem_of_getElem? (i := 84) (by decide +kernel) : Cond.methodLink RX9 1 objectInit ∈ wsL_law) (by decide) ?_
  refine yaload_n dX9_init_4 rfl ?_
  refine ybipush (v := nI 58) dX9_init_5 (by decide) ?_
  refine ynewa (N := 58) dX9_init_7 rfl (by decide) (by omega) (by omega) (fun q0 => ?_)
  refine ywd (ws' := [(a, .inr (9, [.null, .null, .null, .null, .null, .int 0, .null, .null, .null, .int 0, .int 0, .int 0, .null, .int 0])), (q0, .inl (y.2.2.1, 58, .inl (fun _ => 0)))]) rfl ?_
  refine yputF (k := 0) (q0 := 0) (ty := (.array .int)) (ws' := [(a, .inr (9, [.ref q0, .null, .null, .null, .null, .int 0, .null, .null, .null, .int 0, .int 0, .int 0, .null, .int 0])), (q0, .inl (y.2.2.1, 58, .inl (fun _ => 0)))]) dX9_init_9 inlX9 tyX9 tyX9_ok nmX9 rfl rfl (by decide) (List.mem_of_getElem? (i := 85) (by decide +kernel) : Cond.fieldLink RX9 9 "EachLendsHisFaceModel" "s" "[I" ∈ wsL_law) rfl rfl rfl (by decide +kernel) rfl rfl (Nat.le_of_ble_eq_true rfl) rfl ?_
  refine yaload_n dX9_init_12 rfl ?_
  refine ybipush (v := nI 58) dX9_init_13 (by decide) ?_
  refine ynewa (N := 58) dX9_init_15 rfl (by decide) (by omega) (by omega) (fun q1 => ?_)
  refine ywd (ws' := [(a, .inr (9, [.ref q0, .null, .null, .null, .null, .int 0, .null, .null, .null, .int 0, .int 0, .int 0, .null, .int 0])), (q0, .inl (y.2.2.1, 58, .inl (fun _ => 0))), (q1, .inl (y.2.2.1, 58, .inl (fun _ => 0)))]) rfl ?_
  refine yputF (k := 1) (q0 := 0) (ty := (.array .int)) (ws' := [(a, .inr (9, [.ref q0, .ref q1, .null, .null, .null, .int 0, .null, .null, .null, .int 0, .int 0, .int 0, .null, .int 0])), (q0, .inl (y.2.2.1, 58, .inl (fun _ => 0))), (q1, .inl (y.2.2.1, 58, .inl (fun _ => 0)))]) dX9_init_17 inlX9 tyX9 tyX9_ok nmX9 rfl rfl (by decide) (List.mem_of_getElem? (i := 86) (by decide +kernel) : Cond.fieldLink RX9 13 "EachLendsHisFaceModel" "m" "[I" ∈ wsL_law) rfl rfl rfl (by decide +kernel) rfl rfl (Nat.le_of_ble_eq_true rfl) rfl ?_
  refine yaload_n dX9_init_20 rfl ?_
  refine ybipush (v := nI 58) dX9_init_21 (by decide) ?_
  refine ynewa (N := 58) dX9_init_23 rfl (by decide) (by omega) (by omega) (fun q2 => ?_)
  refine ywd (ws' := [(a, .inr (9, [.ref q0, .ref q1, .null, .null, .null, .int 0, .null, .null, .null, .int 0, .int 0, .int 0, .null, .int 0])), (q0, .inl (y.2.2.1, 58, .inl (fun _ => 0))), (q1, .inl (y.2.2.1, 58, .inl (fun _ => 0))), (q2, .inl (y.2.2.1, 58, .inl (fun _ => 0)))]) rfl ?_
  refine yputF (k := 2) (q0 := 0) (ty := (.array .int)) (ws' := [(a, .inr (9, [.ref q0, .ref q1, .ref q2, .null, .null, .int 0, .null, .null, .null, .int 0, .int 0, .int 0, .null, .int 0])), (q0, .inl (y.2.2.1, 58, .inl (fun _ => 0))), (q1, .inl (y.2.2.1, 58, .inl (fun _ => 0))), (q2, .inl (y.2.2.1, 58, .inl (fun _ => 0)))]) dX9_init_25 inlX9 tyX9 tyX9_ok nmX9 rfl rfl (by decide) (List.mem_of_getElem? (i := 87) (by decide +kernel) : Cond.fieldLink RX9 16 "EachLendsHisFaceModel" "image" "[I" ∈ wsL_law) rfl rfl rfl (by decide +kernel) rfl rfl (Nat.le_of_ble_eq_true rfl) rfl ?_
  refine yaload_n dX9_init_28 rfl ?_
  refine ybipush (v := nI 58) dX9_init_29 (by decide) ?_
  refine ynewa (N := 58) dX9_init_31 rfl (by decide) (by omega) (by omega) (fun q3 => ?_)
  refine ywd (ws' := [(a, .inr (9, [.ref q0, .ref q1, .ref q2, .null, .null, .int 0, .null, .null, .null, .int 0, .int 0, .int 0, .null, .int 0])), (q0, .inl (y.2.2.1, 58, .inl (fun _ => 0))), (q1, .inl (y.2.2.1, 58, .inl (fun _ => 0))), (q2, .inl (y.2.2.1, 58, .inl (fun _ => 0))), (q3, .inl (y.2.2.1, 58, .inl (fun _ => 0)))]) rfl ?_
  refine yputF (k := 3) (q0 := 0) (ty := (.array .int)) (ws' := [(a, .inr (9, [.ref q0, .ref q1, .ref q2, .ref q3, .null, .int 0, .null, .null, .null, .int 0, .int 0, .int 0, .null, .int 0])), (q0, .inl (y.2.2.1, 58, .inl (fun _ => 0))), (q1, .inl (y.2.2.1, 58, .inl (fun _ => 0))), (q2, .inl (y.2.2.1, 58, .inl (fun _ => 0))), (q3, .inl (y.2.2.1, 58, .inl (fun _ => 0)))]) dX9_init_33 inlX9 tyX9 tyX9_ok nmX9 rfl rfl (by decide) (List.mem_of_getElem? (i := 88) (by decide +kernel) : Cond.fieldLink RX9 19 "EachLendsHisFaceModel" "was" "[I" ∈ wsL_law) rfl rfl rfl (by decide +kernel) rfl rfl (Nat.le_of_ble_eq_true rfl) rfl ?_
  refine yaload_n dX9_init_36 rfl ?_
  refine ybipush (v := nI 58) dX9_init_37 (by decide) ?_
  refine ynewa (N := 58) dX9_init_39 rfl (by decide) (by omega) (by omega) (fun q4 => ?_)
  refine ywd (ws' := [(a, .inr (9, [.ref q0, .ref q1, .ref q2, .ref q3, .null, .int 0, .null, .null, .null, .int 0, .int 0, .int 0, .null, .int 0])), (q0, .inl (y.2.2.1, 58, .inl (fun _ => 0))), (q1, .inl (y.2.2.1, 58, .inl (fun _ => 0))), (q2, .inl (y.2.2.1, 58, .inl (fun _ => 0))), (q3, .inl (y.2.2.1, 58, .inl (fun _ => 0))), (q4, .inl (y.2.2.1, 58, .inl (fun _ => 0)))]) rfl ?_
  refine yputF (k := 4) (q0 := 0) (ty := (.array .int)) (ws' := [(a, .inr (9, [.ref q0, .ref q1, .ref q2, .ref q3, .ref q4, .int 0, .null, .null, .null, .int 0, .int 0, .int 0, .null, .int 0])), (q0, .inl (y.2.2.1, 58, .inl (fun _ => 0))), (q1, .inl (y.2.2.1, 58, .inl (fun _ => 0))), (q2, .inl (y.2.2.1, 58, .inl (fun _ => 0))), (q3, .inl (y.2.2.1, 58, .inl (fun _ => 0))), (q4, .inl (y.2.2.1, 58, .inl (fun _ => 0)))]) dX9_init_41 inlX9 tyX9 tyX9_ok nmX9 rfl rfl (by decide) (List.mem_of_getElem? (i := 89) (by decide +kernel) : Cond.fieldLink RX9 22 "EachLendsHisFaceModel" "lent" "[I" ∈ wsL_law) rfl rfl rfl (by decide +kernel) rfl rfl (Nat.le_of_ble_eq_true rfl) rfl ?_
  refine yaload_n dX9_init_44 rfl ?_
  refine ybipush (v := nI 96) dX9_init_45 (by decide) ?_
  refine ynewa (N := 96) dX9_init_47 rfl (by decide) (by omega) (by omega) (fun q5 => ?_)
  refine ywd (ws' := [(a, .inr (9, [.ref q0, .ref q1, .ref q2, .ref q3, .ref q4, .int 0, .null, .null, .null, .int 0, .int 0, .int 0, .null, .int 0])), (q0, .inl (y.2.2.1, 58, .inl (fun _ => 0))), (q1, .inl (y.2.2.1, 58, .inl (fun _ => 0))), (q2, .inl (y.2.2.1, 58, .inl (fun _ => 0))), (q3, .inl (y.2.2.1, 58, .inl (fun _ => 0))), (q4, .inl (y.2.2.1, 58, .inl (fun _ => 0))), (q5, .inl (y.2.2.1, 96, .inl (fun _ => 0)))]) rfl ?_
  refine yputF (k := 6) (q0 := 0) (ty := (.array .int)) (ws' := [(a, .inr (9, [.ref q0, .ref q1, .ref q2, .ref q3, .ref q4, .int 0, .ref q5, .null, .null, .int 0, .int 0, .int 0, .null, .int 0])), (q0, .inl (y.2.2.1, 58, .inl (fun _ => 0))), (q1, .inl (y.2.2.1, 58, .inl (fun _ => 0))), (q2, .inl (y.2.2.1, 58, .inl (fun _ => 0))), (q3, .inl (y.2.2.1, 58, .inl (fun _ => 0))), (q4, .inl (y.2.2.1, 58, .inl (fun _ => 0))), (q5, .inl (y.2.2.1, 96, .inl (fun _ => 0)))]) dX9_init_49 inlX9 tyX9 tyX9_ok nmX9 rfl rfl (by decide) (List.mem_of_getElem? (i := 90) (by decide +kernel) : Cond.fieldLink RX9 25 "EachLendsHisFaceModel" "letters" "[I" ∈ wsL_law) rfl rfl rfl (by decide +kernel) rfl rfl (Nat.le_of_ble_eq_true rfl) rfl ?_
  refine yaload_n dX9_init_52 rfl ?_
  refine ybipush (v := nI 16) dX9_init_53 (by decide) ?_
  refine ynewa (N := 16) dX9_init_55 rfl (by decide) (by omega) (by omega) (fun q6 => ?_)
  refine ywd (ws' := [(a, .inr (9, [.ref q0, .ref q1, .ref q2, .ref q3, .ref q4, .int 0, .ref q5, .null, .null, .int 0, .int 0, .int 0, .null, .int 0])), (q0, .inl (y.2.2.1, 58, .inl (fun _ => 0))), (q1, .inl (y.2.2.1, 58, .inl (fun _ => 0))), (q2, .inl (y.2.2.1, 58, .inl (fun _ => 0))), (q3, .inl (y.2.2.1, 58, .inl (fun _ => 0))), (q4, .inl (y.2.2.1, 58, .inl (fun _ => 0))), (q5, .inl (y.2.2.1, 96, .inl (fun _ => 0))), (q6, .inl (y.2.2.1, 16, .inl (fun _ => 0)))]) rfl ?_
  refine yputF (k := 7) (q0 := 0) (ty := (.array .int)) (ws' := [(a, .inr (9, [.ref q0, .ref q1, .ref q2, .ref q3, .ref q4, .int 0, .ref q5, .ref q6, .null, .int 0, .int 0, .int 0, .null, .int 0])), (q0, .inl (y.2.2.1, 58, .inl (fun _ => 0))), (q1, .inl (y.2.2.1, 58, .inl (fun _ => 0))), (q2, .inl (y.2.2.1, 58, .inl (fun _ => 0))), (q3, .inl (y.2.2.1, 58, .inl (fun _ => 0))), (q4, .inl (y.2.2.1, 58, .inl (fun _ => 0))), (q5, .inl (y.2.2.1, 96, .inl (fun _ => 0))), (q6, .inl (y.2.2.1, 16, .inl (fun _ => 0)))]) dX9_init_57 inlX9 tyX9 tyX9_ok nmX9 rfl rfl (by decide) (List.mem_of_getElem? (i := 91) (by decide +kernel) : Cond.fieldLink RX9 28 "EachLendsHisFaceModel" "row" "[I" ∈ wsL_law) rfl rfl rfl (by decide +kernel) rfl rfl (Nat.le_of_ble_eq_true rfl) rfl ?_
  refine yaload_n dX9_init_60 rfl ?_
  refine ybipush (v := nI 7) dX9_init_61 (by decide) ?_
  refine ynewa (N := 7) dX9_init_63 rfl (by decide) (by omega) (by omega) (fun q7 => ?_)
  refine ywd (ws' := [(a, .inr (9, [.ref q0, .ref q1, .ref q2, .ref q3, .ref q4, .int 0, .ref q5, .ref q6, .null, .int 0, .int 0, .int 0, .null, .int 0])), (q0, .inl (y.2.2.1, 58, .inl (fun _ => 0))), (q1, .inl (y.2.2.1, 58, .inl (fun _ => 0))), (q2, .inl (y.2.2.1, 58, .inl (fun _ => 0))), (q3, .inl (y.2.2.1, 58, .inl (fun _ => 0))), (q4, .inl (y.2.2.1, 58, .inl (fun _ => 0))), (q5, .inl (y.2.2.1, 96, .inl (fun _ => 0))), (q6, .inl (y.2.2.1, 16, .inl (fun _ => 0))), (q7, .inl (y.2.2.1, 7, .inl (fun _ => 0)))]) rfl ?_
  refine yputF (k := 8) (q0 := 0) (ty := (.array .int)) (ws' := [(a, .inr (9, [.ref q0, .ref q1, .ref q2, .ref q3, .ref q4, .int 0, .ref q5, .ref q6, .ref q7, .int 0, .int 0, .int 0, .null, .int 0])), (q0, .inl (y.2.2.1, 58, .inl (fun _ => 0))), (q1, .inl (y.2.2.1, 58, .inl (fun _ => 0))), (q2, .inl (y.2.2.1, 58, .inl (fun _ => 0))), (q3, .inl (y.2.2.1, 58, .inl (fun _ => 0))), (q4, .inl (y.2.2.1, 58, .inl (fun _ => 0))), (q5, .inl (y.2.2.1, 96, .inl (fun _ => 0))), (q6, .inl (y.2.2.1, 16, .inl (fun _ => 0))), (q7, .inl (y.2.2.1, 7, .inl (fun _ => 0)))]) dX9_init_65 inlX9 tyX9 tyX9_ok nmX9 rfl rfl (by decide) (List.mem_of_getElem? (i := 92) (by decide +kernel) : Cond.fieldLink RX9 31 "EachLendsHisFaceModel" "refused" "[I" ∈ wsL_law) rfl rfl rfl (by decide +kernel) rfl rfl (Nat.le_of_ble_eq_true rfl) rfl ?_
  refine yaload_n dX9_init_68 rfl ?_
  refine yiconst (v := nI 2) dX9_init_69 (by decide) ?_
  refine ynewa (N := 2) dX9_init_70 rfl (by decide) (by omega) (by omega) (fun q8 => ?_)
  refine ywd (ws' := [(a, .inr (9, [.ref q0, .ref q1, .ref q2, .ref q3, .ref q4, .int 0, .ref q5, .ref q6, .ref q7, .int 0, .int 0, .int 0, .null, .int 0])), (q0, .inl (y.2.2.1, 58, .inl (fun _ => 0))), (q1, .inl (y.2.2.1, 58, .inl (fun _ => 0))), (q2, .inl (y.2.2.1, 58, .inl (fun _ => 0))), (q3, .inl (y.2.2.1, 58, .inl (fun _ => 0))), (q4, .inl (y.2.2.1, 58, .inl (fun _ => 0))), (q5, .inl (y.2.2.1, 96, .inl (fun _ => 0))), (q6, .inl (y.2.2.1, 16, .inl (fun _ => 0))), (q7, .inl (y.2.2.1, 7, .inl (fun _ => 0))), (q8, .inl (y.2.2.1, 2, .inl (fun _ => 0)))]) rfl ?_
  refine yputF (k := 12) (q0 := 0) (ty := (.array .int)) (ws' := [(a, .inr (9, [.ref q0, .ref q1, .ref q2, .ref q3, .ref q4, .int 0, .ref q5, .ref q6, .ref q7, .int 0, .int 0, .int 0, .ref q8, .int 0])), (q0, .inl (y.2.2.1, 58, .inl (fun _ => 0))), (q1, .inl (y.2.2.1, 58, .inl (fun _ => 0))), (q2, .inl (y.2.2.1, 58, .inl (fun _ => 0))), (q3, .inl (y.2.2.1, 58, .inl (fun _ => 0))), (q4, .inl (y.2.2.1, 58, .inl (fun _ => 0))), (q5, .inl (y.2.2.1, 96, .inl (fun _ => 0))), (q6, .inl (y.2.2.1, 16, .inl (fun _ => 0))), (q7, .inl (y.2.2.1, 7, .inl (fun _ => 0))), (q8, .inl (y.2.2.1, 2, .inl (fun _ => 0)))]) dX9_init_72 inlX9 tyX9 tyX9_ok nmX9 rfl rfl (by decide) (List.mem_of_getElem? (i := 93) (by decide +kernel) : Cond.fieldLink RX9 34 "EachLendsHisFaceModel" "numbers" "[I" ∈ wsL_law) rfl rfl rfl (by decide +kernel) rfl rfl (Nat.le_of_ble_eq_true rfl) rfl ?_
  exact yreturn dX9_init_75 rfl ⟨q0, q1, q2, q3, q4, q5, q6, q7, q8, rfl⟩
end INITS
