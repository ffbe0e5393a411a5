/-! the worlds that the constructors leave are the worlds of the sides, with zeros -/
def z0 : zSt := (fun _ _ => 0, fun _ _ => 0)
theorem kindrow (ad : Nat → Nat) : va_up (va_up (va_up (va_up (va_up (va_up (fun _ => none) 0 (some (ad 2))) 1 (some (ad 3))) 2 (some (ad 4))) 3 (some (ad 5))) 4 (some (ad 6))) 5 (some (ad 7)) = fun i => (([2, 3, 4, 5, 6, 7] : List Nat)[i]?).map ad := by
  funext i
  match i with
  | 0 => rfl
  | 1 => rfl
  | 2 => rfl
  | 3 => rfl
  | 4 => rfl
  | 5 => rfl
  | i + 6 => simp [va_up]
set_option maxRecDepth 100000 in
set_option maxHeartbeats 4000000 in
theorem exW_zwd (l : Launch) (D : va_G) (cI cP : ClassId) (E : State → Prop) (ad : Nat → Nat) : exW (l, D, cI, cP) (ad 0) (ad 1) (ad 2) (ad 3) (ad 4) (ad 5) (ad 6) (ad 7) (ad 8) (ad 9) (ad 10) (ad 11) (ad 12) (ad 13) (ad 14) (ad 15) (ad 16) (ad 17) (ad 18) (ad 19) (ad 20) (ad 21) (ad 22) (ad 23) (ad 24) (ad 25) (ad 26) (ad 27) (ad 28) (ad 29) (ad 30) (ad 31) (ad 32) (ad 33) (ad 34) (ad 35) (ad 36) (ad 37) (ad 38) = zwd (l, D, cI, cP, ad, E) true z0 := by
  unfold exW
  rw [kindrow]
  rfl
set_option maxRecDepth 100000 in
set_option maxHeartbeats 4000000 in
theorem moW_zwd (l : Launch) (D : va_G) (cI cP : ClassId) (E : State → Prop) (ad : Nat → Nat) : moW (l, D, cI, cP) (ad 0) (ad 1) (ad 2) (ad 3) (ad 4) (ad 5) (ad 6) (ad 7) (ad 8) (ad 9) = zwd (l, D, cI, cP, ad, E) false z0 := rfl
theorem exW_all {l : Launch} {D : va_G} {cI cP : ClassId} {a kr p0 p1 p2 p3 p4 p5 t0 t00 t01 t02 t03 t04 t05 t06 t1 t10 t11 t12 t13 t14 t15 t16 t2 t20 t21 t22 t23 t24 t25 t26 te te0 ar0 ar1 ar2 ar3 ar4 : Nat} (E : State → Prop) : ∃ ad : Nat → Nat, ad 0 = a ∧ exW (l, D, cI, cP) a kr p0 p1 p2 p3 p4 p5 t0 t00 t01 t02 t03 t04 t05 t06 t1 t10 t11 t12 t13 t14 t15 t16 t2 t20 t21 t22 t23 t24 t25 t26 te te0 ar0 ar1 ar2 ar3 ar4 = zwd (l, D, cI, cP, ad, E) true z0 :=
  ⟨fun k => [a, kr, p0, p1, p2, p3, p4, p5, t0, t00, t01, t02, t03, t04, t05, t06, t1, t10, t11, t12, t13, t14, t15, t16, t2, t20, t21, t22, t23, t24, t25, t26, te, te0, ar0, ar1, ar2, ar3, ar4].getD k 0, rfl, exW_zwd l D cI cP E (fun k => [a, kr, p0, p1, p2, p3, p4, p5, t0, t00, t01, t02, t03, t04, t05, t06, t1, t10, t11, t12, t13, t14, t15, t16, t2, t20, t21, t22, t23, t24, t25, t26, te, te0, ar0, ar1, ar2, ar3, ar4].getD k 0)⟩
theorem moW_all {l : Launch} {D : va_G} {cI cP : ClassId} {a q0 q1 q2 q3 q4 q5 q6 q7 q8 : Nat} (E : State → Prop) : ∃ ad : Nat → Nat, ad 0 = a ∧ moW (l, D, cI, cP) a q0 q1 q2 q3 q4 q5 q6 q7 q8 = zwd (l, D, cI, cP, ad, E) false z0 :=
  ⟨fun k => [a, q0, q1, q2, q3, q4, q5, q6, q7, q8].getD k 0, rfl, moW_zwd l D cI cP E (fun k => [a, q0, q1, q2, q3, q4, q5, q6, q7, q8].getD k 0)⟩
def σ0 : Sig := (0, fun _ _ => 0, 0, none, (0, fun _ => 0), (0, fun _ => 0), fun _ => 0)
theorem no0 {P : Nat → Prop} : ∀ i, i < 0 → P i := fun i hi => absurd hi (Nat.not_lt_zero i)
theorem rep0C : RepC σ0 z0 := ⟨⟨rfl, Nat.zero_le 8, fun w p _ _ hp => absurd hp (Nat.not_lt_zero p)⟩, rfl, rfl, ⟨rfl, no0⟩, ⟨rfl, no0⟩, fun _ _ => rfl⟩
theorem rep0M : RepM σ0 z0 := ⟨⟨rfl, Nat.zero_le 8, fun w p _ _ hp => absurd hp (Nat.not_lt_zero p)⟩, rfl, rfl, ⟨rfl, no0⟩, ⟨rfl, no0⟩, fun _ _ => rfl⟩
theorem wft0 {T : Tw} : WFT 0 T := by
  refine ⟨Nat.zero_le 8, ?_, fun p q r hp => absurd hp (Nat.not_lt_zero p), fun q r hq => absurd hq (Nat.not_lt_zero q), no0⟩
  simp [MW, VW]
theorem ws0 : WS σ0 := ⟨wft0, (fun q h => by cases h), ⟨Nat.zero_le 96, no0⟩, Nat.zero_le 16, no0⟩
