/-! Town (X7): reads -/
def isT (S : zSt) (t n : Nat) (T : Nat → Nat → Int32) : Prop := S.2 (tp t) 8 = nI n ∧ n ≤ 8 ∧ ∀ w p, 0 < w → w < 8 → p < n → S.1 (tp t + w) p = T w p
def wF (W : Nat → Int32) (f : Int32) : Nat → Nat → Int32
  | 0, _ => -9
  | k + 1, i => if W i = f then nI i else wF W f k (i + 1)
def sF (g : Nat → Int32) : Nat → Nat → Int32 → Int32
  | 0, _, a => a
  | k + 1, i, a => sF g k (i + 1) (a + g i)
def oF (g : Nat → Int32) : Nat → Nat → Int32 → Int32
  | 0, _, a => a
  | k + 1, i, a => oF g k (i + 1) (a ||| g i)
def aF (P : Nat → Bool) : Nat → Nat → Bool
  | 0, _ => true
  | k + 1, i => if P i = true then aF P k (i + 1) else false
def held (v : Int32) : Int32 := if v < 0 then 0 else if 99 < v then 99 else v
def fch (kd fg kn : Int32) : Int32 := if kd = 1 then -(fg / 3) else if kd = 2 then -2 else if kd = 3 then 0 else if kd = 4 then kn else if kd = 5 then kn - 2 else 1
def sch (kd fg : Int32) : Int32 := if kd = 2 then 1 else if kd = 4 ∨ kd = 5 then (if 5 < fg then 1 else 0) else 0
def kbit (T : Nat → Nat → Int32) (f : Int32) (p : Nat) : Int32 := (T 3 p >>> (f &&& 31)) &&& 1
def knowers (n : Nat) (T : Nat → Nat → Int32) (f : Int32) : Int32 := sF (kbit T f) n 0 0
theorem zialT {x : zCx} {M : zM} {post : Option Value → zSt → Prop} {pc : Nat} {lv : List (Nat × Value)} {st : List Value} {S : zSt} {t n w i : Nat} {T : Nat → Nat → Int32} (d : decode M.2.1 pc = .ok (.iaload, 1)) (ht : t < 3) (hT : isT S t n T) (h0 : 0 < w) (hw : w < 8) (hi : i < n) (kk : zZ x true M post (pc + 1) lv (.int (T w i) :: st) S) : zZ x true M post pc lv (.int (nI i) :: .ref (zad x (tp t + w)) :: st) S := by
  have := hT.2.1
  refine ziald d (tpk ht hw) (tpa ht h0 hw) (by decide) (by omega) ?_
  rw [hT.2.2 w i h0 hw hi]
  exact kk
section TOWN
variable {x : zCx} {S : zSt} {t n : Nat} {T : Nat → Nat → Int32}

set_option maxRecDepth 100000 in
set_option maxHeartbeats 4000000 in
theorem c_X7_wearsOwn (ht : t < 3) (hT : isT S t n T) {p : Nat} (hp : p < n) : zF x true mX7_wearsOwn [.ref (zad x (tp t)), .int (nI p)] S (some (.int (bI (decide (T 4 p = nI p))))) S := by
  have hn8 := hT.2.1
  refine zC_of (by decide +kernel) (Nat.le_of_ble_eq_true rfl) ?_
  refine zaload_n dX7_wearsOwn_0 rfl ?_
  refine gf_X7_25 (t := t) ht rfl dX7_wearsOwn_1 ?_
  refine ziload_n dX7_wearsOwn_4 rfl ?_
  refine zialT (t := t) (w := 4) dX7_wearsOwn_5 ht hT (by decide) (by decide) (by omega) ?_
  refine ziload_n dX7_wearsOwn_6 rfl ?_
  refine zicmp_ne (tgt := 14) dX7_wearsOwn_7 (by decide) (fun h7 => ?_) (fun h7 => ?_)
  · refine ziconst (v := 0) dX7_wearsOwn_14 (by decide) ?_
    exact zbret (q := false) dX7_wearsOwn_15 rfl rfl ⟨congrArg (fun q => some (Value.int (bI q))) (by simp [*]), rfl⟩
  · refine ziconst (v := 1) dX7_wearsOwn_10 (by decide) ?_
    refine zgoto (tgt := 15) dX7_wearsOwn_11 (by decide) ?_
    exact zbret (q := true) dX7_wearsOwn_15 rfl rfl ⟨congrArg (fun q => some (Value.int (bI q))) (by simp [*]), rfl⟩
set_option maxRecDepth 100000 in
set_option maxHeartbeats 4000000 in
theorem c_X7_isLent (ht : t < 3) (hT : isT S t n T) {p : Nat} (hp : p < n) : zF x true mX7_isLent [.ref (zad x (tp t)), .int (nI p)] S (some (.int (bI (decide (0 < T 7 p))))) S := by
  have hn8 := hT.2.1
  refine zC_of (by decide +kernel) (Nat.le_of_ble_eq_true rfl) ?_
  refine zaload_n dX7_isLent_0 rfl ?_
  refine gf_X7_34 (t := t) ht rfl dX7_isLent_1 ?_
  refine ziload_n dX7_isLent_4 rfl ?_
  refine zialT (t := t) (w := 7) dX7_isLent_5 ht hT (by decide) (by decide) (by omega) ?_
  refine zif_le (tgt := 13) dX7_isLent_6 (by decide) (fun h6 => ?_) (fun h6 => ?_)
  · refine ziconst (v := 0) dX7_isLent_13 (by decide) ?_
    exact zbret (q := false) dX7_isLent_14 rfl rfl ⟨congrArg (fun q => some (Value.int (bI q))) (by simp; first | exact Int32.not_le.mp h6 | exact h6), rfl⟩
  · refine ziconst (v := 1) dX7_isLent_9 (by decide) ?_
    refine zgoto (tgt := 14) dX7_isLent_10 (by decide) ?_
    exact zbret (q := true) dX7_isLent_14 rfl rfl ⟨congrArg (fun q => some (Value.int (bI q))) (by simp; first | exact Int32.not_le.mp h6 | exact h6), rfl⟩
set_option maxRecDepth 100000 in
set_option maxHeartbeats 4000000 in
theorem c_X7_isThere (ht : t < 3) (hT : isT S t n T) {p : Int32} : zF x true mX7_isThere [.ref (zad x (tp t)), .int p] S (some (.int (bI (decide (0 ≤ p ∧ p < nI n))))) S := by
  have hn8 := hT.2.1
  refine zC_of (by decide +kernel) (Nat.le_of_ble_eq_true rfl) ?_
  refine ziload_n dX7_isThere_0 rfl ?_
  refine zif_lt (tgt := 16) dX7_isThere_1 (by decide) (fun h1 => ?_) (fun h1 => ?_)
  · refine ziconst (v := 0) dX7_isThere_16 (by decide) ?_
    exact zbret (q := false) dX7_isThere_17 rfl rfl ⟨congrArg (fun q => some (Value.int (bI q))) (by simp; first | exact ⟨Int32.not_lt.mp h1, Int32.not_le.mp h9⟩ | exact fun q => absurd q (Int32.not_le.mpr h1) | exact fun _ => h9), rfl⟩
  · refine ziload_n dX7_isThere_4 rfl ?_
    refine zaload_n dX7_isThere_5 rfl ?_
    refine gf_X7_37 (t := t) ht rfl dX7_isThere_6 ?_
    rw [hT.1]
    refine zicmp_ge (tgt := 16) dX7_isThere_9 (by decide) (fun h9 => ?_) (fun h9 => ?_)
    · refine ziconst (v := 0) dX7_isThere_16 (by decide) ?_
      exact zbret (q := false) dX7_isThere_17 rfl rfl ⟨congrArg (fun q => some (Value.int (bI q))) (by simp; first | exact ⟨Int32.not_lt.mp h1, Int32.not_le.mp h9⟩ | exact fun q => absurd q (Int32.not_le.mpr h1) | exact fun _ => h9), rfl⟩
    · refine ziconst (v := 1) dX7_isThere_12 (by decide) ?_
      refine zgoto (tgt := 17) dX7_isThere_13 (by decide) ?_
      exact zbret (q := true) dX7_isThere_17 rfl rfl ⟨congrArg (fun q => some (Value.int (bI q))) (by simp; first | exact ⟨Int32.not_lt.mp h1, Int32.not_le.mp h9⟩ | exact fun q => absurd q (Int32.not_le.mpr h1) | exact fun _ => h9), rfl⟩
set_option maxRecDepth 100000 in
set_option maxHeartbeats 4000000 in
theorem c_X7_canLend (ht : t < 3) (hT : isT S t n T) {p q : Nat} (hp : p < n) (hq : q < n) : zF x true mX7_canLend [.ref (zad x (tp t)), .int (nI p), .int (nI q)] S (some (.int (bI (decide (¬ p = q ∧ T 4 p = nI p ∧ T 4 q = nI q))))) S := by
  have hn8 := hT.2.1
  refine zC_of (by decide +kernel) (Nat.le_of_ble_eq_true rfl) ?_
  refine ziload_n dX7_canLend_0 rfl ?_
  refine ziload_n dX7_canLend_1 rfl ?_
  refine zicmp_eq (tgt := 25) dX7_canLend_2 (by decide) (fun h2 => ?_) (fun h2 => ?_)
  · refine ziconst (v := 0) dX7_canLend_25 (by decide) ?_
    exact zbret (q := false) dX7_canLend_26 rfl rfl ⟨congrArg (fun q => some (Value.int (bI q))) (by rw [nI_eq (by omega) (by omega)] at h2; simp_all), rfl⟩
  · refine zaload_n dX7_canLend_5 rfl ?_
    refine ziload_n dX7_canLend_6 rfl ?_
    refine zcVf (ob_town (t := t) ht) gk_X7_44 dX7_canLend_7 (c_X7_wearsOwn ht hT (by omega)) rfl (by decide) (Nat.le_of_ble_eq_true rfl) ?_ rfl
    refine zifb_eq (tgt := 25) dX7_canLend_10 (by decide) (fun h10 => ?_) (fun h10 => ?_)
    · refine ziconst (v := 0) dX7_canLend_25 (by decide) ?_
      exact zbret (q := false) dX7_canLend_26 rfl rfl ⟨congrArg (fun q => some (Value.int (bI q))) (by rw [nI_eq (by omega) (by omega)] at h2; simp_all), rfl⟩
    · refine zaload_n dX7_canLend_13 rfl ?_
      refine ziload_n dX7_canLend_14 rfl ?_
      refine zcVf (ob_town (t := t) ht) gk_X7_44 dX7_canLend_15 (c_X7_wearsOwn ht hT (by omega)) rfl (by decide) (Nat.le_of_ble_eq_true rfl) ?_ rfl
      refine zifb_eq (tgt := 25) dX7_canLend_18 (by decide) (fun h18 => ?_) (fun h18 => ?_)
      · refine ziconst (v := 0) dX7_canLend_25 (by decide) ?_
        exact zbret (q := false) dX7_canLend_26 rfl rfl ⟨congrArg (fun q => some (Value.int (bI q))) (by rw [nI_eq (by omega) (by omega)] at h2; simp_all), rfl⟩
      · refine ziconst (v := 1) dX7_canLend_21 (by decide) ?_
        refine zgoto (tgt := 26) dX7_canLend_22 (by decide) ?_
        exact zbret (q := true) dX7_canLend_26 rfl rfl ⟨congrArg (fun q => some (Value.int (bI q))) (by rw [nI_eq (by omega) (by omega)] at h2; simp_all), rfl⟩
set_option maxRecDepth 100000 in
set_option maxHeartbeats 4000000 in
theorem c_X7_knowsFace (ht : t < 3) (hT : isT S t n T) {p : Nat} {f : Int32} (hp : p < n) : zF x true mX7_knowsFace [.ref (zad x (tp t)), .int (nI p), .int f] S (some (.int (bI (decide (kbit T f p = 1))))) S := by
  have hn8 := hT.2.1
  refine zC_of (by decide +kernel) (Nat.le_of_ble_eq_true rfl) ?_
  refine zaload_n dX7_knowsFace_0 rfl ?_
  refine gf_X7_22 (t := t) ht rfl dX7_knowsFace_1 ?_
  refine ziload_n dX7_knowsFace_4 rfl ?_
  refine zialT (t := t) (w := 3) dX7_knowsFace_5 ht hT (by decide) (by decide) (by omega) ?_
  refine ziload_n dX7_knowsFace_6 rfl ?_
  refine zishr dX7_knowsFace_7 ?_
  refine ziconst (v := 1) dX7_knowsFace_8 (by decide) ?_
  refine ziand dX7_knowsFace_9 ?_
  refine ziconst (v := 1) dX7_knowsFace_10 (by decide) ?_
  refine zicmp_ne (tgt := 18) dX7_knowsFace_11 (by decide) (fun h11 => ?_) (fun h11 => ?_)
  · refine ziconst (v := 0) dX7_knowsFace_18 (by decide) ?_
    exact zbret (q := false) dX7_knowsFace_19 rfl rfl ⟨congrArg (fun q => some (Value.int (bI q))) (by simp [kbit, *]), rfl⟩
  · refine ziconst (v := 1) dX7_knowsFace_14 (by decide) ?_
    refine zgoto (tgt := 19) dX7_knowsFace_15 (by decide) ?_
    exact zbret (q := true) dX7_knowsFace_19 rfl rfl ⟨congrArg (fun q => some (Value.int (bI q))) (by simp [kbit, *]), rfl⟩
set_option maxRecDepth 100000 in
set_option maxHeartbeats 4000000 in
theorem c_X7_takenFor (ht : t < 3) (hT : isT S t n T) {p q : Nat} (hp : p < n) (hq : q < n) : zF x true mX7_takenFor [.ref (zad x (tp t)), .int (nI p), .int (nI q)] S (some (.int (if T 4 q = 9 then 9 else if kbit T (T 4 q) p = 1 then T 4 q else 9))) S := by
  have hn8 := hT.2.1
  refine zC_of (by decide +kernel) (Nat.le_of_ble_eq_true rfl) ?_
  refine zaload_n dX7_takenFor_0 rfl ?_
  refine gf_X7_25 (t := t) ht rfl dX7_takenFor_1 ?_
  refine ziload_n dX7_takenFor_4 rfl ?_
  refine zialT (t := t) (w := 4) dX7_takenFor_5 ht hT (by decide) (by decide) (by omega) ?_
  refine zistore_n dX7_takenFor_6 (by decide) rfl ?_
  refine ziload_n dX7_takenFor_7 rfl ?_
  refine zbipush (v := 9) dX7_takenFor_8 (by decide) ?_
  refine zicmp_eq (tgt := 26) dX7_takenFor_10 (by decide) (fun h10 => ?_) (fun h10 => ?_)
  · refine zbipush (v := 9) dX7_takenFor_26 (by decide) ?_
    exact zireturn dX7_takenFor_28 rfl rfl ⟨congrArg (fun q => some (Value.int q)) (by simp_all), rfl⟩
  · refine zaload_n dX7_takenFor_13 rfl ?_
    refine ziload_n dX7_takenFor_14 rfl ?_
    refine ziload_n dX7_takenFor_15 rfl ?_
    refine zcVf (ob_town (t := t) ht) gk_X7_52 dX7_takenFor_16 (c_X7_knowsFace ht hT (by omega)) rfl (by decide) (Nat.le_of_ble_eq_true rfl) ?_ rfl
    refine zifb_eq (tgt := 26) dX7_takenFor_19 (by decide) (fun h19 => ?_) (fun h19 => ?_)
    · refine zbipush (v := 9) dX7_takenFor_26 (by decide) ?_
      exact zireturn dX7_takenFor_28 rfl rfl ⟨congrArg (fun q => some (Value.int q)) (by simp_all), rfl⟩
    · refine ziload_n dX7_takenFor_22 rfl ?_
      refine zgoto (tgt := 28) dX7_takenFor_23 (by decide) ?_
      exact zireturn dX7_takenFor_28 rfl rfl ⟨congrArg (fun q => some (Value.int q)) (by simp_all), rfl⟩
set_option maxRecDepth 100000 in
set_option maxHeartbeats 4000000 in
theorem c_X7_worthOf (ht : t < 3) (hT : isT S t n T) {p : Nat} (hp : p < n) : zF x true mX7_worthOf [.ref (zad x (tp t)), .int (nI p)] S (some (.int (T 5 p - T 6 p))) S := by
  have hn8 := hT.2.1
  refine zC_of (by decide +kernel) (Nat.le_of_ble_eq_true rfl) ?_
  refine zaload_n dX7_worthOf_0 rfl ?_
  refine gf_X7_28 (t := t) ht rfl dX7_worthOf_1 ?_
  refine ziload_n dX7_worthOf_4 rfl ?_
  refine zialT (t := t) (w := 5) dX7_worthOf_5 ht hT (by decide) (by decide) (by omega) ?_
  refine zaload_n dX7_worthOf_6 rfl ?_
  refine gf_X7_31 (t := t) ht rfl dX7_worthOf_7 ?_
  refine ziload_n dX7_worthOf_10 rfl ?_
  refine zialT (t := t) (w := 6) dX7_worthOf_11 ht hT (by decide) (by decide) (by omega) ?_
  refine zisub dX7_worthOf_12 ?_
  exact zireturn dX7_worthOf_13 rfl rfl ⟨rfl, rfl⟩
set_option maxRecDepth 100000 in
set_option maxHeartbeats 4000000 in
theorem c_X7_lookAlike (ht : t < 3) (hT : isT S t n T) {p q : Nat} (hp : p < n) (hq : q < n) : zF x true mX7_lookAlike [.ref (zad x (tp t)), .int (nI p), .int (nI q)] S (some (.int (bI (decide (T 5 p = T 5 q ∧ T 6 p = T 6 q))))) S := by
  have hn8 := hT.2.1
  refine zC_of (by decide +kernel) (Nat.le_of_ble_eq_true rfl) ?_
  refine zaload_n dX7_lookAlike_0 rfl ?_
  refine gf_X7_28 (t := t) ht rfl dX7_lookAlike_1 ?_
  refine ziload_n dX7_lookAlike_4 rfl ?_
  refine zialT (t := t) (w := 5) dX7_lookAlike_5 ht hT (by decide) (by decide) (by omega) ?_
  refine zaload_n dX7_lookAlike_6 rfl ?_
  refine gf_X7_28 (t := t) ht rfl dX7_lookAlike_7 ?_
  refine ziload_n dX7_lookAlike_10 rfl ?_
  refine zialT (t := t) (w := 5) dX7_lookAlike_11 ht hT (by decide) (by decide) (by omega) ?_
  refine zicmp_ne (tgt := 34) dX7_lookAlike_12 (by decide) (fun h12 => ?_) (fun h12 => ?_)
  · refine ziconst (v := 0) dX7_lookAlike_34 (by decide) ?_
    exact zbret (q := false) dX7_lookAlike_35 rfl rfl ⟨congrArg (fun q => some (Value.int (bI q))) (by simp_all), rfl⟩
  · refine zaload_n dX7_lookAlike_15 rfl ?_
    refine gf_X7_31 (t := t) ht rfl dX7_lookAlike_16 ?_
    refine ziload_n dX7_lookAlike_19 rfl ?_
    refine zialT (t := t) (w := 6) dX7_lookAlike_20 ht hT (by decide) (by decide) (by omega) ?_
    refine zaload_n dX7_lookAlike_21 rfl ?_
    refine gf_X7_31 (t := t) ht rfl dX7_lookAlike_22 ?_
    refine ziload_n dX7_lookAlike_25 rfl ?_
    refine zialT (t := t) (w := 6) dX7_lookAlike_26 ht hT (by decide) (by decide) (by omega) ?_
    refine zicmp_ne (tgt := 34) dX7_lookAlike_27 (by decide) (fun h27 => ?_) (fun h27 => ?_)
    · refine ziconst (v := 0) dX7_lookAlike_34 (by decide) ?_
      exact zbret (q := false) dX7_lookAlike_35 rfl rfl ⟨congrArg (fun q => some (Value.int (bI q))) (by simp_all), rfl⟩
    · refine ziconst (v := 1) dX7_lookAlike_30 (by decide) ?_
      refine zgoto (tgt := 35) dX7_lookAlike_31 (by decide) ?_
      exact zbret (q := true) dX7_lookAlike_35 rfl rfl ⟨congrArg (fun q => some (Value.int (bI q))) (by simp_all), rfl⟩
set_option maxRecDepth 100000 in
set_option maxHeartbeats 4000000 in
theorem l_X7_wearerOf (ht : t < 3) (hT : isT S t n T) (f : Int32) (r : Int32) : ∀ (k i : Nat), i + k = n → wF (T 4) f k i = r → zZ x true mX7_wearerOf (fun q T => q = some (.int r) ∧ T = S) 2 [(0, .ref (zad x (tp t))), (1, .int f), (2, .int (nI i))] [] S := by
  have hn8 := hT.2.1
  intro k
  induction k with
  | zero =>
    intro i hi hr
    refine ziload_n dX7_wearerOf_2 rfl ?_
    refine zaload_n dX7_wearerOf_3 rfl ?_
    refine gf_X7_37 (t := t) ht rfl dX7_wearerOf_4 ?_
    rw [hT.1]
    refine zicmp_ge (tgt := 28) dX7_wearerOf_7 (by decide) (fun _ => ?_) (fun h => absurd (nI_le (by omega) (by omega)) h)
    refine zbipush (v := -9) dX7_wearerOf_28 (by decide) ?_
    exact zireturn dX7_wearerOf_30 rfl rfl ⟨congrArg (fun q => some (Value.int q)) hr, rfl⟩
  | succ k ih =>
    intro i hi hr
    refine ziload_n dX7_wearerOf_2 rfl ?_
    refine zaload_n dX7_wearerOf_3 rfl ?_
    refine gf_X7_37 (t := t) ht rfl dX7_wearerOf_4 ?_
    rw [hT.1]
    refine zicmp_ge (tgt := 28) dX7_wearerOf_7 (by decide) (fun h => absurd h (nI_ge (by omega) (by omega))) (fun _ => ?_)
    refine zaload_n dX7_wearerOf_10 rfl ?_
    refine gf_X7_25 (t := t) ht rfl dX7_wearerOf_11 ?_
    refine ziload_n dX7_wearerOf_14 rfl ?_
    refine zialT (t := t) (w := 4) dX7_wearerOf_15 ht hT (by decide) (by decide) (by omega) ?_
    refine ziload_n dX7_wearerOf_16 rfl ?_
    refine zicmp_ne (tgt := 22) dX7_wearerOf_17 (by decide) (fun h17 => ?_) (fun h17 => ?_)
    · refine ziinc dX7_wearerOf_22 rfl rfl (by decide) rfl ?_
      refine zgoto (tgt := 2) dX7_wearerOf_25 (by decide) ?_
      refine zlvs (lv' := [(0, .ref (zad x (tp t))), (1, .int f), (2, .int (nI (i + 1)))]) ⟨rfl, rfl, by rw [← nI_1]; rfl, trivial⟩ ?_
      exact ih (i + 1) (by omega) (by simpa [wF, *] using hr)
    · refine ziload_n dX7_wearerOf_20 rfl ?_
      exact zireturn dX7_wearerOf_21 rfl rfl ⟨congrArg (fun q => some (Value.int q)) (by simpa [wF, *] using hr), rfl⟩
set_option maxRecDepth 100000 in
set_option maxHeartbeats 4000000 in
theorem c_X7_wearerOf (ht : t < 3) (hT : isT S t n T) (f : Int32) : zF x true mX7_wearerOf [.ref (zad x (tp t)), .int f] S (some (.int (wF (T 4) f n 0))) S := by
  refine zC_of (by decide +kernel) (Nat.le_of_ble_eq_true rfl) ?_
  refine ziconst (v := 0) dX7_wearerOf_0 (by decide) ?_
  refine zistore_n dX7_wearerOf_1 (by decide) rfl ?_
  refine zlvs (lv' := [(0, .ref (zad x (tp t))), (1, .int f), (2, .int (nI 0))]) ⟨rfl, rfl, rfl, trivial⟩ ?_
  exact l_X7_wearerOf ht hT f _ n 0 (by omega) rfl
set_option maxRecDepth 100000 in
set_option maxHeartbeats 4000000 in
theorem l_X7_faceWithoutFame (ht : t < 3) (hT : isT S t n T) (r : Int32) : ∀ (k i : Nat), i + k = n → wF (T 5) 0 k i = r → zZ x true mX7_faceWithoutFame (fun q T => q = some (.int r) ∧ T = S) 2 [(0, .ref (zad x (tp t))), (1, .int (nI i))] [] S := by
  have hn8 := hT.2.1
  intro k
  induction k with
  | zero =>
    intro i hi hr
    refine ziload_n dX7_faceWithoutFame_2 rfl ?_
    refine zaload_n dX7_faceWithoutFame_3 rfl ?_
    refine gf_X7_37 (t := t) ht rfl dX7_faceWithoutFame_4 ?_
    rw [hT.1]
    refine zicmp_ge (tgt := 27) dX7_faceWithoutFame_7 (by decide) (fun _ => ?_) (fun h => absurd (nI_le (by omega) (by omega)) h)
    refine zbipush (v := -9) dX7_faceWithoutFame_27 (by decide) ?_
    exact zireturn dX7_faceWithoutFame_29 rfl rfl ⟨congrArg (fun q => some (Value.int q)) hr, rfl⟩
  | succ k ih =>
    intro i hi hr
    refine ziload_n dX7_faceWithoutFame_2 rfl ?_
    refine zaload_n dX7_faceWithoutFame_3 rfl ?_
    refine gf_X7_37 (t := t) ht rfl dX7_faceWithoutFame_4 ?_
    rw [hT.1]
    refine zicmp_ge (tgt := 27) dX7_faceWithoutFame_7 (by decide) (fun h => absurd h (nI_ge (by omega) (by omega))) (fun _ => ?_)
    refine zaload_n dX7_faceWithoutFame_10 rfl ?_
    refine gf_X7_28 (t := t) ht rfl dX7_faceWithoutFame_11 ?_
    refine ziload_n dX7_faceWithoutFame_14 rfl ?_
    refine zialT (t := t) (w := 5) dX7_faceWithoutFame_15 ht hT (by decide) (by decide) (by omega) ?_
    refine zif_ne (tgt := 21) dX7_faceWithoutFame_16 (by decide) (fun h16 => ?_) (fun h16 => ?_)
    · refine ziinc dX7_faceWithoutFame_21 rfl rfl (by decide) rfl ?_
      refine zgoto (tgt := 2) dX7_faceWithoutFame_24 (by decide) ?_
      refine zlvs (lv' := [(0, .ref (zad x (tp t))), (1, .int (nI (i + 1)))]) ⟨rfl, by rw [← nI_1]; rfl, trivial⟩ ?_
      exact ih (i + 1) (by omega) (by simpa [wF, *] using hr)
    · refine ziload_n dX7_faceWithoutFame_19 rfl ?_
      exact zireturn dX7_faceWithoutFame_20 rfl rfl ⟨congrArg (fun q => some (Value.int q)) (by simpa [wF, *] using hr), rfl⟩
set_option maxRecDepth 100000 in
set_option maxHeartbeats 4000000 in
theorem c_X7_faceWithoutFame (ht : t < 3) (hT : isT S t n T) : zF x true mX7_faceWithoutFame [.ref (zad x (tp t))] S (some (.int (wF (T 5) 0 n 0))) S := by
  refine zC_of (by decide +kernel) (Nat.le_of_ble_eq_true rfl) ?_
  refine ziconst (v := 0) dX7_faceWithoutFame_0 (by decide) ?_
  refine zistore_n dX7_faceWithoutFame_1 (by decide) rfl ?_
  refine zlvs (lv' := [(0, .ref (zad x (tp t))), (1, .int (nI 0))]) ⟨rfl, rfl, trivial⟩ ?_
  exact l_X7_faceWithoutFame ht hT _ n 0 (by omega) rfl
set_option maxRecDepth 100000 in
set_option maxHeartbeats 4000000 in
theorem l_X7_allWearTheirOwn (ht : t < 3) (hT : isT S t n T) (r : Bool) : ∀ (k i : Nat), i + k = n → aF (fun p => decide (T 4 p = nI p)) k i = r → zZ x true mX7_allWearTheirOwn (fun q T => q = some (.int (bI r)) ∧ T = S) 2 [(0, .ref (zad x (tp t))), (1, .int (nI i))] [] S := by
  have hn8 := hT.2.1
  intro k
  induction k with
  | zero =>
    intro i hi hr
    refine ziload_n dX7_allWearTheirOwn_2 rfl ?_
    refine zaload_n dX7_allWearTheirOwn_3 rfl ?_
    refine gf_X7_37 (t := t) ht rfl dX7_allWearTheirOwn_4 ?_
    rw [hT.1]
    refine zicmp_ge (tgt := 26) dX7_allWearTheirOwn_7 (by decide) (fun _ => ?_) (fun h => absurd (nI_le (by omega) (by omega)) h)
    refine ziconst (v := 1) dX7_allWearTheirOwn_26 (by decide) ?_
    exact zbret (q := true) dX7_allWearTheirOwn_27 rfl rfl ⟨congrArg (fun q => some (Value.int (bI q))) hr, rfl⟩
  | succ k ih =>
    intro i hi hr
    refine ziload_n dX7_allWearTheirOwn_2 rfl ?_
    refine zaload_n dX7_allWearTheirOwn_3 rfl ?_
    refine gf_X7_37 (t := t) ht rfl dX7_allWearTheirOwn_4 ?_
    rw [hT.1]
    refine zicmp_ge (tgt := 26) dX7_allWearTheirOwn_7 (by decide) (fun h => absurd h (nI_ge (by omega) (by omega))) (fun _ => ?_)
    refine zaload_n dX7_allWearTheirOwn_10 rfl ?_
    refine ziload_n dX7_allWearTheirOwn_11 rfl ?_
    refine zcVf (ob_town (t := t) ht) gk_X7_44 dX7_allWearTheirOwn_12 (c_X7_wearsOwn ht hT (by omega)) rfl (by decide) (Nat.le_of_ble_eq_true rfl) ?_ rfl
    refine zifb_ne (tgt := 20) dX7_allWearTheirOwn_15 (by decide) (fun h15 => ?_) (fun h15 => ?_)
    · refine ziinc dX7_allWearTheirOwn_20 rfl rfl (by decide) rfl ?_
      refine zgoto (tgt := 2) dX7_allWearTheirOwn_23 (by decide) ?_
      refine zlvs (lv' := [(0, .ref (zad x (tp t))), (1, .int (nI (i + 1)))]) ⟨rfl, by rw [← nI_1]; rfl, trivial⟩ ?_
      exact ih (i + 1) (by omega) (by simpa [aF, *] using hr)
    · refine ziconst (v := 0) dX7_allWearTheirOwn_18 (by decide) ?_
      exact zbret (q := false) dX7_allWearTheirOwn_19 rfl rfl ⟨congrArg (fun q => some (Value.int (bI q))) (by simpa [aF, *] using hr), rfl⟩
set_option maxRecDepth 100000 in
set_option maxHeartbeats 4000000 in
theorem c_X7_allWearTheirOwn (ht : t < 3) (hT : isT S t n T) : zF x true mX7_allWearTheirOwn [.ref (zad x (tp t))] S (some (.int (bI (aF (fun p => decide (T 4 p = nI p)) n 0)))) S := by
  refine zC_of (by decide +kernel) (Nat.le_of_ble_eq_true rfl) ?_
  refine ziconst (v := 0) dX7_allWearTheirOwn_0 (by decide) ?_
  refine zistore_n dX7_allWearTheirOwn_1 (by decide) rfl ?_
  refine zlvs (lv' := [(0, .ref (zad x (tp t))), (1, .int (nI 0))]) ⟨rfl, rfl, trivial⟩ ?_
  exact l_X7_allWearTheirOwn ht hT _ n 0 (by omega) rfl
set_option maxRecDepth 100000 in
set_option maxHeartbeats 4000000 in
theorem l_X7_knowersOf (ht : t < 3) (hT : isT S t n T) (f : Int32) (r : Int32) : ∀ (k i : Nat) (a : Int32), i + k = n → sF (kbit T f) k i a = r → zZ x true mX7_knowersOf (fun q T => q = some (.int r) ∧ T = S) 4 [(0, .ref (zad x (tp t))), (1, .int f), (2, .int a), (3, .int (nI i))] [] S := by
  have hn8 := hT.2.1
  intro k
  induction k with
  | zero =>
    intro i a hi hr
    refine ziload_n dX7_knowersOf_4 rfl ?_
    refine zaload_n dX7_knowersOf_5 rfl ?_
    refine gf_X7_37 (t := t) ht rfl dX7_knowersOf_6 ?_
    rw [hT.1]
    refine zicmp_ge (tgt := 31) dX7_knowersOf_9 (by decide) (fun _ => ?_) (fun h => absurd (nI_le (by omega) (by omega)) h)
    refine ziload_n dX7_knowersOf_31 rfl ?_
    exact zireturn dX7_knowersOf_32 rfl rfl ⟨congrArg (fun q => some (Value.int q)) hr, rfl⟩
  | succ k ih =>
    intro i a hi hr
    refine ziload_n dX7_knowersOf_4 rfl ?_
    refine zaload_n dX7_knowersOf_5 rfl ?_
    refine gf_X7_37 (t := t) ht rfl dX7_knowersOf_6 ?_
    rw [hT.1]
    refine zicmp_ge (tgt := 31) dX7_knowersOf_9 (by decide) (fun h => absurd h (nI_ge (by omega) (by omega))) (fun _ => ?_)
    refine ziload_n dX7_knowersOf_12 rfl ?_
    refine zaload_n dX7_knowersOf_13 rfl ?_
    refine gf_X7_22 (t := t) ht rfl dX7_knowersOf_14 ?_
    refine ziload_n dX7_knowersOf_17 rfl ?_
    refine zialT (t := t) (w := 3) dX7_knowersOf_18 ht hT (by decide) (by decide) (by omega) ?_
    refine ziload_n dX7_knowersOf_19 rfl ?_
    refine zishr dX7_knowersOf_20 ?_
    refine ziconst (v := 1) dX7_knowersOf_21 (by decide) ?_
    refine ziand dX7_knowersOf_22 ?_
    refine ziadd dX7_knowersOf_23 ?_
    refine zistore_n dX7_knowersOf_24 (by decide) rfl ?_
    refine ziinc dX7_knowersOf_25 rfl rfl (by decide) rfl ?_
    refine zgoto (tgt := 4) dX7_knowersOf_28 (by decide) ?_
    refine zlvs (lv' := [(0, .ref (zad x (tp t))), (1, .int f), (2, .int _), (3, .int (nI (i + 1)))]) ⟨rfl, rfl, rfl, by rw [← nI_1]; rfl, trivial⟩ ?_
    exact ih (i + 1) _ (by omega) (by rw [← hr, sF]; simp [bI, kbit, *])
set_option maxRecDepth 100000 in
set_option maxHeartbeats 4000000 in
theorem c_X7_knowersOf (ht : t < 3) (hT : isT S t n T) (f : Int32) : zF x true mX7_knowersOf [.ref (zad x (tp t)), .int f] S (some (.int (sF (kbit T f) n 0 0))) S := by
  refine zC_of (by decide +kernel) (Nat.le_of_ble_eq_true rfl) ?_
  refine ziconst (v := 0) dX7_knowersOf_0 (by decide) ?_
  refine zistore_n dX7_knowersOf_1 (by decide) rfl ?_
  refine ziconst (v := 0) dX7_knowersOf_2 (by decide) ?_
  refine zistore_n dX7_knowersOf_3 (by decide) rfl ?_
  refine zlvs (lv' := [(0, .ref (zad x (tp t))), (1, .int f), (2, .int 0), (3, .int (nI 0))]) ⟨rfl, rfl, rfl, rfl, trivial⟩ ?_
  exact l_X7_knowersOf ht hT f _ n 0 0 (by omega) rfl
set_option maxRecDepth 100000 in
set_option maxHeartbeats 4000000 in
theorem l_X7_lentFaces (ht : t < 3) (hT : isT S t n T) (r : Int32) : ∀ (k i : Nat) (a : Int32), i + k = n → sF (fun p => bI (decide (0 < T 7 p))) k i a = r → zZ x true mX7_lentFaces (fun q T => q = some (.int r) ∧ T = S) 4 [(0, .ref (zad x (tp t))), (1, .int a), (2, .int (nI i))] [] S := by
  have hn8 := hT.2.1
  intro k
  induction k with
  | zero =>
    intro i a hi hr
    refine ziload_n dX7_lentFaces_4 rfl ?_
    refine zaload_n dX7_lentFaces_5 rfl ?_
    refine gf_X7_37 (t := t) ht rfl dX7_lentFaces_6 ?_
    rw [hT.1]
    refine zicmp_ge (tgt := 34) dX7_lentFaces_9 (by decide) (fun _ => ?_) (fun h => absurd (nI_le (by omega) (by omega)) h)
    refine ziload_n dX7_lentFaces_34 rfl ?_
    exact zireturn dX7_lentFaces_35 rfl rfl ⟨congrArg (fun q => some (Value.int q)) hr, rfl⟩
  | succ k ih =>
    intro i a hi hr
    refine ziload_n dX7_lentFaces_4 rfl ?_
    refine zaload_n dX7_lentFaces_5 rfl ?_
    refine gf_X7_37 (t := t) ht rfl dX7_lentFaces_6 ?_
    rw [hT.1]
    refine zicmp_ge (tgt := 34) dX7_lentFaces_9 (by decide) (fun h => absurd h (nI_ge (by omega) (by omega))) (fun _ => ?_)
    refine ziload_n dX7_lentFaces_12 rfl ?_
    refine zaload_n dX7_lentFaces_13 rfl ?_
    refine ziload_n dX7_lentFaces_14 rfl ?_
    refine zcVf (ob_town (t := t) ht) gk_X7_87 dX7_lentFaces_15 (c_X7_isLent ht hT (by omega)) rfl (by decide) (Nat.le_of_ble_eq_true rfl) ?_ rfl
    refine zifb_eq (tgt := 25) dX7_lentFaces_18 (by decide) (fun h18 => ?_) (fun h18 => ?_)
    · refine ziconst (v := 0) dX7_lentFaces_25 (by decide) ?_
      refine ziadd dX7_lentFaces_26 ?_
      refine zistore_n dX7_lentFaces_27 (by decide) rfl ?_
      refine ziinc dX7_lentFaces_28 rfl rfl (by decide) rfl ?_
      refine zgoto (tgt := 4) dX7_lentFaces_31 (by decide) ?_
      refine zlvs (lv' := [(0, .ref (zad x (tp t))), (1, .int _), (2, .int (nI (i + 1)))]) ⟨rfl, rfl, by rw [← nI_1]; rfl, trivial⟩ ?_
      exact ih (i + 1) _ (by omega) (by rw [← hr, sF]; simp [bI, kbit, *])
    · refine ziconst (v := 1) dX7_lentFaces_21 (by decide) ?_
      refine zgoto (tgt := 26) dX7_lentFaces_22 (by decide) ?_
      refine ziadd dX7_lentFaces_26 ?_
      refine zistore_n dX7_lentFaces_27 (by decide) rfl ?_
      refine ziinc dX7_lentFaces_28 rfl rfl (by decide) rfl ?_
      refine zgoto (tgt := 4) dX7_lentFaces_31 (by decide) ?_
      refine zlvs (lv' := [(0, .ref (zad x (tp t))), (1, .int _), (2, .int (nI (i + 1)))]) ⟨rfl, rfl, by rw [← nI_1]; rfl, trivial⟩ ?_
      exact ih (i + 1) _ (by omega) (by rw [← hr, sF]; simp [bI, kbit, *])
set_option maxRecDepth 100000 in
set_option maxHeartbeats 4000000 in
theorem c_X7_lentFaces (ht : t < 3) (hT : isT S t n T) : zF x true mX7_lentFaces [.ref (zad x (tp t))] S (some (.int (sF (fun p => bI (decide (0 < T 7 p))) n 0 0))) S := by
  refine zC_of (by decide +kernel) (Nat.le_of_ble_eq_true rfl) ?_
  refine ziconst (v := 0) dX7_lentFaces_0 (by decide) ?_
  refine zistore_n dX7_lentFaces_1 (by decide) rfl ?_
  refine ziconst (v := 0) dX7_lentFaces_2 (by decide) ?_
  refine zistore_n dX7_lentFaces_3 (by decide) rfl ?_
  refine zlvs (lv' := [(0, .ref (zad x (tp t))), (1, .int 0), (2, .int (nI 0))]) ⟨rfl, rfl, rfl, trivial⟩ ?_
  exact l_X7_lentFaces ht hT _ n 0 0 (by omega) rfl
set_option maxRecDepth 100000 in
set_option maxHeartbeats 4000000 in
theorem l_X7_wearersOfOthers (ht : t < 3) (hT : isT S t n T) (r : Int32) : ∀ (k i : Nat) (a : Int32), i + k = n → sF (fun p => bI (decide (¬ T 4 p = 9 ∧ ¬ T 4 p = nI p))) k i a = r → zZ x true mX7_wearersOfOthers (fun q T => q = some (.int r) ∧ T = S) 4 [(0, .ref (zad x (tp t))), (1, .int a), (2, .int (nI i))] [] S := by
  have hn8 := hT.2.1
  intro k
  induction k with
  | zero =>
    intro i a hi hr
    refine ziload_n dX7_wearersOfOthers_4 rfl ?_
    refine zaload_n dX7_wearersOfOthers_5 rfl ?_
    refine gf_X7_37 (t := t) ht rfl dX7_wearersOfOthers_6 ?_
    rw [hT.1]
    refine zicmp_ge (tgt := 45) dX7_wearersOfOthers_9 (by decide) (fun _ => ?_) (fun h => absurd (nI_le (by omega) (by omega)) h)
    refine ziload_n dX7_wearersOfOthers_45 rfl ?_
    exact zireturn dX7_wearersOfOthers_46 rfl rfl ⟨congrArg (fun q => some (Value.int q)) hr, rfl⟩
  | succ k ih =>
    intro i a hi hr
    refine ziload_n dX7_wearersOfOthers_4 rfl ?_
    refine zaload_n dX7_wearersOfOthers_5 rfl ?_
    refine gf_X7_37 (t := t) ht rfl dX7_wearersOfOthers_6 ?_
    rw [hT.1]
    refine zicmp_ge (tgt := 45) dX7_wearersOfOthers_9 (by decide) (fun h => absurd h (nI_ge (by omega) (by omega))) (fun _ => ?_)
    refine ziload_n dX7_wearersOfOthers_12 rfl ?_
    refine zaload_n dX7_wearersOfOthers_13 rfl ?_
    refine gf_X7_25 (t := t) ht rfl dX7_wearersOfOthers_14 ?_
    refine ziload_n dX7_wearersOfOthers_17 rfl ?_
    refine zialT (t := t) (w := 4) dX7_wearersOfOthers_18 ht hT (by decide) (by decide) (by omega) ?_
    refine zbipush (v := 9) dX7_wearersOfOthers_19 (by decide) ?_
    refine zicmp_eq (tgt := 36) dX7_wearersOfOthers_21 (by decide) (fun h21 => ?_) (fun h21 => ?_)
    · refine ziconst (v := 0) dX7_wearersOfOthers_36 (by decide) ?_
      refine ziadd dX7_wearersOfOthers_37 ?_
      refine zistore_n dX7_wearersOfOthers_38 (by decide) rfl ?_
      refine ziinc dX7_wearersOfOthers_39 rfl rfl (by decide) rfl ?_
      refine zgoto (tgt := 4) dX7_wearersOfOthers_42 (by decide) ?_
      refine zlvs (lv' := [(0, .ref (zad x (tp t))), (1, .int _), (2, .int (nI (i + 1)))]) ⟨rfl, rfl, by rw [← nI_1]; rfl, trivial⟩ ?_
      exact ih (i + 1) _ (by omega) (by rw [← hr, sF]; simp [bI, kbit, *])
    · refine zaload_n dX7_wearersOfOthers_24 rfl ?_
      refine ziload_n dX7_wearersOfOthers_25 rfl ?_
      refine zcVf (ob_town (t := t) ht) gk_X7_44 dX7_wearersOfOthers_26 (c_X7_wearsOwn ht hT (by omega)) rfl (by decide) (Nat.le_of_ble_eq_true rfl) ?_ rfl
      refine zifb_ne (tgt := 36) dX7_wearersOfOthers_29 (by decide) (fun h29 => ?_) (fun h29 => ?_)
      · refine ziconst (v := 0) dX7_wearersOfOthers_36 (by decide) ?_
        refine ziadd dX7_wearersOfOthers_37 ?_
        refine zistore_n dX7_wearersOfOthers_38 (by decide) rfl ?_
        refine ziinc dX7_wearersOfOthers_39 rfl rfl (by decide) rfl ?_
        refine zgoto (tgt := 4) dX7_wearersOfOthers_42 (by decide) ?_
        refine zlvs (lv' := [(0, .ref (zad x (tp t))), (1, .int _), (2, .int (nI (i + 1)))]) ⟨rfl, rfl, by rw [← nI_1]; rfl, trivial⟩ ?_
        exact ih (i + 1) _ (by omega) (by rw [← hr, sF]; simp [bI, kbit, *])
      · refine ziconst (v := 1) dX7_wearersOfOthers_32 (by decide) ?_
        refine zgoto (tgt := 37) dX7_wearersOfOthers_33 (by decide) ?_
        refine ziadd dX7_wearersOfOthers_37 ?_
        refine zistore_n dX7_wearersOfOthers_38 (by decide) rfl ?_
        refine ziinc dX7_wearersOfOthers_39 rfl rfl (by decide) rfl ?_
        refine zgoto (tgt := 4) dX7_wearersOfOthers_42 (by decide) ?_
        refine zlvs (lv' := [(0, .ref (zad x (tp t))), (1, .int _), (2, .int (nI (i + 1)))]) ⟨rfl, rfl, by rw [← nI_1]; rfl, trivial⟩ ?_
        exact ih (i + 1) _ (by omega) (by rw [← hr, sF]; simp [bI, kbit, *])
set_option maxRecDepth 100000 in
set_option maxHeartbeats 4000000 in
theorem c_X7_wearersOfOthers (ht : t < 3) (hT : isT S t n T) : zF x true mX7_wearersOfOthers [.ref (zad x (tp t))] S (some (.int (sF (fun p => bI (decide (¬ T 4 p = 9 ∧ ¬ T 4 p = nI p))) n 0 0))) S := by
  refine zC_of (by decide +kernel) (Nat.le_of_ble_eq_true rfl) ?_
  refine ziconst (v := 0) dX7_wearersOfOthers_0 (by decide) ?_
  refine zistore_n dX7_wearersOfOthers_1 (by decide) rfl ?_
  refine ziconst (v := 0) dX7_wearersOfOthers_2 (by decide) ?_
  refine zistore_n dX7_wearersOfOthers_3 (by decide) rfl ?_
  refine zlvs (lv' := [(0, .ref (zad x (tp t))), (1, .int 0), (2, .int (nI 0))]) ⟨rfl, rfl, rfl, trivial⟩ ?_
  exact l_X7_wearersOfOthers ht hT _ n 0 0 (by omega) rfl
set_option maxRecDepth 100000 in
set_option maxHeartbeats 4000000 in
theorem l_X7_plainWearers (ht : t < 3) (hT : isT S t n T) (r : Int32) : ∀ (k i : Nat) (a : Int32), i + k = n → oF (fun p => if T 4 p = 9 then 1 <<< (nI p &&& 31) else 0) k i a = r → zZ x true mX7_plainWearers (fun q T => q = some (.int r) ∧ T = S) 4 [(0, .ref (zad x (tp t))), (1, .int a), (2, .int (nI i))] [] S := by
  have hn8 := hT.2.1
  intro k
  induction k with
  | zero =>
    intro i a hi hr
    refine ziload_n dX7_plainWearers_4 rfl ?_
    refine zaload_n dX7_plainWearers_5 rfl ?_
    refine gf_X7_37 (t := t) ht rfl dX7_plainWearers_6 ?_
    rw [hT.1]
    refine zicmp_ge (tgt := 39) dX7_plainWearers_9 (by decide) (fun _ => ?_) (fun h => absurd (nI_le (by omega) (by omega)) h)
    refine ziload_n dX7_plainWearers_39 rfl ?_
    exact zireturn dX7_plainWearers_40 rfl rfl ⟨congrArg (fun q => some (Value.int q)) hr, rfl⟩
  | succ k ih =>
    intro i a hi hr
    refine ziload_n dX7_plainWearers_4 rfl ?_
    refine zaload_n dX7_plainWearers_5 rfl ?_
    refine gf_X7_37 (t := t) ht rfl dX7_plainWearers_6 ?_
    rw [hT.1]
    refine zicmp_ge (tgt := 39) dX7_plainWearers_9 (by decide) (fun h => absurd h (nI_ge (by omega) (by omega))) (fun _ => ?_)
    refine ziload_n dX7_plainWearers_12 rfl ?_
    refine zaload_n dX7_plainWearers_13 rfl ?_
    refine gf_X7_25 (t := t) ht rfl dX7_plainWearers_14 ?_
    refine ziload_n dX7_plainWearers_17 rfl ?_
    refine zialT (t := t) (w := 4) dX7_plainWearers_18 ht hT (by decide) (by decide) (by omega) ?_
    refine zbipush (v := 9) dX7_plainWearers_19 (by decide) ?_
    refine zicmp_ne (tgt := 30) dX7_plainWearers_21 (by decide) (fun h21 => ?_) (fun h21 => ?_)
    · refine ziconst (v := 0) dX7_plainWearers_30 (by decide) ?_
      refine zior dX7_plainWearers_31 ?_
      refine zistore_n dX7_plainWearers_32 (by decide) rfl ?_
      refine ziinc dX7_plainWearers_33 rfl rfl (by decide) rfl ?_
      refine zgoto (tgt := 4) dX7_plainWearers_36 (by decide) ?_
      refine zlvs (lv' := [(0, .ref (zad x (tp t))), (1, .int _), (2, .int (nI (i + 1)))]) ⟨rfl, rfl, by rw [← nI_1]; rfl, trivial⟩ ?_
      exact ih (i + 1) _ (by omega) (by rw [← hr, oF]; simp [bI, kbit, *])
    · refine ziconst (v := 1) dX7_plainWearers_24 (by decide) ?_
      refine ziload_n dX7_plainWearers_25 rfl ?_
      refine zishl dX7_plainWearers_26 ?_
      refine zgoto (tgt := 31) dX7_plainWearers_27 (by decide) ?_
      refine zior dX7_plainWearers_31 ?_
      refine zistore_n dX7_plainWearers_32 (by decide) rfl ?_
      refine ziinc dX7_plainWearers_33 rfl rfl (by decide) rfl ?_
      refine zgoto (tgt := 4) dX7_plainWearers_36 (by decide) ?_
      refine zlvs (lv' := [(0, .ref (zad x (tp t))), (1, .int _), (2, .int (nI (i + 1)))]) ⟨rfl, rfl, by rw [← nI_1]; rfl, trivial⟩ ?_
      exact ih (i + 1) _ (by omega) (by rw [← hr, oF]; simp [bI, kbit, *])
set_option maxRecDepth 100000 in
set_option maxHeartbeats 4000000 in
theorem c_X7_plainWearers (ht : t < 3) (hT : isT S t n T) : zF x true mX7_plainWearers [.ref (zad x (tp t))] S (some (.int (oF (fun p => if T 4 p = 9 then 1 <<< (nI p &&& 31) else 0) n 0 0))) S := by
  refine zC_of (by decide +kernel) (Nat.le_of_ble_eq_true rfl) ?_
  refine ziconst (v := 0) dX7_plainWearers_0 (by decide) ?_
  refine zistore_n dX7_plainWearers_1 (by decide) rfl ?_
  refine ziconst (v := 0) dX7_plainWearers_2 (by decide) ?_
  refine zistore_n dX7_plainWearers_3 (by decide) rfl ?_
  refine zlvs (lv' := [(0, .ref (zad x (tp t))), (1, .int 0), (2, .int (nI 0))]) ⟨rfl, rfl, rfl, trivial⟩ ?_
  exact l_X7_plainWearers ht hT _ n 0 0 (by omega) rfl
set_option maxRecDepth 100000 in
set_option maxHeartbeats 4000000 in
theorem l_X7_facesSeen (ht : t < 3) (hT : isT S t n T) (r : Int32) : ∀ (k i : Nat) (a : Int32), i + k = n → oF (fun p => if T 4 p = 9 then 0 else 1 <<< (T 4 p &&& 31)) k i a = r → zZ x true mX7_facesSeen (fun q T => q = some (.int r) ∧ T = S) 4 [(0, .ref (zad x (tp t))), (1, .int a), (2, .int (nI i))] [] S := by
  have hn8 := hT.2.1
  intro k
  induction k with
  | zero =>
    intro i a hi hr
    refine ziload_n dX7_facesSeen_4 rfl ?_
    refine zaload_n dX7_facesSeen_5 rfl ?_
    refine gf_X7_37 (t := t) ht rfl dX7_facesSeen_6 ?_
    rw [hT.1]
    refine zicmp_ge (tgt := 44) dX7_facesSeen_9 (by decide) (fun _ => ?_) (fun h => absurd (nI_le (by omega) (by omega)) h)
    refine ziload_n dX7_facesSeen_44 rfl ?_
    exact zireturn dX7_facesSeen_45 rfl rfl ⟨congrArg (fun q => some (Value.int q)) hr, rfl⟩
  | succ k ih =>
    intro i a hi hr
    refine ziload_n dX7_facesSeen_4 rfl ?_
    refine zaload_n dX7_facesSeen_5 rfl ?_
    refine gf_X7_37 (t := t) ht rfl dX7_facesSeen_6 ?_
    rw [hT.1]
    refine zicmp_ge (tgt := 44) dX7_facesSeen_9 (by decide) (fun h => absurd h (nI_ge (by omega) (by omega))) (fun _ => ?_)
    refine ziload_n dX7_facesSeen_12 rfl ?_
    refine zaload_n dX7_facesSeen_13 rfl ?_
    refine gf_X7_25 (t := t) ht rfl dX7_facesSeen_14 ?_
    refine ziload_n dX7_facesSeen_17 rfl ?_
    refine zialT (t := t) (w := 4) dX7_facesSeen_18 ht hT (by decide) (by decide) (by omega) ?_
    refine zbipush (v := 9) dX7_facesSeen_19 (by decide) ?_
    refine zicmp_eq (tgt := 35) dX7_facesSeen_21 (by decide) (fun h21 => ?_) (fun h21 => ?_)
    · refine ziconst (v := 0) dX7_facesSeen_35 (by decide) ?_
      refine zior dX7_facesSeen_36 ?_
      refine zistore_n dX7_facesSeen_37 (by decide) rfl ?_
      refine ziinc dX7_facesSeen_38 rfl rfl (by decide) rfl ?_
      refine zgoto (tgt := 4) dX7_facesSeen_41 (by decide) ?_
      refine zlvs (lv' := [(0, .ref (zad x (tp t))), (1, .int _), (2, .int (nI (i + 1)))]) ⟨rfl, rfl, by rw [← nI_1]; rfl, trivial⟩ ?_
      exact ih (i + 1) _ (by omega) (by rw [← hr, oF]; simp [bI, kbit, *])
    · refine ziconst (v := 1) dX7_facesSeen_24 (by decide) ?_
      refine zaload_n dX7_facesSeen_25 rfl ?_
      refine gf_X7_25 (t := t) ht rfl dX7_facesSeen_26 ?_
      refine ziload_n dX7_facesSeen_29 rfl ?_
      refine zialT (t := t) (w := 4) dX7_facesSeen_30 ht hT (by decide) (by decide) (by omega) ?_
      refine zishl dX7_facesSeen_31 ?_
      refine zgoto (tgt := 36) dX7_facesSeen_32 (by decide) ?_
      refine zior dX7_facesSeen_36 ?_
      refine zistore_n dX7_facesSeen_37 (by decide) rfl ?_
      refine ziinc dX7_facesSeen_38 rfl rfl (by decide) rfl ?_
      refine zgoto (tgt := 4) dX7_facesSeen_41 (by decide) ?_
      refine zlvs (lv' := [(0, .ref (zad x (tp t))), (1, .int _), (2, .int (nI (i + 1)))]) ⟨rfl, rfl, by rw [← nI_1]; rfl, trivial⟩ ?_
      exact ih (i + 1) _ (by omega) (by rw [← hr, oF]; simp [bI, kbit, *])
set_option maxRecDepth 100000 in
set_option maxHeartbeats 4000000 in
theorem c_X7_facesSeen (ht : t < 3) (hT : isT S t n T) : zF x true mX7_facesSeen [.ref (zad x (tp t))] S (some (.int (oF (fun p => if T 4 p = 9 then 0 else 1 <<< (T 4 p &&& 31)) n 0 0))) S := by
  refine zC_of (by decide +kernel) (Nat.le_of_ble_eq_true rfl) ?_
  refine ziconst (v := 0) dX7_facesSeen_0 (by decide) ?_
  refine zistore_n dX7_facesSeen_1 (by decide) rfl ?_
  refine ziconst (v := 0) dX7_facesSeen_2 (by decide) ?_
  refine zistore_n dX7_facesSeen_3 (by decide) rfl ?_
  refine zlvs (lv' := [(0, .ref (zad x (tp t))), (1, .int 0), (2, .int (nI 0))]) ⟨rfl, rfl, rfl, trivial⟩ ?_
  exact l_X7_facesSeen ht hT _ n 0 0 (by omega) rfl
end TOWN
