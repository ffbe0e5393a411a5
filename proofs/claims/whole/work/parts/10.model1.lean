/-! The reference: its rows -/
/-- the row k holds the town T of n people -/
def isM (S : zSt) (k n : Nat) (T : Nat → Nat → Int32) : Prop := S.1 k 0 = nI n ∧ n ≤ 8 ∧ ∀ w p, 0 < w → w < 8 → p < n → S.1 k (7 * p + w + 1) = T w p
theorem zialM {x : zCx} {M : zM} {post : Option Value → zSt → Prop} {pc : Nat} {lv : List (Nat × Value)} {st : List Value} {S : zSt} {k n j w p : Nat} {T : Nat → Nat → Int32} (d : decode M.2.1 pc = .ok (.iaload, 1)) (hk : 0 < k ∧ k < 6) (hM : isM S k n T) (hw : j + 1 = w) (hj : j < 7) (hp : p < n) (kk : zZ x false M post (pc + 1) lv (.int (T w p) :: st) S) : zZ x false M post pc lv (.int (nI (7 * p + j + 2)) :: .ref (zad x k) :: st) S := by
  have := hM.2.1
  refine ziald d (mrk hk.2) (mrl hk.1 hk.2) (by decide) (by omega) ?_
  subst hw
  rw [show 7 * p + j + 2 = 7 * p + (j + 1) + 1 by omega, hM.2.2 (j + 1) p (by omega) (by omega) hp]
  exact kk
theorem and1 (v : Int32) : v &&& 1 = 0 ∨ v &&& 1 = 1 := by
  have h : (v &&& 1).toBitVec.toNat = v.toBitVec.toNat % 2 := by
    rw [Int32.toBitVec_and, BitVec.toNat_and]; exact Nat.and_one_is_mod _
  rcases Nat.mod_two_eq_zero_or_one v.toBitVec.toNat with e | e
  · left; apply Int32.toBitVec_inj.mp; apply BitVec.eq_of_toNat_eq; rw [h, e]; rfl
  · right; apply Int32.toBitVec_inj.mp; apply BitVec.eq_of_toNat_eq; rw [h, e]; rfl
theorem kbit_b (T : Nat → Nat → Int32) (f : Int32) (p : Nat) : bI (decide (kbit T f p = 1)) = kbit T f p := by
  unfold kbit
  rcases and1 (T 3 p >>> (f &&& 31)) with h | h <;> rw [h] <;> rfl
theorem sF_congr {g g' : Nat → Int32} : ∀ (k i : Nat) (a : Int32), (∀ j, i ≤ j → j < i + k → g j = g' j) → sF g k i a = sF g' k i a := by
  intro k
  induction k with
  | zero => intro i a _; rfl
  | succ k ih => intro i a h; unfold sF; rw [h i (Nat.le_refl i) (by omega)]; exact ih (i + 1) _ (fun j h1 h2 => h j (by omega) (by omega))
section MODEL
variable {x : zCx} {S : zSt} {k n : Nat} {T : Nat → Nat → Int32}
theorem isM_put {j w p : Nat} {v : Int32} (hM : isM S k n T) (hw : j + 1 = w) (hj : j < 7) : isM (u2 S.1 k (7 * p + j + 2) v, S.2) k n (u2 T w p v) := by
  subst hw
  refine ⟨by show u2 S.1 k _ v k 0 = _; rw [u2_ne (by omega)]; exact hM.1, hM.2.1, fun w' p' h0 hw hp => ?_⟩
  show u2 S.1 k _ v k (7 * p' + w' + 1) = u2 T (j + 1) p v w' p'
  by_cases e : w' = j + 1 ∧ p' = p
  · obtain ⟨rfl, rfl⟩ := e
    rw [u2_self, show 7 * p' + j + 2 = 7 * p' + (j + 1) + 1 by omega, u2_self]
  · rw [u2_ne e, u2_ne (by omega)]
    exact hM.2.2 w' p' h0 hw hp
theorem isM_other {k' i : Nat} {v : Int32} (hM : isM S k n T) (h : ¬ k = k') : isM (u2 S.1 k' i v, S.2) k n T := by
  refine ⟨by show u2 S.1 k' i v k 0 = _; rw [u2_w h]; exact hM.1, hM.2.1, fun w p h0 hw hp => ?_⟩
  show u2 S.1 k' i v k _ = _
  rw [u2_w h]; exact hM.2.2 w p h0 hw hp
theorem isM_month {v : Int32} (hM : isM S k n T) : isM (u2 S.1 k 1 v, S.2) k n T := by
  refine ⟨by show u2 S.1 k 1 v k 0 = _; rw [u2_ne (by omega)]; exact hM.1, hM.2.1, fun w p h0 hw hp => ?_⟩
  show u2 S.1 k 1 v k _ = _
  rw [u2_ne (by omega)]; exact hM.2.2 w p h0 hw hp
theorem isM_eq {T' : Nat → Nat → Int32} (hM : isM S k n T) (h : ∀ w p, p < n → T w p = T' w p) : isM S k n T' := ⟨hM.1, hM.2.1, fun w p h0 hw hp => by rw [hM.2.2 w p h0 hw hp, h w p hp]⟩
/-- the other rows are as they were, and all fields -/
def frM (k : Nat) (S S' : zSt) : Prop := (∀ k', ¬ k' = k → S'.1 k' = S.1 k') ∧ S'.2 = S.2
theorem frM.rf : frM k S S := ⟨fun _ _ => rfl, rfl⟩
theorem frM.trans {S1 S2 S3 : zSt} (h : frM k S1 S2) (h' : frM k S2 S3) : frM k S1 S3 := ⟨fun j hj => (h'.1 j hj).trans (h.1 j hj), h'.2.trans h.2⟩
theorem frM.put {i : Nat} {v : Int32} {S0 : zSt} (h : frM k S0 S) : frM k S0 (u2 S.1 k i v, S.2) := by
  refine ⟨fun j hj => ?_, h.2⟩
  rw [← h.1 j hj]
  funext q
  exact u2_w hj
theorem isM_frM {k' : Nat} {S' : zSt} (hM : isM S k' n T) (h : frM k S S') (hne : ¬ k' = k) : isM S' k' n T := by
  refine ⟨by rw [h.1 k' hne]; exact hM.1, hM.2.1, fun w p h0 hw hp => by rw [h.1 k' hne]; exact hM.2.2 w p h0 hw hp⟩

set_option maxRecDepth 100000 in
set_option maxHeartbeats 4000000 in
theorem c_X9_isIn {u v q : Int32} : zF x false mX9_isIn [.int u, .int v, .int q] S (some (.int (bI (decide (v ≤ u ∧ u ≤ q))))) S := by
  refine zC_of (by decide +kernel) (Nat.le_of_ble_eq_true rfl) ?_
  refine ziload_n dX9_isIn_0 rfl ?_
  refine ziload_n dX9_isIn_1 rfl ?_
  refine zicmp_lt (tgt := 14) dX9_isIn_2 (by decide) (fun h2 => ?_) (fun h2 => ?_)
  · refine ziconst (v := 0) dX9_isIn_14 (by decide) ?_
    exact zbret (q := false) dX9_isIn_15 rfl rfl ⟨congrArg (fun q => some (Value.int (bI q))) (by simp; first | exact ⟨Int32.not_lt.mp h2, Int32.not_lt.mp h7⟩ | exact fun z => absurd z (Int32.not_le.mpr h2) | exact fun _ => h7), rfl⟩
  · refine ziload_n dX9_isIn_5 rfl ?_
    refine ziload_n dX9_isIn_6 rfl ?_
    refine zicmp_gt (tgt := 14) dX9_isIn_7 (by decide) (fun h7 => ?_) (fun h7 => ?_)
    · refine ziconst (v := 0) dX9_isIn_14 (by decide) ?_
      exact zbret (q := false) dX9_isIn_15 rfl rfl ⟨congrArg (fun q => some (Value.int (bI q))) (by simp; first | exact ⟨Int32.not_lt.mp h2, Int32.not_lt.mp h7⟩ | exact fun z => absurd z (Int32.not_le.mpr h2) | exact fun _ => h7), rfl⟩
    · refine ziconst (v := 1) dX9_isIn_10 (by decide) ?_
      refine zgoto (tgt := 15) dX9_isIn_11 (by decide) ?_
      exact zbret (q := true) dX9_isIn_15 rfl rfl ⟨congrArg (fun q => some (Value.int (bI q))) (by simp; first | exact ⟨Int32.not_lt.mp h2, Int32.not_lt.mp h7⟩ | exact fun z => absurd z (Int32.not_le.mpr h2) | exact fun _ => h7), rfl⟩
set_option maxRecDepth 100000 in
set_option maxHeartbeats 4000000 in
theorem c_X9_held {v : Int32} : zF x false mX9_held [.int v] S (some (.int (held v))) S := by
  refine zC_of (by decide +kernel) (Nat.le_of_ble_eq_true rfl) ?_
  refine ziload_n dX9_held_0 rfl ?_
  refine zif_ge (tgt := 8) dX9_held_1 (by decide) (fun h1 => ?_) (fun h1 => ?_)
  · refine ziload_n dX9_held_8 rfl ?_
    refine zbipush (v := 99) dX9_held_9 (by decide) ?_
    refine zicmp_le (tgt := 19) dX9_held_11 (by decide) (fun h11 => ?_) (fun h11 => ?_)
    · refine ziload_n dX9_held_19 rfl ?_
      exact zireturn dX9_held_20 rfl rfl ⟨congrArg (fun q => some (Value.int q)) (by unfold held; first | rw [if_pos (Int32.not_le.mp h1)] | rw [if_neg (Int32.not_lt.mpr h1), if_pos (Int32.not_le.mp h11)] | rw [if_neg (Int32.not_lt.mpr h1), if_neg (Int32.not_lt.mpr h11)]), rfl⟩
    · refine zbipush (v := 99) dX9_held_14 (by decide) ?_
      refine zgoto (tgt := 20) dX9_held_16 (by decide) ?_
      exact zireturn dX9_held_20 rfl rfl ⟨congrArg (fun q => some (Value.int q)) (by unfold held; first | rw [if_pos (Int32.not_le.mp h1)] | rw [if_neg (Int32.not_lt.mpr h1), if_pos (Int32.not_le.mp h11)] | rw [if_neg (Int32.not_lt.mpr h1), if_neg (Int32.not_lt.mpr h11)]), rfl⟩
  · refine ziconst (v := 0) dX9_held_4 (by decide) ?_
    refine zgoto (tgt := 20) dX9_held_5 (by decide) ?_
    exact zireturn dX9_held_20 rfl rfl ⟨congrArg (fun q => some (Value.int q)) (by unfold held; first | rw [if_pos (Int32.not_le.mp h1)] | rw [if_neg (Int32.not_lt.mpr h1), if_pos (Int32.not_le.mp h11)] | rw [if_neg (Int32.not_lt.mpr h1), if_neg (Int32.not_lt.mpr h11)]), rfl⟩
set_option maxRecDepth 100000 in
set_option maxHeartbeats 4000000 in
theorem c_X9_of {p j : Nat} : zF x false mX9_of [.int (nI p), .int (nI j)] S (some (.int (nI (7 * p + j + 2)))) S := by
  refine zC_of (by decide +kernel) (Nat.le_of_ble_eq_true rfl) ?_
  refine ziconst (v := 2) dX9_of_0 (by decide) ?_
  refine zbipush (v := 7) dX9_of_1 (by decide) ?_
  refine ziload_n dX9_of_3 rfl ?_
  refine zimul dX9_of_4 ?_
  refine ziadd dX9_of_5 ?_
  refine ziload_n dX9_of_6 rfl ?_
  refine ziadd dX9_of_7 ?_
  exact zireturn dX9_of_8 rfl rfl ⟨congrArg (fun q => some (Value.int q)) (by show nI 2 + nI 7 * nI p + nI j = _; unfold nI; rw [← Int32.ofNat_mul, ← Int32.ofNat_add, ← Int32.ofNat_add]; congr 1; omega), rfl⟩
set_option maxRecDepth 100000 in
set_option maxHeartbeats 4000000 in
theorem c_X9_has {u v : Int32} : zF x false mX9_has [.int u, .int v] S (some (.int (bI (decide ((u >>> (v &&& 31)) &&& 1 = 1))))) S := by
  refine zC_of (by decide +kernel) (Nat.le_of_ble_eq_true rfl) ?_
  refine ziload_n dX9_has_0 rfl ?_
  refine ziload_n dX9_has_1 rfl ?_
  refine zishr dX9_has_2 ?_
  refine ziconst (v := 1) dX9_has_3 (by decide) ?_
  refine ziand dX9_has_4 ?_
  refine ziconst (v := 1) dX9_has_5 (by decide) ?_
  refine zicmp_ne (tgt := 13) dX9_has_6 (by decide) (fun h6 => ?_) (fun h6 => ?_)
  · refine ziconst (v := 0) dX9_has_13 (by decide) ?_
    exact zbret (q := false) dX9_has_14 rfl rfl ⟨congrArg (fun q => some (Value.int (bI q))) (by simp [*]), rfl⟩
  · refine ziconst (v := 1) dX9_has_9 (by decide) ?_
    refine zgoto (tgt := 14) dX9_has_10 (by decide) ?_
    exact zbret (q := true) dX9_has_14 rfl rfl ⟨congrArg (fun q => some (Value.int (bI q))) (by simp [*]), rfl⟩
set_option maxRecDepth 100000 in
set_option maxHeartbeats 4000000 in
theorem c_X9_wearsOwn (hk : 0 < k ∧ k < 6) (hM : isM S k n T) {p : Nat} (hp : p < n) : zF x false mX9_wearsOwn [.ref (zad x k), .int (nI p)] S (some (.int (bI (decide (T 4 p = nI p))))) S := by
  have hn8 := hM.2.1
  refine zC_of (by decide +kernel) (Nat.le_of_ble_eq_true rfl) ?_
  refine zaload_n dX9_wearsOwn_0 rfl ?_
  refine ziload_n dX9_wearsOwn_1 rfl ?_
  refine ziconst (v := nI 3) dX9_wearsOwn_2 (by decide) ?_
  refine zcSf gk_X9_52 dX9_wearsOwn_3 (c_X9_of (j := 3)) rfl (by decide) (Nat.le_of_ble_eq_true rfl) ?_ rfl
  refine zialM (k := k) (j := 3) (w := 4) dX9_wearsOwn_6 hk hM rfl (by decide) (by omega) ?_
  refine ziload_n dX9_wearsOwn_7 rfl ?_
  refine zicmp_ne (tgt := 15) dX9_wearsOwn_8 (by decide) (fun h8 => ?_) (fun h8 => ?_)
  · refine ziconst (v := 0) dX9_wearsOwn_15 (by decide) ?_
    exact zbret (q := false) dX9_wearsOwn_16 rfl rfl ⟨congrArg (fun q => some (Value.int (bI q))) (by simp [*]), rfl⟩
  · refine ziconst (v := 1) dX9_wearsOwn_11 (by decide) ?_
    refine zgoto (tgt := 16) dX9_wearsOwn_12 (by decide) ?_
    exact zbret (q := true) dX9_wearsOwn_16 rfl rfl ⟨congrArg (fun q => some (Value.int (bI q))) (by simp [*]), rfl⟩
set_option maxRecDepth 100000 in
set_option maxHeartbeats 4000000 in
theorem c_X9_canLend (hk : 0 < k ∧ k < 6) (hM : isM S k n T) {p q : Nat} (hp : p < n) (hq : q < n) : zF x false mX9_canLend [.ref (zad x k), .int (nI p), .int (nI q)] S (some (.int (bI (decide (¬ p = q ∧ T 4 p = nI p ∧ T 4 q = nI q))))) S := by
  have hn8 := hM.2.1
  refine zC_of (by decide +kernel) (Nat.le_of_ble_eq_true rfl) ?_
  refine ziload_n dX9_canLend_0 rfl ?_
  refine ziload_n dX9_canLend_1 rfl ?_
  refine zicmp_eq (tgt := 25) dX9_canLend_2 (by decide) (fun h2 => ?_) (fun h2 => ?_)
  · refine ziconst (v := 0) dX9_canLend_25 (by decide) ?_
    exact zbret (q := false) dX9_canLend_26 rfl rfl ⟨congrArg (fun q => some (Value.int (bI q))) (by rw [nI_eq (by omega) (by omega)] at h2; simp_all), rfl⟩
  · refine zaload_n dX9_canLend_5 rfl ?_
    refine ziload_n dX9_canLend_6 rfl ?_
    refine zcSf  gk_X9_64 dX9_canLend_7 (c_X9_wearsOwn hk hM (by omega)) rfl (by decide) (Nat.le_of_ble_eq_true rfl) ?_ rfl
    refine zifb_eq (tgt := 25) dX9_canLend_10 (by decide) (fun h10 => ?_) (fun h10 => ?_)
    · refine ziconst (v := 0) dX9_canLend_25 (by decide) ?_
      exact zbret (q := false) dX9_canLend_26 rfl rfl ⟨congrArg (fun q => some (Value.int (bI q))) (by rw [nI_eq (by omega) (by omega)] at h2; simp_all), rfl⟩
    · refine zaload_n dX9_canLend_13 rfl ?_
      refine ziload_n dX9_canLend_14 rfl ?_
      refine zcSf  gk_X9_64 dX9_canLend_15 (c_X9_wearsOwn hk hM (by omega)) rfl (by decide) (Nat.le_of_ble_eq_true rfl) ?_ rfl
      refine zifb_eq (tgt := 25) dX9_canLend_18 (by decide) (fun h18 => ?_) (fun h18 => ?_)
      · refine ziconst (v := 0) dX9_canLend_25 (by decide) ?_
        exact zbret (q := false) dX9_canLend_26 rfl rfl ⟨congrArg (fun q => some (Value.int (bI q))) (by rw [nI_eq (by omega) (by omega)] at h2; simp_all), rfl⟩
      · refine ziconst (v := 1) dX9_canLend_21 (by decide) ?_
        refine zgoto (tgt := 26) dX9_canLend_22 (by decide) ?_
        exact zbret (q := true) dX9_canLend_26 rfl rfl ⟨congrArg (fun q => some (Value.int (bI q))) (by rw [nI_eq (by omega) (by omega)] at h2; simp_all), rfl⟩
set_option maxRecDepth 100000 in
set_option maxHeartbeats 4000000 in
theorem c_X9_worthIn (hk : 0 < k ∧ k < 6) (hM : isM S k n T) {p : Nat} (hp : p < n) : zF x false mX9_worthIn [.ref (zad x k), .int (nI p)] S (some (.int (T 5 p - T 6 p))) S := by
  have hn8 := hM.2.1
  refine zC_of (by decide +kernel) (Nat.le_of_ble_eq_true rfl) ?_
  refine zaload_n dX9_worthIn_0 rfl ?_
  refine ziload_n dX9_worthIn_1 rfl ?_
  refine ziconst (v := nI 4) dX9_worthIn_2 (by decide) ?_
  refine zcSf gk_X9_52 dX9_worthIn_3 (c_X9_of (j := 4)) rfl (by decide) (Nat.le_of_ble_eq_true rfl) ?_ rfl
  refine zialM (k := k) (j := 4) (w := 5) dX9_worthIn_6 hk hM rfl (by decide) (by omega) ?_
  refine zaload_n dX9_worthIn_7 rfl ?_
  refine ziload_n dX9_worthIn_8 rfl ?_
  refine ziconst (v := nI 5) dX9_worthIn_9 (by decide) ?_
  refine zcSf gk_X9_52 dX9_worthIn_10 (c_X9_of (j := 5)) rfl (by decide) (Nat.le_of_ble_eq_true rfl) ?_ rfl
  refine zialM (k := k) (j := 5) (w := 6) dX9_worthIn_13 hk hM rfl (by decide) (by omega) ?_
  refine zisub dX9_worthIn_14 ?_
  exact zireturn dX9_worthIn_15 rfl rfl ⟨rfl, rfl⟩
set_option maxRecDepth 100000 in
set_option maxHeartbeats 4000000 in
theorem c_X9_scarsBy (hk : 0 < k ∧ k < 6) (hM : isM S k n T) {p : Nat} (hp : p < n) : zF x false mX9_scarsBy [.ref (zad x k), .int (nI p)] S (some (.int (sch (T 1 p) (T 2 p)))) S := by
  have hn8 := hM.2.1
  refine zC_of (by decide +kernel) (Nat.le_of_ble_eq_true rfl) ?_
  refine zaload_n dX9_scarsBy_0 rfl ?_
  refine ziload_n dX9_scarsBy_1 rfl ?_
  refine ziconst (v := nI 0) dX9_scarsBy_2 (by decide) ?_
  refine zcSf gk_X9_52 dX9_scarsBy_3 (c_X9_of (j := 0)) rfl (by decide) (Nat.le_of_ble_eq_true rfl) ?_ rfl
  refine zialM (k := k) (j := 0) (w := 1) dX9_scarsBy_6 hk hM rfl (by decide) (by omega) ?_
  refine zistore_n dX9_scarsBy_7 (by decide) rfl ?_
  refine ziload_n dX9_scarsBy_8 rfl ?_
  refine ziconst (v := 2) dX9_scarsBy_9 (by decide) ?_
  refine zicmp_eq (tgt := 34) dX9_scarsBy_10 (by decide) (fun h10 => ?_) (fun h10 => ?_)
  · refine ziconst (v := 1) dX9_scarsBy_34 (by decide) ?_
    refine zgoto (tgt := 39) dX9_scarsBy_35 (by decide) ?_
    exact zireturn dX9_scarsBy_39 rfl rfl ⟨congrArg (fun q => some (Value.int q)) (by unfold sch; first | (simp only [*, if_true, if_false, or_true, true_or, or_self, or_false, false_or]; done) | (simp only [*, if_true, if_false, or_true, true_or, or_self, or_false, false_or]; rw [if_pos (Int32.not_le.mp h31)]; done) | (simp only [*, if_true, if_false, or_true, true_or, or_self, or_false, false_or]; rw [if_neg (Int32.not_lt.mpr h31)]; done) | (simp_all; done)), rfl⟩
  · refine ziload_n dX9_scarsBy_13 rfl ?_
    refine ziconst (v := 4) dX9_scarsBy_14 (by decide) ?_
    refine zicmp_eq (tgt := 23) dX9_scarsBy_15 (by decide) (fun h15 => ?_) (fun h15 => ?_)
    · refine zaload_n dX9_scarsBy_23 rfl ?_
      refine ziload_n dX9_scarsBy_24 rfl ?_
      refine ziconst (v := nI 1) dX9_scarsBy_25 (by decide) ?_
      refine zcSf gk_X9_52 dX9_scarsBy_26 (c_X9_of (j := 1)) rfl (by decide) (Nat.le_of_ble_eq_true rfl) ?_ rfl
      refine zialM (k := k) (j := 1) (w := 2) dX9_scarsBy_29 hk hM rfl (by decide) (by omega) ?_
      refine ziconst (v := 5) dX9_scarsBy_30 (by decide) ?_
      refine zicmp_le (tgt := 38) dX9_scarsBy_31 (by decide) (fun h31 => ?_) (fun h31 => ?_)
      · refine ziconst (v := 0) dX9_scarsBy_38 (by decide) ?_
        exact zireturn dX9_scarsBy_39 rfl rfl ⟨congrArg (fun q => some (Value.int q)) (by unfold sch; first | (simp only [*, if_true, if_false, or_true, true_or, or_self, or_false, false_or]; done) | (simp only [*, if_true, if_false, or_true, true_or, or_self, or_false, false_or]; rw [if_pos (Int32.not_le.mp h31)]; done) | (simp only [*, if_true, if_false, or_true, true_or, or_self, or_false, false_or]; rw [if_neg (Int32.not_lt.mpr h31)]; done) | (simp_all; done)), rfl⟩
      · refine ziconst (v := 1) dX9_scarsBy_34 (by decide) ?_
        refine zgoto (tgt := 39) dX9_scarsBy_35 (by decide) ?_
        exact zireturn dX9_scarsBy_39 rfl rfl ⟨congrArg (fun q => some (Value.int q)) (by unfold sch; first | (simp only [*, if_true, if_false, or_true, true_or, or_self, or_false, false_or]; done) | (simp only [*, if_true, if_false, or_true, true_or, or_self, or_false, false_or]; rw [if_pos (Int32.not_le.mp h31)]; done) | (simp only [*, if_true, if_false, or_true, true_or, or_self, or_false, false_or]; rw [if_neg (Int32.not_lt.mpr h31)]; done) | (simp_all; done)), rfl⟩
    · refine ziload_n dX9_scarsBy_18 rfl ?_
      refine ziconst (v := 5) dX9_scarsBy_19 (by decide) ?_
      refine zicmp_ne (tgt := 38) dX9_scarsBy_20 (by decide) (fun h20 => ?_) (fun h20 => ?_)
      · refine ziconst (v := 0) dX9_scarsBy_38 (by decide) ?_
        exact zireturn dX9_scarsBy_39 rfl rfl ⟨congrArg (fun q => some (Value.int q)) (by unfold sch; first | (simp only [*, if_true, if_false, or_true, true_or, or_self, or_false, false_or]; done) | (simp only [*, if_true, if_false, or_true, true_or, or_self, or_false, false_or]; rw [if_pos (Int32.not_le.mp h31)]; done) | (simp only [*, if_true, if_false, or_true, true_or, or_self, or_false, false_or]; rw [if_neg (Int32.not_lt.mpr h31)]; done) | (simp_all; done)), rfl⟩
      · refine zaload_n dX9_scarsBy_23 rfl ?_
        refine ziload_n dX9_scarsBy_24 rfl ?_
        refine ziconst (v := nI 1) dX9_scarsBy_25 (by decide) ?_
        refine zcSf gk_X9_52 dX9_scarsBy_26 (c_X9_of (j := 1)) rfl (by decide) (Nat.le_of_ble_eq_true rfl) ?_ rfl
        refine zialM (k := k) (j := 1) (w := 2) dX9_scarsBy_29 hk hM rfl (by decide) (by omega) ?_
        refine ziconst (v := 5) dX9_scarsBy_30 (by decide) ?_
        refine zicmp_le (tgt := 38) dX9_scarsBy_31 (by decide) (fun h31 => ?_) (fun h31 => ?_)
        · refine ziconst (v := 0) dX9_scarsBy_38 (by decide) ?_
          exact zireturn dX9_scarsBy_39 rfl rfl ⟨congrArg (fun q => some (Value.int q)) (by unfold sch; first | (simp only [*, if_true, if_false, or_true, true_or, or_self, or_false, false_or]; done) | (simp only [*, if_true, if_false, or_true, true_or, or_self, or_false, false_or]; rw [if_pos (Int32.not_le.mp h31)]; done) | (simp only [*, if_true, if_false, or_true, true_or, or_self, or_false, false_or]; rw [if_neg (Int32.not_lt.mpr h31)]; done) | (simp_all; done)), rfl⟩
        · refine ziconst (v := 1) dX9_scarsBy_34 (by decide) ?_
          refine zgoto (tgt := 39) dX9_scarsBy_35 (by decide) ?_
          exact zireturn dX9_scarsBy_39 rfl rfl ⟨congrArg (fun q => some (Value.int q)) (by unfold sch; first | (simp only [*, if_true, if_false, or_true, true_or, or_self, or_false, false_or]; done) | (simp only [*, if_true, if_false, or_true, true_or, or_self, or_false, false_or]; rw [if_pos (Int32.not_le.mp h31)]; done) | (simp only [*, if_true, if_false, or_true, true_or, or_self, or_false, false_or]; rw [if_neg (Int32.not_lt.mpr h31)]; done) | (simp_all; done)), rfl⟩
set_option maxRecDepth 100000 in
set_option maxHeartbeats 4000000 in
theorem c_X9_wrongBy {u v : Int32} : zF x false mX9_wrongBy [.int u, .int v] S (some (.int (if u < 0 then -4 else if v < u then -6 else 0))) S := by
  refine zC_of (by decide +kernel) (Nat.le_of_ble_eq_true rfl) ?_
  refine ziload_n dX9_wrongBy_0 rfl ?_
  refine zif_ge (tgt := 9) dX9_wrongBy_1 (by decide) (fun h1 => ?_) (fun h1 => ?_)
  · refine ziload_n dX9_wrongBy_9 rfl ?_
    refine ziload_n dX9_wrongBy_10 rfl ?_
    refine zicmp_le (tgt := 19) dX9_wrongBy_11 (by decide) (fun h11 => ?_) (fun h11 => ?_)
    · refine ziconst (v := 0) dX9_wrongBy_19 (by decide) ?_
      exact zireturn dX9_wrongBy_20 rfl rfl ⟨congrArg (fun q => some (Value.int q)) (by first | rw [if_pos (Int32.not_le.mp h1)] | rw [if_neg (Int32.not_lt.mpr h1), if_pos (Int32.not_le.mp h11)] | rw [if_neg (Int32.not_lt.mpr h1), if_neg (Int32.not_lt.mpr h11)]), rfl⟩
    · refine zbipush (v := -6) dX9_wrongBy_14 (by decide) ?_
      refine zgoto (tgt := 20) dX9_wrongBy_16 (by decide) ?_
      exact zireturn dX9_wrongBy_20 rfl rfl ⟨congrArg (fun q => some (Value.int q)) (by first | rw [if_pos (Int32.not_le.mp h1)] | rw [if_neg (Int32.not_lt.mpr h1), if_pos (Int32.not_le.mp h11)] | rw [if_neg (Int32.not_lt.mpr h1), if_neg (Int32.not_lt.mpr h11)]), rfl⟩
  · refine zbipush (v := -4) dX9_wrongBy_4 (by decide) ?_
    refine zgoto (tgt := 20) dX9_wrongBy_6 (by decide) ?_
    exact zireturn dX9_wrongBy_20 rfl rfl ⟨congrArg (fun q => some (Value.int q)) (by first | rw [if_pos (Int32.not_le.mp h1)] | rw [if_neg (Int32.not_lt.mpr h1), if_pos (Int32.not_le.mp h11)] | rw [if_neg (Int32.not_lt.mpr h1), if_neg (Int32.not_lt.mpr h11)]), rfl⟩
set_option maxRecDepth 100000 in
set_option maxHeartbeats 4000000 in
theorem l_X9_wearerOf (hk : 0 < k ∧ k < 6) (hM : isM S k n T) (f : Int32) (r : Int32) : ∀ (q i : Nat), i + q = n → wF (T 4) f q i = r → zZ x false mX9_wearerOf (fun q T => q = some (.int r) ∧ T = S) 2 [(0, .ref (zad x k)), (1, .int f), (2, .int (nI i))] [] S := by
  have hn8 := hM.2.1
  intro q
  induction q with
  | zero =>
    intro i hi hr
    refine ziload_n dX9_wearerOf_2 rfl ?_
    refine zaload_n dX9_wearerOf_3 rfl ?_
    refine ziconst (v := nI 0) dX9_wearerOf_4 (by decide) ?_
    refine ziald dX9_wearerOf_5 (mrk hk.2) (mrl hk.1 hk.2) (by decide) (by decide) ?_
    rw [hM.1]
    refine zicmp_ge (tgt := 28) dX9_wearerOf_6 (by decide) (fun _ => ?_) (fun h => absurd (nI_le (by omega) (by omega)) h)
    refine zbipush (v := -9) dX9_wearerOf_28 (by decide) ?_
    exact zireturn dX9_wearerOf_30 rfl rfl ⟨congrArg (fun q => some (Value.int q)) hr, rfl⟩
  | succ q ih =>
    intro i hi hr
    refine ziload_n dX9_wearerOf_2 rfl ?_
    refine zaload_n dX9_wearerOf_3 rfl ?_
    refine ziconst (v := nI 0) dX9_wearerOf_4 (by decide) ?_
    refine ziald dX9_wearerOf_5 (mrk hk.2) (mrl hk.1 hk.2) (by decide) (by decide) ?_
    rw [hM.1]
    refine zicmp_ge (tgt := 28) dX9_wearerOf_6 (by decide) (fun h => absurd h (nI_ge (by omega) (by omega))) (fun _ => ?_)
    refine zaload_n dX9_wearerOf_9 rfl ?_
    refine ziload_n dX9_wearerOf_10 rfl ?_
    refine ziconst (v := nI 3) dX9_wearerOf_11 (by decide) ?_
    refine zcSf gk_X9_52 dX9_wearerOf_12 (c_X9_of (j := 3)) rfl (by decide) (Nat.le_of_ble_eq_true rfl) ?_ rfl
    refine zialM (k := k) (j := 3) (w := 4) dX9_wearerOf_15 hk hM rfl (by decide) (by omega) ?_
    refine ziload_n dX9_wearerOf_16 rfl ?_
    refine zicmp_ne (tgt := 22) dX9_wearerOf_17 (by decide) (fun h17 => ?_) (fun h17 => ?_)
    · refine ziinc dX9_wearerOf_22 rfl rfl (by decide) rfl ?_
      refine zgoto (tgt := 2) dX9_wearerOf_25 (by decide) ?_
      refine zlvs (lv' := [(0, .ref (zad x k)), (1, .int f), (2, .int (nI (i + 1)))]) ⟨rfl, rfl, by rw [← nI_1]; rfl, trivial⟩ ?_
      exact ih (i + 1) (by omega) (by simpa [wF, *] using hr)
    · refine ziload_n dX9_wearerOf_20 rfl ?_
      exact zireturn dX9_wearerOf_21 rfl rfl ⟨congrArg (fun q => some (Value.int q)) (by simpa [wF, *] using hr), rfl⟩
set_option maxRecDepth 100000 in
set_option maxHeartbeats 4000000 in
theorem c_X9_wearerOf (hk : 0 < k ∧ k < 6) (hM : isM S k n T) (f : Int32) : zF x false mX9_wearerOf [.ref (zad x k), .int f] S (some (.int (wF (T 4) f n 0))) S := by
  refine zC_of (by decide +kernel) (Nat.le_of_ble_eq_true rfl) ?_
  refine ziconst (v := 0) dX9_wearerOf_0 (by decide) ?_
  refine zistore_n dX9_wearerOf_1 (by decide) rfl ?_
  refine zlvs (lv' := [(0, .ref (zad x k)), (1, .int f), (2, .int (nI 0))]) ⟨rfl, rfl, rfl, trivial⟩ ?_
  exact l_X9_wearerOf hk hM f _ n 0 (by omega) rfl
set_option maxRecDepth 100000 in
set_option maxHeartbeats 4000000 in
theorem l_X9_areHome (hk : 0 < k ∧ k < 6) (hM : isM S k n T) (r : Bool) : ∀ (q i : Nat), i + q = n → aF (fun p => decide (T 4 p = nI p)) q i = r → zZ x false mX9_areHome (fun q T => q = some (.int (bI r)) ∧ T = S) 2 [(0, .ref (zad x k)), (1, .int (nI i))] [] S := by
  have hn8 := hM.2.1
  intro q
  induction q with
  | zero =>
    intro i hi hr
    refine ziload_n dX9_areHome_2 rfl ?_
    refine zaload_n dX9_areHome_3 rfl ?_
    refine ziconst (v := nI 0) dX9_areHome_4 (by decide) ?_
    refine ziald dX9_areHome_5 (mrk hk.2) (mrl hk.1 hk.2) (by decide) (by decide) ?_
    rw [hM.1]
    refine zicmp_ge (tgt := 25) dX9_areHome_6 (by decide) (fun _ => ?_) (fun h => absurd (nI_le (by omega) (by omega)) h)
    refine ziconst (v := 1) dX9_areHome_25 (by decide) ?_
    exact zbret (q := true) dX9_areHome_26 rfl rfl ⟨congrArg (fun q => some (Value.int (bI q))) hr, rfl⟩
  | succ q ih =>
    intro i hi hr
    refine ziload_n dX9_areHome_2 rfl ?_
    refine zaload_n dX9_areHome_3 rfl ?_
    refine ziconst (v := nI 0) dX9_areHome_4 (by decide) ?_
    refine ziald dX9_areHome_5 (mrk hk.2) (mrl hk.1 hk.2) (by decide) (by decide) ?_
    rw [hM.1]
    refine zicmp_ge (tgt := 25) dX9_areHome_6 (by decide) (fun h => absurd h (nI_ge (by omega) (by omega))) (fun _ => ?_)
    refine zaload_n dX9_areHome_9 rfl ?_
    refine ziload_n dX9_areHome_10 rfl ?_
    refine zcSf  gk_X9_64 dX9_areHome_11 (c_X9_wearsOwn hk hM (by omega)) rfl (by decide) (Nat.le_of_ble_eq_true rfl) ?_ rfl
    refine zifb_ne (tgt := 19) dX9_areHome_14 (by decide) (fun h14 => ?_) (fun h14 => ?_)
    · refine ziinc dX9_areHome_19 rfl rfl (by decide) rfl ?_
      refine zgoto (tgt := 2) dX9_areHome_22 (by decide) ?_
      refine zlvs (lv' := [(0, .ref (zad x k)), (1, .int (nI (i + 1)))]) ⟨rfl, by rw [← nI_1]; rfl, trivial⟩ ?_
      exact ih (i + 1) (by omega) (by simpa [aF, *] using hr)
    · refine ziconst (v := 0) dX9_areHome_17 (by decide) ?_
      exact zbret (q := false) dX9_areHome_18 rfl rfl ⟨congrArg (fun q => some (Value.int (bI q))) (by simpa [aF, *] using hr), rfl⟩
set_option maxRecDepth 100000 in
set_option maxHeartbeats 4000000 in
theorem c_X9_areHome (hk : 0 < k ∧ k < 6) (hM : isM S k n T) : zF x false mX9_areHome [.ref (zad x k)] S (some (.int (bI (aF (fun p => decide (T 4 p = nI p)) n 0)))) S := by
  refine zC_of (by decide +kernel) (Nat.le_of_ble_eq_true rfl) ?_
  refine ziconst (v := 0) dX9_areHome_0 (by decide) ?_
  refine zistore_n dX9_areHome_1 (by decide) rfl ?_
  refine zlvs (lv' := [(0, .ref (zad x k)), (1, .int (nI 0))]) ⟨rfl, rfl, trivial⟩ ?_
  exact l_X9_areHome hk hM _ n 0 (by omega) rfl
set_option maxRecDepth 100000 in
set_option maxHeartbeats 4000000 in
theorem l_X9_knowing (hk : 0 < k ∧ k < 6) (hM : isM S k n T) (f b : Int32) (r : Int32) : ∀ (q i : Nat) (a : Int32), i + q = n → sF (fun p => bI (decide (¬ nI p = b ∧ kbit T f p = 1))) q i a = r → zZ x false mX9_knowing (fun q T => q = some (.int r) ∧ T = S) 5 [(0, .ref (zad x k)), (1, .int f), (2, .int b), (3, .int a), (4, .int (nI i))] [] S := by
  have hn8 := hM.2.1
  intro q
  induction q with
  | zero =>
    intro i a hi hr
    refine ziload dX9_knowing_5 rfl ?_
    refine zaload_n dX9_knowing_7 rfl ?_
    refine ziconst (v := nI 0) dX9_knowing_8 (by decide) ?_
    refine ziald dX9_knowing_9 (mrk hk.2) (mrl hk.1 hk.2) (by decide) (by decide) ?_
    rw [hM.1]
    refine zicmp_ge (tgt := 48) dX9_knowing_10 (by decide) (fun _ => ?_) (fun h => absurd (nI_le (by omega) (by omega)) h)
    refine ziload_n dX9_knowing_48 rfl ?_
    exact zireturn dX9_knowing_49 rfl rfl ⟨congrArg (fun q => some (Value.int q)) hr, rfl⟩
  | succ q ih =>
    intro i a hi hr
    refine ziload dX9_knowing_5 rfl ?_
    refine zaload_n dX9_knowing_7 rfl ?_
    refine ziconst (v := nI 0) dX9_knowing_8 (by decide) ?_
    refine ziald dX9_knowing_9 (mrk hk.2) (mrl hk.1 hk.2) (by decide) (by decide) ?_
    rw [hM.1]
    refine zicmp_ge (tgt := 48) dX9_knowing_10 (by decide) (fun h => absurd h (nI_ge (by omega) (by omega))) (fun _ => ?_)
    refine ziload_n dX9_knowing_13 rfl ?_
    refine ziload dX9_knowing_14 rfl ?_
    refine ziload_n dX9_knowing_16 rfl ?_
    refine zicmp_eq (tgt := 39) dX9_knowing_17 (by decide) (fun h17 => ?_) (fun h17 => ?_)
    · refine ziconst (v := 0) dX9_knowing_39 (by decide) ?_
      refine ziadd dX9_knowing_40 ?_
      refine zistore_n dX9_knowing_41 (by decide) rfl ?_
      refine ziinc dX9_knowing_42 rfl rfl (by decide) rfl ?_
      refine zgoto (tgt := 5) dX9_knowing_45 (by decide) ?_
      refine zlvs (lv' := [(0, .ref (zad x k)), (1, .int f), (2, .int b), (3, .int _), (4, .int (nI (i + 1)))]) ⟨rfl, rfl, rfl, rfl, by rw [← nI_1]; rfl, trivial⟩ ?_
      exact ih (i + 1) _ (by omega) (by rw [← hr, sF]; first | (have h32 : kbit T f i = 1 := by unfold kbit; simpa using h32); simp [bI, h17, h32] | (have h32 : ¬ kbit T f i = 1 := by unfold kbit; simpa using h32); simp [bI, h17, h32] | simp [bI, h17])
    · refine zaload_n dX9_knowing_20 rfl ?_
      refine ziload dX9_knowing_21 rfl ?_
      refine ziconst (v := nI 2) dX9_knowing_23 (by decide) ?_
      refine zcSf gk_X9_52 dX9_knowing_24 (c_X9_of (j := 2)) rfl (by decide) (Nat.le_of_ble_eq_true rfl) ?_ rfl
      refine zialM (k := k) (j := 2) (w := 3) dX9_knowing_27 hk hM rfl (by decide) (by omega) ?_
      refine ziload_n dX9_knowing_28 rfl ?_
      refine zcSf  gk_X9_56 dX9_knowing_29 c_X9_has rfl (by decide) (Nat.le_of_ble_eq_true rfl) ?_ rfl
      refine zifb_eq (tgt := 39) dX9_knowing_32 (by decide) (fun h32 => ?_) (fun h32 => ?_)
      · refine ziconst (v := 0) dX9_knowing_39 (by decide) ?_
        refine ziadd dX9_knowing_40 ?_
        refine zistore_n dX9_knowing_41 (by decide) rfl ?_
        refine ziinc dX9_knowing_42 rfl rfl (by decide) rfl ?_
        refine zgoto (tgt := 5) dX9_knowing_45 (by decide) ?_
        refine zlvs (lv' := [(0, .ref (zad x k)), (1, .int f), (2, .int b), (3, .int _), (4, .int (nI (i + 1)))]) ⟨rfl, rfl, rfl, rfl, by rw [← nI_1]; rfl, trivial⟩ ?_
        exact ih (i + 1) _ (by omega) (by rw [← hr, sF]; first | (have h32 : kbit T f i = 1 := by unfold kbit; simpa using h32); simp [bI, h17, h32] | (have h32 : ¬ kbit T f i = 1 := by unfold kbit; simpa using h32); simp [bI, h17, h32] | simp [bI, h17])
      · refine ziconst (v := 1) dX9_knowing_35 (by decide) ?_
        refine zgoto (tgt := 40) dX9_knowing_36 (by decide) ?_
        refine ziadd dX9_knowing_40 ?_
        refine zistore_n dX9_knowing_41 (by decide) rfl ?_
        refine ziinc dX9_knowing_42 rfl rfl (by decide) rfl ?_
        refine zgoto (tgt := 5) dX9_knowing_45 (by decide) ?_
        refine zlvs (lv' := [(0, .ref (zad x k)), (1, .int f), (2, .int b), (3, .int _), (4, .int (nI (i + 1)))]) ⟨rfl, rfl, rfl, rfl, by rw [← nI_1]; rfl, trivial⟩ ?_
        exact ih (i + 1) _ (by omega) (by rw [← hr, sF]; first | (have h32 : kbit T f i = 1 := by unfold kbit; simpa using h32); simp [bI, h17, h32] | (have h32 : ¬ kbit T f i = 1 := by unfold kbit; simpa using h32); simp [bI, h17, h32] | simp [bI, h17])
set_option maxRecDepth 100000 in
set_option maxHeartbeats 4000000 in
theorem c_X9_knowing (hk : 0 < k ∧ k < 6) (hM : isM S k n T) (f b : Int32) : zF x false mX9_knowing [.ref (zad x k), .int f, .int b] S (some (.int (sF (fun p => bI (decide (¬ nI p = b ∧ kbit T f p = 1))) n 0 0))) S := by
  refine zC_of (by decide +kernel) (Nat.le_of_ble_eq_true rfl) ?_
  refine ziconst (v := 0) dX9_knowing_0 (by decide) ?_
  refine zistore_n dX9_knowing_1 (by decide) rfl ?_
  refine ziconst (v := 0) dX9_knowing_2 (by decide) ?_
  refine zistore dX9_knowing_3 (by decide) rfl ?_
  refine zlvs (lv' := [(0, .ref (zad x k)), (1, .int f), (2, .int b), (3, .int 0), (4, .int (nI 0))]) ⟨rfl, rfl, rfl, rfl, rfl, trivial⟩ ?_
  exact l_X9_knowing hk hM f b _ n 0 0 (by omega) rfl
set_option maxRecDepth 100000 in
set_option maxHeartbeats 4000000 in
theorem l_X9_worthAll (hk : 0 < k ∧ k < 6) (hM : isM S k n T) (r : Int32) : ∀ (q i : Nat) (a : Int32), i + q = n → sF (fun p => T 5 p - T 6 p) q i a = r → zZ x false mX9_worthAll (fun q T => q = some (.int r) ∧ T = S) 4 [(0, .ref (zad x k)), (1, .int a), (2, .int (nI i))] [] S := by
  have hn8 := hM.2.1
  intro q
  induction q with
  | zero =>
    intro i a hi hr
    refine ziload_n dX9_worthAll_4 rfl ?_
    refine zaload_n dX9_worthAll_5 rfl ?_
    refine ziconst (v := nI 0) dX9_worthAll_6 (by decide) ?_
    refine ziald dX9_worthAll_7 (mrk hk.2) (mrl hk.1 hk.2) (by decide) (by decide) ?_
    rw [hM.1]
    refine zicmp_ge (tgt := 25) dX9_worthAll_8 (by decide) (fun _ => ?_) (fun h => absurd (nI_le (by omega) (by omega)) h)
    refine ziload_n dX9_worthAll_25 rfl ?_
    exact zireturn dX9_worthAll_26 rfl rfl ⟨congrArg (fun q => some (Value.int q)) hr, rfl⟩
  | succ q ih =>
    intro i a hi hr
    refine ziload_n dX9_worthAll_4 rfl ?_
    refine zaload_n dX9_worthAll_5 rfl ?_
    refine ziconst (v := nI 0) dX9_worthAll_6 (by decide) ?_
    refine ziald dX9_worthAll_7 (mrk hk.2) (mrl hk.1 hk.2) (by decide) (by decide) ?_
    rw [hM.1]
    refine zicmp_ge (tgt := 25) dX9_worthAll_8 (by decide) (fun h => absurd h (nI_ge (by omega) (by omega))) (fun _ => ?_)
    refine ziload_n dX9_worthAll_11 rfl ?_
    refine zaload_n dX9_worthAll_12 rfl ?_
    refine ziload_n dX9_worthAll_13 rfl ?_
    refine zcSf  gk_X9_88 dX9_worthAll_14 (c_X9_worthIn hk hM (by omega)) rfl (by decide) (Nat.le_of_ble_eq_true rfl) ?_ rfl
    refine ziadd dX9_worthAll_17 ?_
    refine zistore_n dX9_worthAll_18 (by decide) rfl ?_
    refine ziinc dX9_worthAll_19 rfl rfl (by decide) rfl ?_
    refine zgoto (tgt := 4) dX9_worthAll_22 (by decide) ?_
    refine zlvs (lv' := [(0, .ref (zad x k)), (1, .int _), (2, .int (nI (i + 1)))]) ⟨rfl, rfl, by rw [← nI_1]; rfl, trivial⟩ ?_
    exact ih (i + 1) _ (by omega) (by rw [← hr, sF]; done)
set_option maxRecDepth 100000 in
set_option maxHeartbeats 4000000 in
theorem c_X9_worthAll (hk : 0 < k ∧ k < 6) (hM : isM S k n T) : zF x false mX9_worthAll [.ref (zad x k)] S (some (.int (sF (fun p => T 5 p - T 6 p) n 0 0))) S := by
  refine zC_of (by decide +kernel) (Nat.le_of_ble_eq_true rfl) ?_
  refine ziconst (v := 0) dX9_worthAll_0 (by decide) ?_
  refine zistore_n dX9_worthAll_1 (by decide) rfl ?_
  refine ziconst (v := 0) dX9_worthAll_2 (by decide) ?_
  refine zistore_n dX9_worthAll_3 (by decide) rfl ?_
  refine zlvs (lv' := [(0, .ref (zad x k)), (1, .int 0), (2, .int (nI 0))]) ⟨rfl, rfl, rfl, trivial⟩ ?_
  exact l_X9_worthAll hk hM _ n 0 0 (by omega) rfl
set_option maxRecDepth 100000 in
set_option maxHeartbeats 4000000 in
theorem l_X9_lentIn (hk : 0 < k ∧ k < 6) (hM : isM S k n T) (r : Int32) : ∀ (q i : Nat) (a : Int32), i + q = n → sF (fun p => bI (decide (0 < T 7 p))) q i a = r → zZ x false mX9_lentIn (fun q T => q = some (.int r) ∧ T = S) 4 [(0, .ref (zad x k)), (1, .int a), (2, .int (nI i))] [] S := by
  have hn8 := hM.2.1
  intro q
  induction q with
  | zero =>
    intro i a hi hr
    refine ziload_n dX9_lentIn_4 rfl ?_
    refine zaload_n dX9_lentIn_5 rfl ?_
    refine ziconst (v := nI 0) dX9_lentIn_6 (by decide) ?_
    refine ziald dX9_lentIn_7 (mrk hk.2) (mrl hk.1 hk.2) (by decide) (by decide) ?_
    rw [hM.1]
    refine zicmp_ge (tgt := 36) dX9_lentIn_8 (by decide) (fun _ => ?_) (fun h => absurd (nI_le (by omega) (by omega)) h)
    refine ziload_n dX9_lentIn_36 rfl ?_
    exact zireturn dX9_lentIn_37 rfl rfl ⟨congrArg (fun q => some (Value.int q)) hr, rfl⟩
  | succ q ih =>
    intro i a hi hr
    refine ziload_n dX9_lentIn_4 rfl ?_
    refine zaload_n dX9_lentIn_5 rfl ?_
    refine ziconst (v := nI 0) dX9_lentIn_6 (by decide) ?_
    refine ziald dX9_lentIn_7 (mrk hk.2) (mrl hk.1 hk.2) (by decide) (by decide) ?_
    rw [hM.1]
    refine zicmp_ge (tgt := 36) dX9_lentIn_8 (by decide) (fun h => absurd h (nI_ge (by omega) (by omega))) (fun _ => ?_)
    refine ziload_n dX9_lentIn_11 rfl ?_
    refine zaload_n dX9_lentIn_12 rfl ?_
    refine ziload_n dX9_lentIn_13 rfl ?_
    refine zbipush (v := nI 6) dX9_lentIn_14 (by decide) ?_
    refine zcSf gk_X9_52 dX9_lentIn_16 (c_X9_of (j := 6)) rfl (by decide) (Nat.le_of_ble_eq_true rfl) ?_ rfl
    refine zialM (k := k) (j := 6) (w := 7) dX9_lentIn_19 hk hM rfl (by decide) (by omega) ?_
    refine zif_le (tgt := 27) dX9_lentIn_20 (by decide) (fun h20 => ?_) (fun h20 => ?_)
    · refine ziconst (v := 0) dX9_lentIn_27 (by decide) ?_
      refine ziadd dX9_lentIn_28 ?_
      refine zistore_n dX9_lentIn_29 (by decide) rfl ?_
      refine ziinc dX9_lentIn_30 rfl rfl (by decide) rfl ?_
      refine zgoto (tgt := 4) dX9_lentIn_33 (by decide) ?_
      refine zlvs (lv' := [(0, .ref (zad x k)), (1, .int _), (2, .int (nI (i + 1)))]) ⟨rfl, rfl, by rw [← nI_1]; rfl, trivial⟩ ?_
      exact ih (i + 1) _ (by omega) (by rw [← hr, sF]; first | (have h20 : ¬ 0 < T 7 i := Int32.not_lt.mpr h20); simp [bI, h20] | (have h20 : 0 < T 7 i := Int32.not_le.mp h20); simp [bI, h20])
    · refine ziconst (v := 1) dX9_lentIn_23 (by decide) ?_
      refine zgoto (tgt := 28) dX9_lentIn_24 (by decide) ?_
      refine ziadd dX9_lentIn_28 ?_
      refine zistore_n dX9_lentIn_29 (by decide) rfl ?_
      refine ziinc dX9_lentIn_30 rfl rfl (by decide) rfl ?_
      refine zgoto (tgt := 4) dX9_lentIn_33 (by decide) ?_
      refine zlvs (lv' := [(0, .ref (zad x k)), (1, .int _), (2, .int (nI (i + 1)))]) ⟨rfl, rfl, by rw [← nI_1]; rfl, trivial⟩ ?_
      exact ih (i + 1) _ (by omega) (by rw [← hr, sF]; first | (have h20 : ¬ 0 < T 7 i := Int32.not_lt.mpr h20); simp [bI, h20] | (have h20 : 0 < T 7 i := Int32.not_le.mp h20); simp [bI, h20])
set_option maxRecDepth 100000 in
set_option maxHeartbeats 4000000 in
theorem c_X9_lentIn (hk : 0 < k ∧ k < 6) (hM : isM S k n T) : zF x false mX9_lentIn [.ref (zad x k)] S (some (.int (sF (fun p => bI (decide (0 < T 7 p))) n 0 0))) S := by
  refine zC_of (by decide +kernel) (Nat.le_of_ble_eq_true rfl) ?_
  refine ziconst (v := 0) dX9_lentIn_0 (by decide) ?_
  refine zistore_n dX9_lentIn_1 (by decide) rfl ?_
  refine ziconst (v := 0) dX9_lentIn_2 (by decide) ?_
  refine zistore_n dX9_lentIn_3 (by decide) rfl ?_
  refine zlvs (lv' := [(0, .ref (zad x k)), (1, .int 0), (2, .int (nI 0))]) ⟨rfl, rfl, rfl, trivial⟩ ?_
  exact l_X9_lentIn hk hM _ n 0 0 (by omega) rfl
set_option maxRecDepth 100000 in
set_option maxHeartbeats 4000000 in
theorem l_X9_plainSet (hk : 0 < k ∧ k < 6) (hM : isM S k n T) (r : Int32) : ∀ (q i : Nat) (a : Int32), i + q = n → oF (fun p => if T 4 p = 9 then 1 <<< (nI p &&& 31) else 0) q i a = r → zZ x false mX9_plainSet (fun q T => q = some (.int r) ∧ T = S) 4 [(0, .ref (zad x k)), (1, .int a), (2, .int (nI i))] [] S := by
  have hn8 := hM.2.1
  intro q
  induction q with
  | zero =>
    intro i a hi hr
    refine ziload_n dX9_plainSet_4 rfl ?_
    refine zaload_n dX9_plainSet_5 rfl ?_
    refine ziconst (v := nI 0) dX9_plainSet_6 (by decide) ?_
    refine ziald dX9_plainSet_7 (mrk hk.2) (mrl hk.1 hk.2) (by decide) (by decide) ?_
    rw [hM.1]
    refine zicmp_ge (tgt := 39) dX9_plainSet_8 (by decide) (fun _ => ?_) (fun h => absurd (nI_le (by omega) (by omega)) h)
    refine ziload_n dX9_plainSet_39 rfl ?_
    exact zireturn dX9_plainSet_40 rfl rfl ⟨congrArg (fun q => some (Value.int q)) hr, rfl⟩
  | succ q ih =>
    intro i a hi hr
    refine ziload_n dX9_plainSet_4 rfl ?_
    refine zaload_n dX9_plainSet_5 rfl ?_
    refine ziconst (v := nI 0) dX9_plainSet_6 (by decide) ?_
    refine ziald dX9_plainSet_7 (mrk hk.2) (mrl hk.1 hk.2) (by decide) (by decide) ?_
    rw [hM.1]
    refine zicmp_ge (tgt := 39) dX9_plainSet_8 (by decide) (fun h => absurd h (nI_ge (by omega) (by omega))) (fun _ => ?_)
    refine ziload_n dX9_plainSet_11 rfl ?_
    refine zaload_n dX9_plainSet_12 rfl ?_
    refine ziload_n dX9_plainSet_13 rfl ?_
    refine ziconst (v := nI 3) dX9_plainSet_14 (by decide) ?_
    refine zcSf gk_X9_52 dX9_plainSet_15 (c_X9_of (j := 3)) rfl (by decide) (Nat.le_of_ble_eq_true rfl) ?_ rfl
    refine zialM (k := k) (j := 3) (w := 4) dX9_plainSet_18 hk hM rfl (by decide) (by omega) ?_
    refine zbipush (v := 9) dX9_plainSet_19 (by decide) ?_
    refine zicmp_ne (tgt := 30) dX9_plainSet_21 (by decide) (fun h21 => ?_) (fun h21 => ?_)
    · refine ziconst (v := 0) dX9_plainSet_30 (by decide) ?_
      refine zior dX9_plainSet_31 ?_
      refine zistore_n dX9_plainSet_32 (by decide) rfl ?_
      refine ziinc dX9_plainSet_33 rfl rfl (by decide) rfl ?_
      refine zgoto (tgt := 4) dX9_plainSet_36 (by decide) ?_
      refine zlvs (lv' := [(0, .ref (zad x k)), (1, .int _), (2, .int (nI (i + 1)))]) ⟨rfl, rfl, by rw [← nI_1]; rfl, trivial⟩ ?_
      exact ih (i + 1) _ (by omega) (by rw [← hr, oF]; simp [bI, kbit, *])
    · refine ziconst (v := 1) dX9_plainSet_24 (by decide) ?_
      refine ziload_n dX9_plainSet_25 rfl ?_
      refine zishl dX9_plainSet_26 ?_
      refine zgoto (tgt := 31) dX9_plainSet_27 (by decide) ?_
      refine zior dX9_plainSet_31 ?_
      refine zistore_n dX9_plainSet_32 (by decide) rfl ?_
      refine ziinc dX9_plainSet_33 rfl rfl (by decide) rfl ?_
      refine zgoto (tgt := 4) dX9_plainSet_36 (by decide) ?_
      refine zlvs (lv' := [(0, .ref (zad x k)), (1, .int _), (2, .int (nI (i + 1)))]) ⟨rfl, rfl, by rw [← nI_1]; rfl, trivial⟩ ?_
      exact ih (i + 1) _ (by omega) (by rw [← hr, oF]; simp [bI, kbit, *])
set_option maxRecDepth 100000 in
set_option maxHeartbeats 4000000 in
theorem c_X9_plainSet (hk : 0 < k ∧ k < 6) (hM : isM S k n T) : zF x false mX9_plainSet [.ref (zad x k)] S (some (.int (oF (fun p => if T 4 p = 9 then 1 <<< (nI p &&& 31) else 0) n 0 0))) S := by
  refine zC_of (by decide +kernel) (Nat.le_of_ble_eq_true rfl) ?_
  refine ziconst (v := 0) dX9_plainSet_0 (by decide) ?_
  refine zistore_n dX9_plainSet_1 (by decide) rfl ?_
  refine ziconst (v := 0) dX9_plainSet_2 (by decide) ?_
  refine zistore_n dX9_plainSet_3 (by decide) rfl ?_
  refine zlvs (lv' := [(0, .ref (zad x k)), (1, .int 0), (2, .int (nI 0))]) ⟨rfl, rfl, rfl, trivial⟩ ?_
  exact l_X9_plainSet hk hM _ n 0 0 (by omega) rfl
end MODEL
