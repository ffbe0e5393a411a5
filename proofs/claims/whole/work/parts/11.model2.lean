/-! The reference: fame by kinds, lending, coming back, the month -/
section MODEL2
variable {x : zCx} {S : zSt} {k n : Nat} {T : Nat → Nat → Int32}
theorem knowing_all (f : Int32) (hn : n ≤ 8) : sF (fun p => bI (decide (¬ nI p = -9 ∧ kbit T f p = 1))) n 0 0 = knowers n T f := by
  refine sF_congr n 0 0 (fun j _ hj => ?_)
  refine Eq.trans ?_ (kbit_b T f j)
  simp [nI_neN (show j < 2 ^ 31 by omega)]

set_option maxRecDepth 100000 in
set_option maxHeartbeats 4000000 in
theorem c_X9_fameBy (hk : 0 < k ∧ k < 6) (hM : isM S k n T) {p kd : Nat} {f : Int32} (hp : p < n) (hkd : kd < 6) (hkk : T 1 p = nI kd) : zF x false mX9_fameBy [.ref (zad x k), .int (nI p), .int f] S (some (.int (fch (T 1 p) (T 2 p) (knowers n T f)))) S := by
  have hn8 := hM.2.1
  refine zC_of (by decide +kernel) (Nat.le_of_ble_eq_true rfl) ?_
  rw [hkk]
  rcases (show kd = 0 ∨ kd = 1 ∨ kd = 2 ∨ kd = 3 ∨ kd = 4 ∨ kd = 5 by omega) with rfl | rfl | rfl | rfl | rfl | rfl
  · refine zaload_n dX9_fameBy_0 rfl ?_
    refine ziload_n dX9_fameBy_1 rfl ?_
    refine ziconst (v := nI 0) dX9_fameBy_2 (by decide) ?_
    refine zcSf gk_X9_52 dX9_fameBy_3 (c_X9_of (j := 0)) rfl (by decide) (Nat.le_of_ble_eq_true rfl) ?_ rfl
    refine zialM (k := k) (j := 0) (w := 1) dX9_fameBy_6 hk hM rfl (by decide) (by omega) ?_
    rw [hkk]
    refine ztableOut (tgt := 74) dX9_fameBy_7 (by decide +kernel) (by decide) ?_
    refine ziconst (v := 1) dX9_fameBy_74 (by decide) ?_
    exact zireturn dX9_fameBy_75 rfl rfl ⟨rfl, rfl⟩
  · refine zaload_n dX9_fameBy_0 rfl ?_
    refine ziload_n dX9_fameBy_1 rfl ?_
    refine ziconst (v := nI 0) dX9_fameBy_2 (by decide) ?_
    refine zcSf gk_X9_52 dX9_fameBy_3 (c_X9_of (j := 0)) rfl (by decide) (Nat.le_of_ble_eq_true rfl) ?_ rfl
    refine zialM (k := k) (j := 0) (w := 1) dX9_fameBy_6 hk hM rfl (by decide) (by omega) ?_
    rw [hkk]
    refine ztableIn (off := 33) (tgt := 40) dX9_fameBy_7 (by decide +kernel) (by decide +kernel) (by decide +kernel) (by decide) ?_
    refine zaload_n dX9_fameBy_40 rfl ?_
    refine ziload_n dX9_fameBy_41 rfl ?_
    refine ziconst (v := nI 1) dX9_fameBy_42 (by decide) ?_
    refine zcSf gk_X9_52 dX9_fameBy_43 (c_X9_of (j := 1)) rfl (by decide) (Nat.le_of_ble_eq_true rfl) ?_ rfl
    refine zialM (k := k) (j := 1) (w := 2) dX9_fameBy_46 hk hM rfl (by decide) (by omega) ?_
    refine ziconst (v := 3) dX9_fameBy_47 (by decide) ?_
    refine zidiv dX9_fameBy_48 (by decide) ?_
    refine zineg dX9_fameBy_49 ?_
    exact zireturn dX9_fameBy_50 rfl rfl ⟨rfl, rfl⟩
  · refine zaload_n dX9_fameBy_0 rfl ?_
    refine ziload_n dX9_fameBy_1 rfl ?_
    refine ziconst (v := nI 0) dX9_fameBy_2 (by decide) ?_
    refine zcSf gk_X9_52 dX9_fameBy_3 (c_X9_of (j := 0)) rfl (by decide) (Nat.le_of_ble_eq_true rfl) ?_ rfl
    refine zialM (k := k) (j := 0) (w := 1) dX9_fameBy_6 hk hM rfl (by decide) (by omega) ?_
    rw [hkk]
    refine ztableIn (off := 44) (tgt := 51) dX9_fameBy_7 (by decide +kernel) (by decide +kernel) (by decide +kernel) (by decide) ?_
    refine zbipush (v := -2) dX9_fameBy_51 (by decide) ?_
    exact zireturn dX9_fameBy_53 rfl rfl ⟨rfl, rfl⟩
  · refine zaload_n dX9_fameBy_0 rfl ?_
    refine ziload_n dX9_fameBy_1 rfl ?_
    refine ziconst (v := nI 0) dX9_fameBy_2 (by decide) ?_
    refine zcSf gk_X9_52 dX9_fameBy_3 (c_X9_of (j := 0)) rfl (by decide) (Nat.le_of_ble_eq_true rfl) ?_ rfl
    refine zialM (k := k) (j := 0) (w := 1) dX9_fameBy_6 hk hM rfl (by decide) (by omega) ?_
    rw [hkk]
    refine ztableIn (off := 47) (tgt := 54) dX9_fameBy_7 (by decide +kernel) (by decide +kernel) (by decide +kernel) (by decide) ?_
    refine ziconst (v := 0) dX9_fameBy_54 (by decide) ?_
    exact zireturn dX9_fameBy_55 rfl rfl ⟨rfl, rfl⟩
  · refine zaload_n dX9_fameBy_0 rfl ?_
    refine ziload_n dX9_fameBy_1 rfl ?_
    refine ziconst (v := nI 0) dX9_fameBy_2 (by decide) ?_
    refine zcSf gk_X9_52 dX9_fameBy_3 (c_X9_of (j := 0)) rfl (by decide) (Nat.le_of_ble_eq_true rfl) ?_ rfl
    refine zialM (k := k) (j := 0) (w := 1) dX9_fameBy_6 hk hM rfl (by decide) (by omega) ?_
    rw [hkk]
    refine ztableIn (off := 49) (tgt := 56) dX9_fameBy_7 (by decide +kernel) (by decide +kernel) (by decide +kernel) (by decide) ?_
    refine zaload_n dX9_fameBy_56 rfl ?_
    refine ziload_n dX9_fameBy_57 rfl ?_
    refine zbipush (v := -9) dX9_fameBy_58 (by decide) ?_
    refine zcSf  gk_X9_60 dX9_fameBy_60 (c_X9_knowing hk hM f (-9)) rfl (by decide) (Nat.le_of_ble_eq_true rfl) ?_ rfl
    rw [knowing_all f hn8]
    exact zireturn dX9_fameBy_63 rfl rfl ⟨rfl, rfl⟩
  · refine zaload_n dX9_fameBy_0 rfl ?_
    refine ziload_n dX9_fameBy_1 rfl ?_
    refine ziconst (v := nI 0) dX9_fameBy_2 (by decide) ?_
    refine zcSf gk_X9_52 dX9_fameBy_3 (c_X9_of (j := 0)) rfl (by decide) (Nat.le_of_ble_eq_true rfl) ?_ rfl
    refine zialM (k := k) (j := 0) (w := 1) dX9_fameBy_6 hk hM rfl (by decide) (by omega) ?_
    rw [hkk]
    refine ztableIn (off := 57) (tgt := 64) dX9_fameBy_7 (by decide +kernel) (by decide +kernel) (by decide +kernel) (by decide) ?_
    refine zaload_n dX9_fameBy_64 rfl ?_
    refine ziload_n dX9_fameBy_65 rfl ?_
    refine zbipush (v := -9) dX9_fameBy_66 (by decide) ?_
    refine zcSf  gk_X9_60 dX9_fameBy_68 (c_X9_knowing hk hM f (-9)) rfl (by decide) (Nat.le_of_ble_eq_true rfl) ?_ rfl
    rw [knowing_all f hn8]
    refine ziconst (v := 2) dX9_fameBy_71 (by decide) ?_
    refine zisub dX9_fameBy_72 ?_
    exact zireturn dX9_fameBy_73 rfl rfl ⟨rfl, rfl⟩
set_option maxRecDepth 100000 in
set_option maxHeartbeats 4000000 in
theorem c_X9_lendsIn (hk : 0 < k ∧ k < 6) (hM : isM S k n T) {p q : Nat} (hp : p < n) (hq : q < n) : zF x false mX9_lendsIn [.ref (zad x k), .int (nI p), .int (nI q)] S none (u2 (u2 (u2 S.1 k (7 * p + 3 + 2) 9) k (7 * q + 3 + 2) (nI p)) k (7 * p + 6 + 2) 1, S.2) := by
  have hn8 := hM.2.1
  refine zC_of (by decide +kernel) (Nat.le_of_ble_eq_true rfl) ?_
  refine zaload_n dX9_lendsIn_0 rfl ?_
  refine ziload_n dX9_lendsIn_1 rfl ?_
  refine ziconst (v := nI 3) dX9_lendsIn_2 (by decide) ?_
  refine zcSf gk_X9_52 dX9_lendsIn_3 (c_X9_of (j := 3)) rfl (by decide) (Nat.le_of_ble_eq_true rfl) ?_ rfl
  refine zbipush (v := 9) dX9_lendsIn_6 (by decide) ?_
  refine ziast dX9_lendsIn_8 (mrk hk.2) (mrl hk.1 hk.2) (by decide) (by omega) ?_
  refine zaload_n dX9_lendsIn_9 rfl ?_
  refine ziload_n dX9_lendsIn_10 rfl ?_
  refine ziconst (v := nI 3) dX9_lendsIn_11 (by decide) ?_
  refine zcSf gk_X9_52 dX9_lendsIn_12 (c_X9_of (j := 3)) rfl (by decide) (Nat.le_of_ble_eq_true rfl) ?_ rfl
  refine ziload_n dX9_lendsIn_15 rfl ?_
  refine ziast dX9_lendsIn_16 (mrk hk.2) (mrl hk.1 hk.2) (by decide) (by omega) ?_
  refine zaload_n dX9_lendsIn_17 rfl ?_
  refine ziload_n dX9_lendsIn_18 rfl ?_
  refine zbipush (v := nI 6) dX9_lendsIn_19 (by decide) ?_
  refine zcSf gk_X9_52 dX9_lendsIn_21 (c_X9_of (j := 6)) rfl (by decide) (Nat.le_of_ble_eq_true rfl) ?_ rfl
  refine ziconst (v := 1) dX9_lendsIn_24 (by decide) ?_
  refine ziast dX9_lendsIn_25 (mrk hk.2) (mrl hk.1 hk.2) (by decide) (by omega) ?_
  exact zreturn dX9_lendsIn_26 rfl ⟨rfl, rfl⟩
theorem isM_hand {p q : Nat} (hM : isM S k n T) : isM (u2 (u2 (u2 S.1 k (7 * p + 3 + 2) 9) k (7 * q + 3 + 2) (nI p)) k (7 * p + 6 + 2) 1, S.2) k n (handT T p q) :=
  isM_put (S := (u2 (u2 S.1 k (7 * p + 3 + 2) 9) k (7 * q + 3 + 2) (nI p), S.2)) (isM_put (S := (u2 S.1 k (7 * p + 3 + 2) 9, S.2)) (isM_put (j := 3) hM rfl (by decide)) rfl (by decide)) rfl (by decide)
theorem frM_hand {p q : Nat} {S0 : zSt} (h : frM k S0 S) : frM k S0 (u2 (u2 (u2 S.1 k (7 * p + 3 + 2) 9) k (7 * q + 3 + 2) (nI p)) k (7 * p + 6 + 2) 1, S.2) :=
  frM.put (S := (u2 (u2 S.1 k (7 * p + 3 + 2) 9) k (7 * q + 3 + 2) (nI p), S.2)) (frM.put (S := (u2 S.1 k (7 * p + 3 + 2) 9, S.2)) (frM.put h))
theorem hand_1 {p q a : Nat} : ∀ i, ¬ i = 0 → u2 (u2 (u2 S.1 k (7 * p + 3 + 2) 9) k (7 * q + 3 + 2) (nI p)) k (7 * p + 6 + 2) 1 k 1 = S.1 k 1 := by
  intro i _
  rw [u2_ne (by omega), u2_ne (by omega), u2_ne (by omega)]
set_option maxRecDepth 100000 in
set_option maxHeartbeats 4000000 in
theorem c_X9_comesBack (hk : 0 < k ∧ k < 6) (hM : isM S k n T) {f r : Nat} (hf : f < n) (hr : r < n) (hw : wF (T 4) (nI f) n 0 = nI r) : zF x false mX9_comesBack [.ref (zad x k), .int (nI f)] S (some (.int (nI r))) (u2 (u2 (u2 S.1 k (7 * r + 3 + 2) (nI r)) k (7 * f + 3 + 2) (nI f)) k (7 * f + 6 + 2) 0, S.2) := by
  have hn8 := hM.2.1
  refine zC_of (by decide +kernel) (Nat.le_of_ble_eq_true rfl) ?_
  refine zaload_n dX9_comesBack_0 rfl ?_
  refine ziload_n dX9_comesBack_1 rfl ?_
  refine zcSf  gk_X9_68 dX9_comesBack_2 (c_X9_wearerOf hk hM _) rfl (by decide) (Nat.le_of_ble_eq_true rfl) ?_ rfl
  rw [hw]
  refine zistore_n dX9_comesBack_5 (by decide) rfl ?_
  refine zaload_n dX9_comesBack_6 rfl ?_
  refine ziload_n dX9_comesBack_7 rfl ?_
  refine ziconst (v := nI 3) dX9_comesBack_8 (by decide) ?_
  refine zcSf gk_X9_52 dX9_comesBack_9 (c_X9_of (j := 3)) rfl (by decide) (Nat.le_of_ble_eq_true rfl) ?_ rfl
  refine ziload_n dX9_comesBack_12 rfl ?_
  refine ziast dX9_comesBack_13 (mrk hk.2) (mrl hk.1 hk.2) (by decide) (by omega) ?_
  refine zaload_n dX9_comesBack_14 rfl ?_
  refine ziload_n dX9_comesBack_15 rfl ?_
  refine ziconst (v := nI 3) dX9_comesBack_16 (by decide) ?_
  refine zcSf gk_X9_52 dX9_comesBack_17 (c_X9_of (j := 3)) rfl (by decide) (Nat.le_of_ble_eq_true rfl) ?_ rfl
  refine ziload_n dX9_comesBack_20 rfl ?_
  refine ziast dX9_comesBack_21 (mrk hk.2) (mrl hk.1 hk.2) (by decide) (by omega) ?_
  refine zaload_n dX9_comesBack_22 rfl ?_
  refine ziload_n dX9_comesBack_23 rfl ?_
  refine zbipush (v := nI 6) dX9_comesBack_24 (by decide) ?_
  refine zcSf gk_X9_52 dX9_comesBack_26 (c_X9_of (j := 6)) rfl (by decide) (Nat.le_of_ble_eq_true rfl) ?_ rfl
  refine ziconst (v := 0) dX9_comesBack_29 (by decide) ?_
  refine ziast dX9_comesBack_30 (mrk hk.2) (mrl hk.1 hk.2) (by decide) (by omega) ?_
  refine ziload_n dX9_comesBack_31 rfl ?_
  exact zireturn dX9_comesBack_32 rfl rfl ⟨rfl, rfl⟩
theorem isM_back {f r : Nat} (hM : isM S k n T) (hr : r < n) (hw : wF (T 4) (nI f) n 0 = nI r) : isM (u2 (u2 (u2 S.1 k (7 * r + 3 + 2) (nI r)) k (7 * f + 3 + 2) (nI f)) k (7 * f + 6 + 2) 0, S.2) k n (backT n T f) := by
  have hn8 := hM.2.1
  unfold backT
  rw [if_neg (by rw [hw]; exact nI_neN (by omega)), hw, nI_clamp (by omega)]
  exact isM_put (S := (u2 (u2 S.1 k (7 * r + 3 + 2) (nI r)) k (7 * f + 3 + 2) (nI f), S.2)) (isM_put (S := (u2 S.1 k (7 * r + 3 + 2) (nI r), S.2)) (isM_put (j := 3) hM rfl (by decide)) rfl (by decide)) rfl (by decide)
theorem frM_back {f r : Nat} {S0 : zSt} (h : frM k S0 S) : frM k S0 (u2 (u2 (u2 S.1 k (7 * r + 3 + 2) (nI r)) k (7 * f + 3 + 2) (nI f)) k (7 * f + 6 + 2) 0, S.2) :=
  frM.put (S := (u2 (u2 S.1 k (7 * r + 3 + 2) (nI r)) k (7 * f + 3 + 2) (nI f), S.2)) (frM.put (S := (u2 S.1 k (7 * r + 3 + 2) (nI r), S.2)) (frM.put h))
/-- whom the month needs: numbers that can be places, LENT 0 .. 12, a wearer of what is lent -/
def MW (n : Nat) (T : Nat → Nat → Int32) : Prop := VW n T ∧ ∀ f, f < n → ∃ m, m < 13 ∧ T 7 f = nI m ∧ (¬ m = 0 → ∃ r, r < n ∧ ¬ r = f ∧ T 4 r = nI f ∧ T 4 f = 9 ∧ ∀ q, q < n → T 4 q = nI f → q = r)
theorem wF_of {W : Nat → Int32} {f : Int32} {r : Nat} (hr : W r = f) : ∀ (k i : Nat), i ≤ r → r < i + k → (∀ q, i ≤ q → q < i + k → W q = f → q = r) → wF W f k i = nI r := by
  intro k
  induction k with
  | zero => intro i h1 h2; omega
  | succ k ih =>
    intro i h1 h2 hu
    unfold wF
    by_cases e : W i = f
    · rw [if_pos e, hu i (Nat.le_refl i) (by omega) e]
    · rw [if_neg e]
      have : ¬ i = r := fun z => e (by rw [z]; exact hr)
      exact ih (i + 1) (by omega) (by omega) (fun q a b c => hu q (by omega) (by omega) c)
theorem MW.wearer {f r : Nat} (hr : r < n) (h : T 4 r = nI f) (hu : ∀ q, q < n → T 4 q = nI f → q = r) : wF (T 4) (nI f) n 0 = nI r :=
  wF_of h n 0 (Nat.zero_le r) (by omega) (fun q _ hq e => hu q (by omega) e)
theorem MW.wear1 {p : Nat} (h : MW n T) : MW n (wear1 n T p) := by
  refine ⟨h.1.wear1, fun f hf => ?_⟩
  obtain ⟨m, h1, h2, h3⟩ := h.2 f hf
  refine ⟨m, h1, by rw [wear1_w (by decide) (by decide)]; exact h2, fun hm => ?_⟩
  obtain ⟨r, a1, a2, a3, a4, a5⟩ := h3 hm
  exact ⟨r, a1, a2, by rw [wear1_w (by decide) (by decide)]; exact a3, by rw [wear1_w (by decide) (by decide)]; exact a4, fun q hq e => a5 q hq (by rw [wear1_w (by decide) (by decide)] at e; exact e)⟩
theorem back_4 {f r q : Nat} (hn8 : n ≤ 8) (hr : r < n) (hw : wF (T 4) (nI f) n 0 = nI r) : backT n T f 4 q = if q = f then nI f else if q = r then nI r else T 4 q := by
  unfold backT
  rw [if_neg (by rw [hw]; exact nI_neN (by omega)), hw, nI_clamp (by omega), u2_w (by decide)]
  by_cases e : q = f
  · subst e; rw [u2_self, if_pos rfl]
  · rw [u2_ne (fun z => e z.2), if_neg e]
    by_cases e2 : q = r
    · subst e2; rw [u2_self, if_pos rfl]
    · rw [u2_ne (fun z => e2 z.2), if_neg e2]
theorem back_7 {f q : Nat} : backT n T f 7 q = if q = f then 0 else T 7 q := by
  unfold backT
  by_cases e : q = f
  · subst e; rw [u2_self, if_pos rfl]
  · rw [u2_ne (fun z => e z.2), u2_w (by decide), if_neg e]
    split
    · rfl
    · rw [u2_w (by decide)]
theorem MW.back {f : Nat} (hn8 : n ≤ 8) (h : MW n T) (hf : f < n) (hl : ¬ T 7 f = 0) : MW n (backT n T f) := by
  obtain ⟨m, h1, h2, h3⟩ := h.2 f hf
  obtain ⟨r, a1, a2, a3, a4, a5⟩ := h3 (fun z => hl (by rw [h2, z]; rfl))
  have hw := MW.wearer a1 a3 a5
  refine ⟨h.1.back hn8 hf, fun g hg => ?_⟩
  rw [back_7]
  by_cases e : g = f
  · subst e
    rw [if_pos rfl]
    exact ⟨0, by decide, rfl, fun z => absurd rfl z⟩
  · rw [if_neg e]
    obtain ⟨m', b1, b2, b3⟩ := h.2 g hg
    refine ⟨m', b1, b2, fun hm => ?_⟩
    obtain ⟨r', c1, c2, c3, c4, c5⟩ := b3 hm
    have hr'f : ¬ r' = f := fun z => by rw [z, a4] at c3; exact nI_ne9 (by omega) c3.symm
    have hr'r : ¬ r' = r := fun z => by rw [z, a3, nI_eq (by omega) (by omega)] at c3; exact e c3.symm
    have hgr : ¬ g = r := fun z => by rw [z, a3] at c4; exact nI_ne9 (by omega) c4
    refine ⟨r', c1, c2, ?_, ?_, fun q hq he => ?_⟩
    · rw [back_4 hn8 a1 hw, if_neg hr'f, if_neg hr'r]; exact c3
    · rw [back_4 hn8 a1 hw, if_neg e, if_neg hgr]; exact c4
    · rw [back_4 hn8 a1 hw] at he
      by_cases q1 : q = f
      · rw [if_pos q1, nI_eq (by omega) (by omega)] at he; exact absurd he.symm e
      · rw [if_neg q1] at he
        by_cases q2 : q = r
        · rw [if_pos q2, nI_eq (by omega) (by omega)] at he; exact absurd he.symm hgr
        · rw [if_neg q2] at he; exact c5 q hq he
theorem nI_12 {m : Nat} (h : m < 13) : ((12 : Int32) ≤ nI m ↔ m = 12) ∧ ((0 : Int32) < nI m ↔ ¬ m = 0) ∧ (nI m = 12 ↔ m = 12) ∧ (nI m = 0 ↔ m = 0) := by
  refine ⟨?_, ?_, ?_, ?_⟩
  · rw [show (12 : Int32) = nI 12 from rfl, nI_leI (by omega) (by omega)]; omega
  · rw [show (0 : Int32) = nI 0 from rfl, nI_ltI (by omega) (by omega)]; omega
  · rw [show (12 : Int32) = nI 12 from rfl, nI_eq (by omega) (by omega)]
  · rw [show (0 : Int32) = nI 0 from rfl, nI_eq (by omega) (by omega)]
theorem MW_lend1 {f : Nat} (hn8 : n ≤ 8) (h : MW n T) (hf : f < n) : MW n (lend1 n T f) := by
  obtain ⟨m, h1, h2, h3⟩ := h.2 f hf
  obtain ⟨e1, e2, e3, e4⟩ := nI_12 h1
  unfold lend1
  split
  · rename_i hc
    rw [h2, e1] at hc
    exact h.back hn8 hf (by rw [h2, e4]; omega)
  · rename_i hc
    rw [h2, e1] at hc
    split
    · rename_i hc2
      rw [h2, e2] at hc2
      refine ⟨fun q hq => by rw [u2_w (by decide), u2_w (by decide)]; exact h.1 q hq, fun g hg => ?_⟩
      by_cases e : g = f
      · subst e
        rw [u2_self]
        refine ⟨m + 1, by omega, by rw [h2, nI_1], fun _ => ?_⟩
        obtain ⟨r, a1, a2, a3, a4, a5⟩ := h3 hc2
        exact ⟨r, a1, a2, by rw [u2_w (by decide)]; exact a3, by rw [u2_w (by decide)]; exact a4, fun q hq e => a5 q hq (by rw [u2_w (by decide)] at e; exact e)⟩
      · rw [u2_ne (fun z => e z.2)]
        obtain ⟨m', b1, b2, b3⟩ := h.2 g hg
        refine ⟨m', b1, b2, fun hm => ?_⟩
        obtain ⟨r, a1, a2, a3, a4, a5⟩ := b3 hm
        exact ⟨r, a1, a2, by rw [u2_w (by decide)]; exact a3, by rw [u2_w (by decide)]; exact a4, fun q hq e => a5 q hq (by rw [u2_w (by decide)] at e; exact e)⟩
    · exact h
theorem u2_u2 {T : Nat → Nat → Int32} {a c : Nat} {u v : Int32} : u2 (u2 T a c u) a c v = u2 T a c v := by
  funext i j; unfold u2; split <;> rfl
theorem u2_comm {T : Nat → Nat → Int32} {a c a' c' : Nat} {u v : Int32} (h : ¬ (a = a' ∧ c = c')) : u2 (u2 T a c u) a' c' v = u2 (u2 T a' c' v) a c u := by
  funext i j
  unfold u2
  by_cases e : i = a ∧ j = c
  · have e2 : ¬ (i = a' ∧ j = c') := fun z => h ⟨e.1.symm.trans z.1, e.2.symm.trans z.2⟩
    rw [if_neg e2, if_pos e, if_pos e]
  · rw [if_neg e, if_neg e]
/-- LENT is 1 more, then it comes back: as if it came back at once -/
theorem back_more {f : Nat} {v : Int32} : backT n (u2 T 7 f v) f = backT n T f := by
  have e4 : (u2 T 7 f v) 4 = T 4 := by funext q; exact u2_w (by decide)
  unfold backT
  rw [e4]
  split
  · rw [u2_comm (a := 7) (c := f) (a' := 4) (c' := f) (by omega), u2_u2]
  · rw [u2_comm (a := 7) (c := f) (a' := 4) (by omega), u2_comm (a := 7) (c := f) (a' := 4) (by omega), u2_u2]

set_option maxRecDepth 100000 in
set_option maxHeartbeats 4000000 in
theorem l1_X9_month (hk : 0 < k ∧ k < 6) {post : Option Value → zSt → Prop} : ∀ (q i : Nat) (S : zSt) (T : Nat → Nat → Int32), i + q = n → isM S k n T → MW n T →
    (∀ S', isM S' k n (wearF n q i T) → MW n (wearF n q i T) → S'.1 k 1 = S.1 k 1 → frM k S S' → zZ x false mX9_month post 86 [(0, .ref (zad x k))] [] S') → zZ x false mX9_month post 9 [(0, .ref (zad x k)), (1, .int (nI i))] [] S := by
  intro q
  induction q with
  | zero =>
    intro i S T hi hM hW kk
    have hn8 := hM.2.1
    refine ziload_n dX9_month_9 rfl ?_
    refine zaload_n dX9_month_10 rfl ?_
    refine ziconst (v := nI 0) dX9_month_11 (by decide) ?_
    refine ziald dX9_month_12 (mrk hk.2) (mrl hk.1 hk.2) (by decide) (by decide) ?_
    rw [hM.1]
    refine zicmp_ge (tgt := 86) dX9_month_13 (by decide) (fun _ => ?_) (fun h => absurd (nI_le (by omega) (by omega)) h)
    exact zlvs (lv' := [(0, .ref (zad x k))]) ⟨rfl, trivial⟩ (kk S hM hW rfl frM.rf)
  | succ q ih =>
    intro i S T hi hM hW kk
    have hn8 := hM.2.1
    obtain ⟨hw, kd, hkd, hkk⟩ := hW.1 i (by omega)
    rcases hw with h9 | ⟨f, hf, h9⟩
    · refine ziload_n dX9_month_9 rfl ?_
      refine zaload_n dX9_month_10 rfl ?_
      refine ziconst (v := nI 0) dX9_month_11 (by decide) ?_
      refine ziald dX9_month_12 (mrk hk.2) (mrl hk.1 hk.2) (by decide) (by decide) ?_
      rw [hM.1]
      refine zicmp_ge (tgt := 86) dX9_month_13 (by decide) (fun h => absurd h (nI_ge (by omega) (by omega))) (fun _ => ?_)
      refine zaload_n dX9_month_16 rfl ?_
      refine ziload_n dX9_month_17 rfl ?_
      refine ziconst (v := nI 3) dX9_month_18 (by decide) ?_
      refine zcSf gk_X9_52 dX9_month_19 (c_X9_of (j := 3)) rfl (by decide) (Nat.le_of_ble_eq_true rfl) ?_ rfl
      refine zialM (k := k) (j := 3) (w := 4) dX9_month_22 hk hM rfl (by decide) (by omega) ?_
      rw [h9]
      refine zistore_n dX9_month_23 (by decide) rfl ?_
      refine ziload_n dX9_month_24 rfl ?_
      refine zbipush (v := 9) dX9_month_25 (by decide) ?_
      refine zicmp_ne (tgt := 33) dX9_month_27 (by decide) (fun h => absurd rfl h) (fun _ => ?_)
      refine zgoto (tgt := 80) dX9_month_30 (by decide) ?_
      refine ziinc dX9_month_80 rfl rfl (by decide) rfl ?_
      refine zgoto (tgt := 9) dX9_month_83 (by decide) ?_
      refine zlvs (lv' := [(0, .ref (zad x k)), (1, .int (nI (i + 1)))]) ⟨rfl, by rw [← nI_1]; rfl, trivial⟩ ?_
      have e : wear1 n T i = T := by unfold wear1; rw [if_pos h9]
      exact ih (i + 1) S T (by omega) hM hW (fun S2 h1 h2 h3 h4 => kk S2 (by rw [wearF, e]; exact h1) (by rw [wearF, e]; exact h2) h3 h4)
    · refine ziload_n dX9_month_9 rfl ?_
      refine zaload_n dX9_month_10 rfl ?_
      refine ziconst (v := nI 0) dX9_month_11 (by decide) ?_
      refine ziald dX9_month_12 (mrk hk.2) (mrl hk.1 hk.2) (by decide) (by decide) ?_
      rw [hM.1]
      refine zicmp_ge (tgt := 86) dX9_month_13 (by decide) (fun h => absurd h (nI_ge (by omega) (by omega))) (fun _ => ?_)
      refine zaload_n dX9_month_16 rfl ?_
      refine ziload_n dX9_month_17 rfl ?_
      refine ziconst (v := nI 3) dX9_month_18 (by decide) ?_
      refine zcSf gk_X9_52 dX9_month_19 (c_X9_of (j := 3)) rfl (by decide) (Nat.le_of_ble_eq_true rfl) ?_ rfl
      refine zialM (k := k) (j := 3) (w := 4) dX9_month_22 hk hM rfl (by decide) (by omega) ?_
      rw [h9]
      refine zistore_n dX9_month_23 (by decide) rfl ?_
      refine ziload_n dX9_month_24 rfl ?_
      refine zbipush (v := 9) dX9_month_25 (by decide) ?_
      refine zicmp_ne (tgt := 33) dX9_month_27 (by decide) (fun _ => ?_) (fun h => absurd h (nI_ne9 (by omega)))
      refine zaload_n dX9_month_33 rfl ?_
      refine ziload_n dX9_month_34 rfl ?_
      refine ziconst (v := nI 4) dX9_month_35 (by decide) ?_
      refine zcSf gk_X9_52 dX9_month_36 (c_X9_of (j := 4)) rfl (by decide) (Nat.le_of_ble_eq_true rfl) ?_ rfl
      refine zaload_n dX9_month_39 rfl ?_
      refine ziload_n dX9_month_40 rfl ?_
      refine ziconst (v := nI 4) dX9_month_41 (by decide) ?_
      refine zcSf gk_X9_52 dX9_month_42 (c_X9_of (j := 4)) rfl (by decide) (Nat.le_of_ble_eq_true rfl) ?_ rfl
      refine zialM (k := k) (j := 4) (w := 5) dX9_month_45 hk hM rfl (by decide) (by omega) ?_
      refine zaload_n dX9_month_46 rfl ?_
      refine ziload_n dX9_month_47 rfl ?_
      refine ziload_n dX9_month_48 rfl ?_
      refine zcSf  gk_X9_72 dX9_month_49 (c_X9_fameBy hk hM (by omega) hkd hkk) rfl (by decide) (Nat.le_of_ble_eq_true rfl) ?_ rfl
      refine ziadd dX9_month_52 ?_
      refine zcSf  gk_X9_75 dX9_month_53 c_X9_held rfl (by decide) (Nat.le_of_ble_eq_true rfl) ?_ rfl
      refine ziast dX9_month_56 (mrk hk.2) (mrl hk.1 hk.2) (by decide) (by omega) ?_
      have hM := isM_put (j := 4) (p := f) (v := held (T 5 f + fch (T 1 i) (T 2 i) (knowers n T (nI f)))) hM rfl (by decide)
      refine zaload_n dX9_month_57 rfl ?_
      refine ziload_n dX9_month_58 rfl ?_
      refine ziconst (v := nI 5) dX9_month_59 (by decide) ?_
      refine zcSf gk_X9_52 dX9_month_60 (c_X9_of (j := 5)) rfl (by decide) (Nat.le_of_ble_eq_true rfl) ?_ rfl
      refine zaload_n dX9_month_63 rfl ?_
      refine ziload_n dX9_month_64 rfl ?_
      refine ziconst (v := nI 5) dX9_month_65 (by decide) ?_
      refine zcSf gk_X9_52 dX9_month_66 (c_X9_of (j := 5)) rfl (by decide) (Nat.le_of_ble_eq_true rfl) ?_ rfl
      refine zialM (k := k) (j := 5) (w := 6) dX9_month_69 hk hM rfl (by decide) (by omega) ?_
      refine zaload_n dX9_month_70 rfl ?_
      refine ziload_n dX9_month_71 rfl ?_
      refine zcSf  gk_X9_78 dX9_month_72 (c_X9_scarsBy hk hM (by omega)) rfl (by decide) (Nat.le_of_ble_eq_true rfl) ?_ rfl
      refine ziadd dX9_month_75 ?_
      refine zcSf  gk_X9_75 dX9_month_76 c_X9_held rfl (by decide) (Nat.le_of_ble_eq_true rfl) ?_ rfl
      refine ziast dX9_month_79 (mrk hk.2) (mrl hk.1 hk.2) (by decide) (by omega) ?_
      refine ziinc dX9_month_80 rfl rfl (by decide) rfl ?_
      refine zgoto (tgt := 9) dX9_month_83 (by decide) ?_
      refine zlvs (lv' := [(0, .ref (zad x k)), (1, .int (nI (i + 1)))]) ⟨rfl, by rw [← nI_1]; rfl, trivial⟩ ?_
      have e : wear1 n T i = u2 (u2 T 5 f (held (T 5 f + fch (T 1 i) (T 2 i) (knowers n T (nI f))))) 6 f (held (T 6 f + sch (T 1 i) (T 2 i))) := by unfold wear1; rw [if_neg (by rw [h9]; exact nI_ne9 (by omega)), h9, nI_clamp (by omega)]
      refine ih (i + 1) _ (wear1 n T i) (by omega) (by rw [e]; exact isM_put (j := 5) hM rfl (by decide)) hW.wear1 (fun S2 h1 h2 h3 h4 => kk S2 h1 h2 (h3.trans ?_) (frM.trans (frM.put (S := (u2 S.1 k _ _, S.2)) (frM.put frM.rf)) h4))
      show u2 (u2 S.1 k _ _) k _ _ k 1 = _
      rw [u2_ne (by omega), u2_ne (by omega)]
set_option maxRecDepth 100000 in
set_option maxHeartbeats 4000000 in
theorem l2_X9_month (hk : 0 < k ∧ k < 6) {post : Option Value → zSt → Prop} : ∀ (q i : Nat) (S : zSt) (T : Nat → Nat → Int32), i + q = n → isM S k n T → MW n T →
    (∀ S', isM S' k n (lendF n q i T) → MW n (lendF n q i T) → S'.1 k 1 = S.1 k 1 → frM k S S' → post none S') → zZ x false mX9_month post 88 [(0, .ref (zad x k)), (1, .int (nI i))] [] S := by
  intro q
  induction q with
  | zero =>
    intro i S T hi hM hW kk
    have hn8 := hM.2.1
    refine ziload_n dX9_month_88 rfl ?_
    refine zaload_n dX9_month_89 rfl ?_
    refine ziconst (v := nI 0) dX9_month_90 (by decide) ?_
    refine ziald dX9_month_91 (mrk hk.2) (mrl hk.1 hk.2) (by decide) (by decide) ?_
    rw [hM.1]
    refine zicmp_ge (tgt := 145) dX9_month_92 (by decide) (fun _ => ?_) (fun h => absurd (nI_le (by omega) (by omega)) h)
    exact zreturn dX9_month_145 rfl (kk S hM hW rfl frM.rf)
  | succ q ih =>
    intro i S T hi hM hW kk
    have hn8 := hM.2.1
    obtain ⟨m, h1, h2, h3⟩ := hW.2 i (by omega)
    obtain ⟨e1, e2, e3, e4⟩ := nI_12 h1
    by_cases hm : m = 0
    · refine ziload_n dX9_month_88 rfl ?_
      refine zaload_n dX9_month_89 rfl ?_
      refine ziconst (v := nI 0) dX9_month_90 (by decide) ?_
      refine ziald dX9_month_91 (mrk hk.2) (mrl hk.1 hk.2) (by decide) (by decide) ?_
      rw [hM.1]
      refine zicmp_ge (tgt := 145) dX9_month_92 (by decide) (fun h => absurd h (nI_ge (by omega) (by omega))) (fun _ => ?_)
      refine zaload_n dX9_month_95 rfl ?_
      refine ziload_n dX9_month_96 rfl ?_
      refine zbipush (v := nI 6) dX9_month_97 (by decide) ?_
      refine zcSf gk_X9_52 dX9_month_99 (c_X9_of (j := 6)) rfl (by decide) (Nat.le_of_ble_eq_true rfl) ?_ rfl
      refine zialM (k := k) (j := 6) (w := 7) dX9_month_102 hk hM rfl (by decide) (by omega) ?_
      rw [h2]
      refine zistore_n dX9_month_103 (by decide) rfl ?_
      refine ziload_n dX9_month_104 rfl ?_
      refine zif_ne (tgt := 111) dX9_month_105 (by decide) (fun h => absurd (e4.mpr hm) h) (fun _ => ?_)
      refine zgoto (tgt := 139) dX9_month_108 (by decide) ?_
      refine ziinc dX9_month_139 rfl rfl (by decide) rfl ?_
      refine zgoto (tgt := 88) dX9_month_142 (by decide) ?_
      refine zlvs (lv' := [(0, .ref (zad x k)), (1, .int (nI (i + 1)))]) ⟨rfl, by rw [← nI_1]; rfl, trivial⟩ ?_
      have e : lend1 n T i = T := by unfold lend1; rw [h2, if_neg (by rw [e1]; omega), if_neg (by rw [e2]; omega)]
      exact ih (i + 1) S T (by omega) hM hW (fun S2 h1 h2 h3 h4 => kk S2 (by rw [lendF, e]; exact h1) (by rw [lendF, e]; exact h2) h3 h4)
    · by_cases h12 : m = 12
      · obtain ⟨r, a1, a2, a3, a4, a5⟩ := h3 hm
        have hw := MW.wearer a1 a3 a5
        refine ziload_n dX9_month_88 rfl ?_
        refine zaload_n dX9_month_89 rfl ?_
        refine ziconst (v := nI 0) dX9_month_90 (by decide) ?_
        refine ziald dX9_month_91 (mrk hk.2) (mrl hk.1 hk.2) (by decide) (by decide) ?_
        rw [hM.1]
        refine zicmp_ge (tgt := 145) dX9_month_92 (by decide) (fun h => absurd h (nI_ge (by omega) (by omega))) (fun _ => ?_)
        refine zaload_n dX9_month_95 rfl ?_
        refine ziload_n dX9_month_96 rfl ?_
        refine zbipush (v := nI 6) dX9_month_97 (by decide) ?_
        refine zcSf gk_X9_52 dX9_month_99 (c_X9_of (j := 6)) rfl (by decide) (Nat.le_of_ble_eq_true rfl) ?_ rfl
        refine zialM (k := k) (j := 6) (w := 7) dX9_month_102 hk hM rfl (by decide) (by omega) ?_
        rw [h2]
        refine zistore_n dX9_month_103 (by decide) rfl ?_
        refine ziload_n dX9_month_104 rfl ?_
        refine zif_ne (tgt := 111) dX9_month_105 (by decide) (fun _ => ?_) (fun h => absurd h (fun z => hm (e4.mp z)))
        refine zaload_n dX9_month_111 rfl ?_
        refine ziload_n dX9_month_112 rfl ?_
        refine zbipush (v := nI 6) dX9_month_113 (by decide) ?_
        refine zcSf gk_X9_52 dX9_month_115 (c_X9_of (j := 6)) rfl (by decide) (Nat.le_of_ble_eq_true rfl) ?_ rfl
        refine ziload_n dX9_month_118 rfl ?_
        refine ziconst (v := 1) dX9_month_119 (by decide) ?_
        refine ziadd dX9_month_120 ?_
        refine ziast dX9_month_121 (mrk hk.2) (mrl hk.1 hk.2) (by decide) (by omega) ?_
        have hM2 := isM_put (j := 6) (p := i) (v := nI m + 1) hM rfl (by decide)
        refine ziload_n dX9_month_122 rfl ?_
        refine zbipush (v := 12) dX9_month_123 (by decide) ?_
        refine zicmp_ne (tgt := 136) dX9_month_125 (by decide) (fun h => absurd (e3.mpr h12) h) (fun _ => ?_)
        refine zaload_n dX9_month_128 rfl ?_
        refine ziload_n dX9_month_129 rfl ?_
        refine zcSf  gk_X9_81 dX9_month_130 (c_X9_comesBack hk hM2 (f := i) (by omega) a1 (by rw [show (u2 T 7 i (nI m + 1)) 4 = T 4 from funext (fun _ => u2_w (by decide))]; exact hw)) rfl (by decide) (Nat.le_of_ble_eq_true rfl) ?_ rfl
        refine zgoto (tgt := 138) dX9_month_133 (by decide) ?_
        refine zistore_n dX9_month_138 (by decide) rfl ?_
        refine ziinc dX9_month_139 rfl rfl (by decide) rfl ?_
        refine zgoto (tgt := 88) dX9_month_142 (by decide) ?_
        refine zlvs (lv' := [(0, .ref (zad x k)), (1, .int (nI (i + 1)))]) ⟨rfl, by rw [← nI_1]; rfl, trivial⟩ ?_
        have e : lend1 n T i = backT n (u2 T 7 i (nI m + 1)) i := by unfold lend1; rw [h2, if_pos (e1.mpr h12), back_more]
        refine ih (i + 1) _ (lend1 n T i) (by omega) (by rw [e]; exact isM_back hM2 a1 (by rw [show (u2 T 7 i (nI m + 1)) 4 = T 4 from funext (fun _ => u2_w (by decide))]; exact hw)) (MW_lend1 hn8 hW (by omega)) (fun S2 h1 h2 h3 h4 => kk S2 h1 h2 (h3.trans ?_) (frM.trans (frM_back (S := (u2 S.1 k _ _, S.2)) (frM.put frM.rf)) h4))
        show u2 (u2 (u2 (u2 S.1 k _ _) k _ _) k _ _) k _ _ k 1 = _
        rw [u2_ne (by omega), u2_ne (by omega), u2_ne (by omega), u2_ne (by omega)]
      · refine ziload_n dX9_month_88 rfl ?_
        refine zaload_n dX9_month_89 rfl ?_
        refine ziconst (v := nI 0) dX9_month_90 (by decide) ?_
        refine ziald dX9_month_91 (mrk hk.2) (mrl hk.1 hk.2) (by decide) (by decide) ?_
        rw [hM.1]
        refine zicmp_ge (tgt := 145) dX9_month_92 (by decide) (fun h => absurd h (nI_ge (by omega) (by omega))) (fun _ => ?_)
        refine zaload_n dX9_month_95 rfl ?_
        refine ziload_n dX9_month_96 rfl ?_
        refine zbipush (v := nI 6) dX9_month_97 (by decide) ?_
        refine zcSf gk_X9_52 dX9_month_99 (c_X9_of (j := 6)) rfl (by decide) (Nat.le_of_ble_eq_true rfl) ?_ rfl
        refine zialM (k := k) (j := 6) (w := 7) dX9_month_102 hk hM rfl (by decide) (by omega) ?_
        rw [h2]
        refine zistore_n dX9_month_103 (by decide) rfl ?_
        refine ziload_n dX9_month_104 rfl ?_
        refine zif_ne (tgt := 111) dX9_month_105 (by decide) (fun _ => ?_) (fun h => absurd h (fun z => hm (e4.mp z)))
        refine zaload_n dX9_month_111 rfl ?_
        refine ziload_n dX9_month_112 rfl ?_
        refine zbipush (v := nI 6) dX9_month_113 (by decide) ?_
        refine zcSf gk_X9_52 dX9_month_115 (c_X9_of (j := 6)) rfl (by decide) (Nat.le_of_ble_eq_true rfl) ?_ rfl
        refine ziload_n dX9_month_118 rfl ?_
        refine ziconst (v := 1) dX9_month_119 (by decide) ?_
        refine ziadd dX9_month_120 ?_
        refine ziast dX9_month_121 (mrk hk.2) (mrl hk.1 hk.2) (by decide) (by omega) ?_
        refine ziload_n dX9_month_122 rfl ?_
        refine zbipush (v := 12) dX9_month_123 (by decide) ?_
        refine zicmp_ne (tgt := 136) dX9_month_125 (by decide) (fun _ => ?_) (fun h => absurd h (fun z => h12 (e3.mp z)))
        refine zbipush (v := -9) dX9_month_136 (by decide) ?_
        refine zistore_n dX9_month_138 (by decide) rfl ?_
        refine ziinc dX9_month_139 rfl rfl (by decide) rfl ?_
        refine zgoto (tgt := 88) dX9_month_142 (by decide) ?_
        refine zlvs (lv' := [(0, .ref (zad x k)), (1, .int (nI (i + 1)))]) ⟨rfl, by rw [← nI_1]; rfl, trivial⟩ ?_
        have e : lend1 n T i = u2 T 7 i (nI m + 1) := by unfold lend1; rw [h2, if_neg (fun z => h12 (e1.mp z)), if_pos (e2.mpr hm)]
        refine ih (i + 1) _ (lend1 n T i) (by omega) (by rw [e]; exact isM_put (j := 6) hM rfl (by decide)) (MW_lend1 hn8 hW (by omega)) (fun S2 h1 h2 h3 h4 => kk S2 h1 h2 (h3.trans ?_) (frM.trans (frM.put frM.rf) h4))
        show u2 S.1 k _ _ k 1 = _
        rw [u2_ne (by omega)]
set_option maxRecDepth 100000 in
set_option maxHeartbeats 4000000 in
theorem c_X9_month (hk : 0 < k ∧ k < 6) (hM : isM S k n T) (hW : MW n T) : zV x false mX9_month [.ref (zad x k)] S (fun S' => isM S' k n (monthT n T) ∧ MW n (monthT n T) ∧ S'.1 k 1 = S.1 k 1 + 1 ∧ frM k S S') := by
  refine zC_of (by decide +kernel) (Nat.le_of_ble_eq_true rfl) ?_
  refine zaload_n dX9_month_0 rfl ?_
  refine ziconst (v := nI 1) dX9_month_1 (by decide) ?_
  refine zdup2_11 dX9_month_2 rfl rfl ?_
  refine ziald dX9_month_3 (mrk hk.2) (mrl hk.1 hk.2) (by decide) (by decide) ?_
  refine ziconst (v := 1) dX9_month_4 (by decide) ?_
  refine ziadd dX9_month_5 ?_
  refine ziast dX9_month_6 (mrk hk.2) (mrl hk.1 hk.2) (by decide) (by omega) ?_
  refine ziconst (v := 0) dX9_month_7 (by decide) ?_
  refine zistore_n dX9_month_8 (by decide) rfl ?_
  refine zlvs (lv' := [(0, .ref (zad x k)), (1, .int (nI 0))]) ⟨rfl, rfl, trivial⟩ ?_
  refine l1_X9_month hk n 0 _ T (by omega) (isM_month hM) hW (fun S2 hM2 hW2 hg2 hf2 => ?_)
  refine ziconst (v := 0) dX9_month_86 (by decide) ?_
  refine zistore_n dX9_month_87 (by decide) rfl ?_
  refine zlvs (lv' := [(0, .ref (zad x k)), (1, .int (nI 0))]) ⟨rfl, rfl, trivial⟩ ?_
  refine l2_X9_month hk n 0 _ _ (by omega) hM2 hW2 (fun S3 hM3 hW3 hg3 hf3 => ⟨rfl, hM3, hW3, ?_, frM.trans (frM.put frM.rf) (hf2.trans hf3)⟩)
  rw [hg3, hg2]
  show u2 S.1 k 1 _ k 1 = _
  rw [u2_self]
theorem monthsT_succ : ∀ (q : Nat) (T : Nat → Nat → Int32), monthsT n (q + 1) T = monthsT n q (monthT n T) := fun _ _ => rfl
set_option maxRecDepth 100000 in
set_option maxHeartbeats 4000000 in
theorem l_X9_monthsOn (hk : 0 < k ∧ k < 6) {K : Nat} (hK : K < 2 ^ 31) {post : Option Value → zSt → Prop} : ∀ (q j : Nat) (S : zSt) (T : Nat → Nat → Int32), j + q = K → isM S k n T → MW n T →
    (∀ S', isM S' k n (monthsT n q T) → MW n (monthsT n q T) → S'.1 k 1 = S.1 k 1 + nI q → frM k S S' → post none S') → zZ x false mX9_monthsOn post 2 [(0, .ref (zad x k)), (1, .int (nI K)), (2, .int (nI j))] [] S := by
  intro q
  induction q with
  | zero =>
    intro j S T hj hM hW kk
    refine ziload_n dX9_monthsOn_2 rfl ?_
    refine ziload_n dX9_monthsOn_3 rfl ?_
    refine zicmp_ge (tgt := 17) dX9_monthsOn_4 (by decide) (fun _ => ?_) (fun h => absurd (nI_le (by omega) (by omega)) h)
    exact zreturn dX9_monthsOn_17 rfl (kk S hM hW (by rw [show nI 0 = 0 from rfl, Int32.add_zero]) frM.rf)
  | succ q ih =>
    intro j S T hj hM hW kk
    refine ziload_n dX9_monthsOn_2 rfl ?_
    refine ziload_n dX9_monthsOn_3 rfl ?_
    refine zicmp_ge (tgt := 17) dX9_monthsOn_4 (by decide) (fun h => absurd h (nI_ge (by omega) (by omega))) (fun _ => ?_)
    refine zaload_n dX9_monthsOn_7 rfl ?_
    refine zcSn  gk_X9_84 dX9_monthsOn_8 (c_X9_month hk hM hW) rfl (by decide) (Nat.le_of_ble_eq_true rfl) (fun S2 hp2 => ?_) rfl
    obtain ⟨hM2, hW2, hg2, hf2⟩ := hp2
    refine ziinc dX9_monthsOn_11 rfl rfl (by decide) rfl ?_
    refine zgoto (tgt := 2) dX9_monthsOn_14 (by decide) ?_
    refine zlvs (lv' := [(0, .ref (zad x k)), (1, .int (nI K)), (2, .int (nI (j + 1)))]) ⟨rfl, rfl, by rw [← nI_1]; rfl, trivial⟩ ?_
    exact ih (j + 1) S2 _ (by omega) hM2 hW2 (fun S3 h1 h2 h3 h4 => kk S3 h1 h2 (by rw [h3, hg2, nI_succ, Int32.add_assoc, Int32.add_comm 1 (nI q)]) (hf2.trans h4))
set_option maxRecDepth 100000 in
set_option maxHeartbeats 4000000 in
theorem c_X9_monthsOn (hk : 0 < k ∧ k < 6) (hM : isM S k n T) (hW : MW n T) {K : Nat} (hK : K < 2 ^ 31) : zV x false mX9_monthsOn [.ref (zad x k), .int (nI K)] S (fun S' => isM S' k n (monthsT n K T) ∧ MW n (monthsT n K T) ∧ S'.1 k 1 = S.1 k 1 + nI K ∧ frM k S S') := by
  refine zC_of (by decide +kernel) (Nat.le_of_ble_eq_true rfl) ?_
  refine ziconst (v := 0) dX9_monthsOn_0 (by decide) ?_
  refine zistore_n dX9_monthsOn_1 (by decide) rfl ?_
  refine zlvs (lv' := [(0, .ref (zad x k)), (1, .int (nI K)), (2, .int (nI 0))]) ⟨rfl, rfl, rfl, trivial⟩ ?_
  exact l_X9_monthsOn hk hK K 0 S T (by omega) hM hW (fun S2 h1 h2 h3 h4 => ⟨rfl, h1, h2, h3, h4⟩)
end MODEL2
