/-! quarrel -/
section ODDS3
variable {x : zCx} {S : zSt} {σ σ' : Sig}
def loQ (n t v : Int32) : Int32 := fO (if n < 0 then -4 else 0) (fO (if t < 2 then -4 else 0) (if v < 0 then -4 else 0))
def hiQ (n t v : Int32) : Int32 := fO (if 7 < n then -6 else 0) (fO (if 20 < t then -6 else 0) (if 99 < v then -6 else 0))
theorem okE_lo (n t v : Int32) : okE (loQ n t v) := by unfold loQ; exact okE_fO (by split; exact Or.inr isE_4; exact Or.inl rfl) (okE_fO (by split; exact Or.inr isE_4; exact Or.inl rfl) (by split; exact Or.inr isE_4; exact Or.inl rfl))
theorem okE_hi (n t v : Int32) : okE (hiQ n t v) := by unfold hiQ; exact okE_fO (by split; exact Or.inr isE_6; exact Or.inl rfl) (okE_fO (by split; exact Or.inr isE_6; exact Or.inl rfl) (by split; exact Or.inr isE_6; exact Or.inl rfl))
theorem loQ_4 {n t v : Int32} (h : n < 0 ∨ v < 0 ∨ t < 2) : loQ n t v = -4 := by
  unfold loQ
  by_cases h1 : n < 0
  · rw [if_pos h1, fO_4]
  · rw [if_neg h1, fO_z]
    by_cases h2 : t < 2
    · rw [if_pos h2, fO_4]
    · rw [if_neg h2, fO_z]
      rcases h with h | h | h
      · exact absurd h h1
      · rw [if_pos h]
      · exact absurd h h2
theorem loQ_z {n t v : Int32} (h1 : ¬ n < 0) (h2 : ¬ v < 0) (h3 : ¬ t < 2) : loQ n t v = 0 := by unfold loQ; rw [if_neg h1, if_neg h2, if_neg h3]; rfl
theorem hiQ_6 {n t v : Int32} (h : 7 < n ∨ 20 < t ∨ 99 < v) : hiQ n t v = -6 := by
  unfold hiQ
  by_cases h1 : 7 < n
  · rw [if_pos h1, fO_6]
  · rw [if_neg h1, fO_z]
    by_cases h2 : 20 < t
    · rw [if_pos h2, fO_6]
    · rw [if_neg h2, fO_z]
      rcases h with h | h | h
      · exact absurd h h1
      · exact absurd h h2
      · rw [if_pos h]
theorem hiQ_z {n t v : Int32} (h1 : ¬ 7 < n) (h2 : ¬ 20 < t) (h3 : ¬ 99 < v) : hiQ n t v = 0 := by unfold hiQ; rw [if_neg h1, if_neg h2, if_neg h3]; rfl
theorem loQ_0 {n t v : Int32} (h : loQ n t v = 0) : ¬ n < 0 ∧ ¬ v < 0 ∧ ¬ t < 2 := by
  refine ⟨fun z => ?_, fun z => ?_, fun z => ?_⟩
  · rw [loQ_4 (Or.inl z)] at h; exact absurd h (by decide)
  · rw [loQ_4 (Or.inr (Or.inl z))] at h; exact absurd h (by decide)
  · rw [loQ_4 (Or.inr (Or.inr z))] at h; exact absurd h (by decide)
theorem hiQ_0 {n t v : Int32} (h : hiQ n t v = 0) : ¬ 7 < n ∧ ¬ 20 < t ∧ ¬ 99 < v := by
  refine ⟨fun z => ?_, fun z => ?_, fun z => ?_⟩
  · rw [hiQ_6 (Or.inl z)] at h; exact absurd h (by decide)
  · rw [hiQ_6 (Or.inr (Or.inl z))] at h; exact absurd h (by decide)
  · rw [hiQ_6 (Or.inr (Or.inr z))] at h; exact absurd h (by decide)
theorem nI_rng {v : Int32} {a c : Nat} (ha : a < 2 ^ 31) (hc : c < 2 ^ 31) (h1 : ¬ v < nI a) (h2 : ¬ nI c < v) : ∃ j, a ≤ j ∧ j ≤ c ∧ v = nI j := rgF_of ha hc (rgF_in h1 h2)
def quE (N : Nat) (f n t v p : Int32) : Int32 := fO (fO (pF N f) (fO (loQ n t v) (hiQ n t v))) (whF p 2)
theorem okE_qu (N : Nat) (f n t v p : Int32) : okE (quE N f n t v p) := okE_fO (okE_fO (okE_pF _ _) (okE_fO (okE_lo _ _ _) (okE_hi _ _ _))) (okE_whF _ _)
theorem quE_of {N : Nat} {f n t v p : Int32} (hN : N ≤ 8) (h : quE N f n t v p = 0) : ∃ i a c d j, i < N ∧ a ≤ 7 ∧ 2 ≤ c ∧ c ≤ 20 ∧ d ≤ 99 ∧ j < 2 ∧ f = nI i ∧ n = nI a ∧ t = nI c ∧ v = nI d ∧ p = nI j := by
  obtain ⟨h1, h2⟩ := fO_0 h
  obtain ⟨h3, h4⟩ := fO_0 h1
  obtain ⟨h5, h6⟩ := fO_0 h4
  obtain ⟨i, hi, rfl⟩ := pF_of (by omega) h3
  obtain ⟨j, hj, rfl⟩ := whF_of (k := 2) (by decide) h2
  obtain ⟨l1, l2, l3⟩ := loQ_0 h5
  obtain ⟨m1, m2, m3⟩ := hiQ_0 h6
  obtain ⟨a, -, a2, rfl⟩ := nI_rng (a := 0) (c := 7) (by decide) (by decide) l1 m1
  obtain ⟨c, c1, c2, rfl⟩ := nI_rng (a := 2) (c := 20) (by decide) (by decide) l3 m2
  obtain ⟨d, -, d2, rfl⟩ := nI_rng (a := 0) (c := 99) (by decide) (by decide) l2 m3
  exact ⟨i, a, c, d, j, hi, a2, c1, c2, d2, hj, rfl, rfl, rfl, rfl, rfl⟩
def quA (N : Nat) (T : Tw) (f n t v p : Nat) : Int64 := lN (frV (wayV (thr ((monthsT N n T) 6 f).toNatClampNeg v) n t) (t ^ n) p)
theorem pow_b {t n : Nat} (h1 : 2 ≤ t) (h2 : t ≤ 20) (hn : n ≤ 7) : 0 < t ^ n ∧ t ^ n < 2 ^ 40 := by
  refine ⟨Nat.pow_pos (by omega), Nat.lt_of_le_of_lt (Nat.pow_le_pow_left h2 n) (Nat.lt_of_le_of_lt (Nat.pow_le_pow_right (by decide) hn) (by decide))⟩
theorem min99 {k : Nat} (h : k < 1000) : (if (99 : Int32) < nI k then (99 : Int32) else nI k) = nI (min 99 k) := by
  by_cases h1 : k ≤ 99
  · rw [if_neg (show ¬ (99 : Int32) < nI k from nI_nlt (a := 99) h1 (by decide)), Nat.min_eq_right h1]
  · rw [if_pos (show (99 : Int32) < nI k from nI_lt (a := 99) (by omega) (by omega)), Nat.min_eq_left (by omega)]
    rfl
theorem shl_nI7 {p : Nat} (h : p ≤ 7) : (1 : Int32) <<< (nI p &&& 31) = nI (2 ^ p) := by
  rcases (show p = 0 ∨ p = 1 ∨ p = 2 ∨ p = 3 ∨ p = 4 ∨ p = 5 ∨ p = 6 ∨ p = 7 by omega) with rfl | rfl | rfl | rfl | rfl | rfl | rfl | rfl <;> decide

set_option maxRecDepth 100000 in
set_option maxHeartbeats 4000000 in
theorem l_X8_power {c a : Nat} (ha : a ≤ 7) : ∀ (k i : Nat), i + k = a → zZ x true mX8_power (fun q T => q = some (.long (lN (c ^ a))) ∧ T = S) 5 [(0, .long (lN c)), (2, .int (nI a)), (3, .long (lN (c ^ i))), (5, .int (nI i))] [] S := by
  intro k
  induction k with
  | zero =>
    intro i hi
    have : i = a := by omega
    subst this
    refine ziload dX8_power_5 rfl ?_
    refine ziload_n dX8_power_7 rfl ?_
    refine zicmp_ge (tgt := 21) dX8_power_8 (by decide) (fun _ => ?_) (fun h => absurd (nI_le (by omega) (by omega)) h)
    refine zlload_n dX8_power_21 rfl ?_
    exact zlreturn dX8_power_22 rfl ⟨rfl, rfl⟩
  | succ k ih =>
    intro i hi
    refine ziload dX8_power_5 rfl ?_
    refine ziload_n dX8_power_7 rfl ?_
    refine zicmp_ge (tgt := 21) dX8_power_8 (by decide) (fun h => absurd h (nI_ge (by omega) (by omega))) (fun _ => ?_)
    refine zlload_n dX8_power_11 rfl ?_
    refine zlload_n dX8_power_12 rfl ?_
    refine zlmul dX8_power_13 ?_
    rw [lN_mul, ← Nat.pow_succ]
    refine zlstore_n dX8_power_14 (by decide) rfl rfl ?_
    refine ziinc dX8_power_15 rfl rfl (by decide) rfl ?_
    refine zgoto (tgt := 5) dX8_power_18 (by decide) ?_
    refine zlvs (lv' := [(0, .long (lN c)), (2, .int (nI a)), (3, .long (lN (c ^ (i + 1)))), (5, .int (nI (i + 1)))]) ⟨rfl, rfl, rfl, by rw [nI_succ i]; rfl, trivial⟩ ?_
    exact ih (i + 1) (by omega)
set_option maxRecDepth 100000 in
set_option maxHeartbeats 4000000 in
theorem c_X8_power {c a : Nat} (ha : a ≤ 7) : zF x true mX8_power [.long (lN c), .int (nI a)] S (some (.long (lN (c ^ a)))) S := by
  refine zC_of (by decide +kernel) (Nat.le_of_ble_eq_true rfl) ?_
  refine zlconst (v := 1) dX8_power_0 (by decide) ?_
  refine zlstore_n dX8_power_1 (by decide) rfl rfl ?_
  refine ziconst (v := 0) dX8_power_2 (by decide) ?_
  refine zistore dX8_power_3 (by decide) rfl ?_
  refine zlvs (lv' := [(0, .long (lN c)), (2, .int (nI a)), (3, .long (lN (c ^ 0))), (5, .int (nI 0))]) ⟨rfl, rfl, rfl, rfl, trivial⟩ ?_
  exact l_X8_power ha a 0 (by omega)
set_option maxRecDepth 100000 in
set_option maxHeartbeats 4000000 in
theorem l_X8_waysOfScars {b n t v : Nat} (hb : b < 100) (hn : n ≤ 7) (ht1 : 2 ≤ t) (ht2 : t ≤ 20) (hv : v ≤ 99) (r : Nat) : ∀ (k i wy c : Nat), i + k = n + 1 → c ≤ 7 ^ i → wayF (thr b v) n t k i wy c = r → zZ x true mX8_waysOfScars (fun q T => q = some (.long (lN r)) ∧ T = S) 9 [(0, .int (nI b)), (1, .int (nI n)), (2, .int (nI t)), (3, .int (nI v)), (4, .long (lN wy)), (6, .long (lN c)), (8, .int (nI i))] [] S := by
  intro k
  induction k with
  | zero =>
    intro i wy c hi hc hr
    subst hr
    refine ziload dX8_waysOfScars_9 rfl ?_
    refine ziload_n dX8_waysOfScars_11 rfl ?_
    refine zicmp_gt (tgt := 71) dX8_waysOfScars_12 (by decide) (fun _ => ?_) (fun h => absurd (nI_lt (by omega) (by omega)) h)
    refine zlload dX8_waysOfScars_71 rfl ?_
    exact zlreturn dX8_waysOfScars_73 rfl ⟨rfl, rfl⟩
  | succ k ih =>
    intro i wy c hi hc hr
    have hc1 : c ≤ 7 ^ 7 := Nat.le_trans hc (Nat.pow_le_pow_right (by decide) (by omega))
    have hc2 : c * (n - i) ≤ c * 7 := Nat.mul_le_mul_left c (by omega)
    have hc4 : c * (n - i) < 2 ^ 63 := by have : c * 7 ≤ 7 ^ 7 * 7 := Nat.mul_le_mul_right 7 hc1; omega
    have hc3 : c * (n - i) / (i + 1) ≤ 7 ^ (i + 1) := Nat.le_trans (Nat.div_le_self _ _) (Nat.le_trans hc2 (by rw [Nat.pow_succ]; exact Nat.mul_le_mul_right 7 hc))
    rw [wayF] at hr
    by_cases hth : thr b v ≤ i
    · rw [show Nat.ble (thr b v) i = true from Nat.ble_eq_true_of_le hth, cond_true] at hr
      refine ziload dX8_waysOfScars_9 rfl ?_
      refine ziload_n dX8_waysOfScars_11 rfl ?_
      refine zicmp_gt (tgt := 71) dX8_waysOfScars_12 (by decide) (fun h => absurd h (nI_nlt (by omega) (by omega))) (fun _ => ?_)
      refine ziload_n dX8_waysOfScars_15 rfl ?_
      refine ziconst (v := 3) dX8_waysOfScars_16 (by decide) ?_
      refine ziload dX8_waysOfScars_17 rfl ?_
      refine zimul dX8_waysOfScars_19 ?_
      rw [show (3 : Int32) * nI i = nI (3 * i) from pk_mul 3 i]
      refine ziadd dX8_waysOfScars_20 ?_
      rw [nI_add]
      refine zbipush (v := 99) dX8_waysOfScars_21 (by decide) ?_
      refine zmmin rfl dX8_waysOfScars_23 (by decide) (Nat.le_of_ble_eq_true rfl) ?_
      rw [min99 (by omega)]
      refine ziload_n dX8_waysOfScars_26 rfl ?_
      refine zicmp_lt (tgt := 49) dX8_waysOfScars_27 (by decide) (fun h => absurd h (nI_nlt ((thr_iff hv (by omega)).mpr hth) (by omega))) (fun _ => ?_)
      refine zlload dX8_waysOfScars_30 rfl ?_
      refine zlload dX8_waysOfScars_32 rfl ?_
      refine ziload_n dX8_waysOfScars_34 rfl ?_
      refine ziconst (v := 1) dX8_waysOfScars_35 (by decide) ?_
      refine zisub dX8_waysOfScars_36 ?_
      rw [show nI t - 1 = nI (t - 1) from pk_sub (b := 1) (by omega)]
      refine zi2l dX8_waysOfScars_37 ?_
      rw [nI_l (by omega)]
      refine ziload_n dX8_waysOfScars_38 rfl ?_
      refine ziload dX8_waysOfScars_39 rfl ?_
      refine zisub dX8_waysOfScars_41 ?_
      rw [pk_sub (by omega)]
      refine zcSf  gk_X8_247 dX8_waysOfScars_42 (c_X8_power (by omega)) rfl (by decide) (Nat.le_of_ble_eq_true rfl) ?_ rfl
      refine zlmul dX8_waysOfScars_45 ?_
      rw [lN_mul]
      refine zladd dX8_waysOfScars_46 ?_
      rw [lN_add]
      refine zlstore dX8_waysOfScars_47 (by decide) rfl rfl ?_
      refine zlload dX8_waysOfScars_49 rfl ?_
      refine ziload_n dX8_waysOfScars_51 rfl ?_
      refine ziload dX8_waysOfScars_52 rfl ?_
      refine zisub dX8_waysOfScars_54 ?_
      rw [pk_sub (by omega)]
      refine zi2l dX8_waysOfScars_55 ?_
      rw [nI_l (by omega)]
      refine zlmul dX8_waysOfScars_56 ?_
      rw [lN_mul]
      refine ziload dX8_waysOfScars_57 rfl ?_
      refine ziconst (v := 1) dX8_waysOfScars_59 (by decide) ?_
      refine ziadd dX8_waysOfScars_60 ?_
      rw [nI_1]
      refine zi2l dX8_waysOfScars_61 ?_
      rw [nI_l (by omega)]
      refine zldiv dX8_waysOfScars_62 (lNne (by omega) (by omega)) ?_
      rw [pk_lDiv (a := c * (n - i)) (by omega) (by omega) (by omega)]
      refine zlstore dX8_waysOfScars_63 (by decide) rfl rfl ?_
      refine ziinc dX8_waysOfScars_65 rfl rfl (by decide) rfl ?_
      refine zgoto (tgt := 9) dX8_waysOfScars_68 (by decide) ?_
      refine zlvs (lv' := [(0, .int (nI b)), (1, .int (nI n)), (2, .int (nI t)), (3, .int (nI v)), (4, .long (lN (wy + c * (t - 1) ^ (n - i)))), (6, .long (lN (c * (n - i) / (i + 1)))), (8, .int (nI (i + 1)))]) ⟨rfl, rfl, rfl, rfl, rfl, rfl, by rw [nI_succ i]; rfl, trivial⟩ ?_
      exact ih (i + 1) _ _ (by omega) hc3 hr
    · rw [show Nat.ble (thr b v) i = false from by rw [← Bool.not_eq_true]; exact fun z => hth (Nat.le_of_ble_eq_true z), cond_false] at hr
      refine ziload dX8_waysOfScars_9 rfl ?_
      refine ziload_n dX8_waysOfScars_11 rfl ?_
      refine zicmp_gt (tgt := 71) dX8_waysOfScars_12 (by decide) (fun h => absurd h (nI_nlt (by omega) (by omega))) (fun _ => ?_)
      refine ziload_n dX8_waysOfScars_15 rfl ?_
      refine ziconst (v := 3) dX8_waysOfScars_16 (by decide) ?_
      refine ziload dX8_waysOfScars_17 rfl ?_
      refine zimul dX8_waysOfScars_19 ?_
      rw [show (3 : Int32) * nI i = nI (3 * i) from pk_mul 3 i]
      refine ziadd dX8_waysOfScars_20 ?_
      rw [nI_add]
      refine zbipush (v := 99) dX8_waysOfScars_21 (by decide) ?_
      refine zmmin rfl dX8_waysOfScars_23 (by decide) (Nat.le_of_ble_eq_true rfl) ?_
      rw [min99 (by omega)]
      refine ziload_n dX8_waysOfScars_26 rfl ?_
      refine zicmp_lt (tgt := 49) dX8_waysOfScars_27 (by decide) (fun _ => ?_) (fun h => absurd (nI_lt (Nat.not_le.mp (fun z => hth ((thr_iff hv (by omega)).mp z))) (by omega)) h)
      refine zlload dX8_waysOfScars_49 rfl ?_
      refine ziload_n dX8_waysOfScars_51 rfl ?_
      refine ziload dX8_waysOfScars_52 rfl ?_
      refine zisub dX8_waysOfScars_54 ?_
      rw [pk_sub (by omega)]
      refine zi2l dX8_waysOfScars_55 ?_
      rw [nI_l (by omega)]
      refine zlmul dX8_waysOfScars_56 ?_
      rw [lN_mul]
      refine ziload dX8_waysOfScars_57 rfl ?_
      refine ziconst (v := 1) dX8_waysOfScars_59 (by decide) ?_
      refine ziadd dX8_waysOfScars_60 ?_
      rw [nI_1]
      refine zi2l dX8_waysOfScars_61 ?_
      rw [nI_l (by omega)]
      refine zldiv dX8_waysOfScars_62 (lNne (by omega) (by omega)) ?_
      rw [pk_lDiv (a := c * (n - i)) (by omega) (by omega) (by omega)]
      refine zlstore dX8_waysOfScars_63 (by decide) rfl rfl ?_
      refine ziinc dX8_waysOfScars_65 rfl rfl (by decide) rfl ?_
      refine zgoto (tgt := 9) dX8_waysOfScars_68 (by decide) ?_
      refine zlvs (lv' := [(0, .int (nI b)), (1, .int (nI n)), (2, .int (nI t)), (3, .int (nI v)), (4, .long (lN wy)), (6, .long (lN (c * (n - i) / (i + 1)))), (8, .int (nI (i + 1)))]) ⟨rfl, rfl, rfl, rfl, rfl, rfl, by rw [nI_succ i]; rfl, trivial⟩ ?_
      exact ih (i + 1) _ _ (by omega) hc3 hr
set_option maxRecDepth 100000 in
set_option maxHeartbeats 4000000 in
theorem c_X8_waysOfScars {b n t v : Nat} (hb : b < 100) (hn : n ≤ 7) (ht1 : 2 ≤ t) (ht2 : t ≤ 20) (hv : v ≤ 99) : zF x true mX8_waysOfScars [.int (nI b), .int (nI n), .int (nI t), .int (nI v)] S (some (.long (lN (wayV (thr b v) n t)))) S := by
  refine zC_of (by decide +kernel) (Nat.le_of_ble_eq_true rfl) ?_
  refine zlconst (v := 0) dX8_waysOfScars_0 (by decide) ?_
  refine zlstore dX8_waysOfScars_1 (by decide) rfl rfl ?_
  refine zlconst (v := 1) dX8_waysOfScars_3 (by decide) ?_
  refine zlstore dX8_waysOfScars_4 (by decide) rfl rfl ?_
  refine ziconst (v := 0) dX8_waysOfScars_6 (by decide) ?_
  refine zistore dX8_waysOfScars_7 (by decide) rfl ?_
  refine zlvs (lv' := [(0, .int (nI b)), (1, .int (nI n)), (2, .int (nI t)), (3, .int (nI v)), (4, .long (lN 0)), (6, .long (lN 1)), (8, .int (nI 0))]) ⟨rfl, rfl, rfl, rfl, rfl, rfl, rfl, trivial⟩ ?_
  exact l_X8_waysOfScars hb hn ht1 ht2 hv _ (n + 1) 0 0 1 (by omega) (by decide) rfl
set_option maxRecDepth 100000 in
set_option maxHeartbeats 4000000 in
theorem c_X8_quarrel (hR : RepC σ S) (hW : WS σ) (f n t v p : Int32) : zRl x true mX8_quarrel [.ref (zad x 0), .int f, .int n, .int t, .int v, .int p] S (qCl (quE (sN σ) f n t v p) (quA (sN σ) (sT σ) f.toNatClampNeg n.toNatClampNeg t.toNatClampNeg v.toNatClampNeg p.toNatClampNeg) σ σ) := by
  have hT := hR.1
  have hn8 : sN σ ≤ 8 := hT.2.1
  refine zC_of (by decide +kernel) (Nat.le_of_ble_eq_true rfl) ?_
  by_cases he : quE (sN σ) f n t v p = 0
  · obtain ⟨i, a, c, d, j, hi, ha, hc1, hc2, hd, hj, rfl, rfl, rfl, rfl, rfl⟩ := quE_of hn8 he
    obtain ⟨b, hb, hb2⟩ := ((WFT.months a _ hW.1).2.2.2.2 i hi).2
    have hpw := pow_b hc1 hc2 ha
    have hwy := (way_set (th := thr b d) ha hc2 (thr_le _ _)).2
    refine ziload_n dX8_quarrel_0 rfl ?_
    refine ziconst (v := 0) dX8_quarrel_1 (by decide) ?_
    refine zcSf  gk_X8_233 dX8_quarrel_2 c_X8_leastFault rfl (by decide) (Nat.le_of_ble_eq_true rfl) ?_ rfl
    refine ziload_n dX8_quarrel_5 rfl ?_
    refine ziconst (v := 2) dX8_quarrel_6 (by decide) ?_
    refine zcSf  gk_X8_233 dX8_quarrel_7 c_X8_leastFault rfl (by decide) (Nat.le_of_ble_eq_true rfl) ?_ rfl
    refine ziload dX8_quarrel_10 rfl ?_
    refine ziconst (v := 0) dX8_quarrel_12 (by decide) ?_
    refine zcSf  gk_X8_233 dX8_quarrel_13 c_X8_leastFault rfl (by decide) (Nat.le_of_ble_eq_true rfl) ?_ rfl
    refine zcSf  gk_X8_154 dX8_quarrel_16 c_X8_firstOfThree rfl (by decide) (Nat.le_of_ble_eq_true rfl) ?_ rfl
    refine zistore dX8_quarrel_19 (by decide) rfl ?_
    refine ziload_n dX8_quarrel_21 rfl ?_
    refine zbipush (v := 7) dX8_quarrel_22 (by decide) ?_
    refine zcSf  gk_X8_236 dX8_quarrel_24 c_X8_mostFault rfl (by decide) (Nat.le_of_ble_eq_true rfl) ?_ rfl
    refine ziload_n dX8_quarrel_27 rfl ?_
    refine zbipush (v := 20) dX8_quarrel_28 (by decide) ?_
    refine zcSf  gk_X8_236 dX8_quarrel_30 c_X8_mostFault rfl (by decide) (Nat.le_of_ble_eq_true rfl) ?_ rfl
    refine ziload dX8_quarrel_33 rfl ?_
    refine zbipush (v := 99) dX8_quarrel_35 (by decide) ?_
    refine zcSf  gk_X8_236 dX8_quarrel_37 c_X8_mostFault rfl (by decide) (Nat.le_of_ble_eq_true rfl) ?_ rfl
    refine zcSf  gk_X8_154 dX8_quarrel_40 c_X8_firstOfThree rfl (by decide) (Nat.le_of_ble_eq_true rfl) ?_ rfl
    refine zistore dX8_quarrel_43 (by decide) rfl ?_
    refine zaload_n dX8_quarrel_45 rfl ?_
    refine ziload_n dX8_quarrel_46 rfl ?_
    refine zcVf ob_X gk_X8_96 dX8_quarrel_47 (c_X8_personFault hT) rfl (by decide) (Nat.le_of_ble_eq_true rfl) ?_ rfl
    refine ziload dX8_quarrel_50 rfl ?_
    refine ziload dX8_quarrel_52 rfl ?_
    refine zcSf  gk_X8_154 dX8_quarrel_54 c_X8_firstOfThree rfl (by decide) (Nat.le_of_ble_eq_true rfl) ?_ rfl
    refine ziload dX8_quarrel_57 rfl ?_
    refine ziconst (v := 2) dX8_quarrel_59 (by decide) ?_
    refine zcSf  gk_X8_99 dX8_quarrel_60 c_X8_whatFault rfl (by decide) (Nat.le_of_ble_eq_true rfl) ?_ rfl
    refine zcSf  gk_X8_103 dX8_quarrel_63 c_X8_firstOf rfl (by decide) (Nat.le_of_ble_eq_true rfl) ?_ rfl
    refine zistore dX8_quarrel_66 (by decide) rfl ?_
    refine ziload dX8_quarrel_68 rfl ?_
    refine zif_eq (tgt := 80) dX8_quarrel_70 (by decide) (fun _ => ?_) (fun h => absurd he h)
    refine zaload_n dX8_quarrel_80 rfl ?_
    refine ziload_n dX8_quarrel_81 rfl ?_
    refine zcVn ob_X gk_X8_170 dX8_quarrel_82 (c_X8_think hT hW.1.vw (by omega)) rfl (by decide) (Nat.le_of_ble_eq_true rfl) (fun S2 hp2 => ?_) rfl
    obtain ⟨hT2, hf2⟩ := hp2
    refine zaload_n dX8_quarrel_85 rfl ?_
    refine gf_X8_36 rfl dX8_quarrel_86 ?_
    refine gf_X8_160 (t := 1) (by decide) rfl dX8_quarrel_89 ?_
    refine ziload_n dX8_quarrel_92 rfl ?_
    refine zialT (t := 1) (w := 6) dX8_quarrel_93 (by decide) hT2 (by decide) (by decide) (by omega) ?_
    rw [hb2]
    refine ziload_n dX8_quarrel_94 rfl ?_
    refine ziload_n dX8_quarrel_95 rfl ?_
    refine ziload dX8_quarrel_96 rfl ?_
    refine zcSf  gk_X8_243 dX8_quarrel_98 (c_X8_waysOfScars hb ha hc1 hc2 hd) rfl (by decide) (Nat.le_of_ble_eq_true rfl) ?_ rfl
    refine ziload_n dX8_quarrel_101 rfl ?_
    refine zi2l dX8_quarrel_102 ?_
    rw [nI_l (by omega)]
    refine ziload_n dX8_quarrel_103 rfl ?_
    refine zcSf  gk_X8_247 dX8_quarrel_104 (c_X8_power ha) rfl (by decide) (Nat.le_of_ble_eq_true rfl) ?_ rfl
    refine ziload dX8_quarrel_107 rfl ?_
    refine zcSf  gk_X8_251 dX8_quarrel_109 (c_X8_partOfFraction (u := wayV (thr b d) a c) (v := c ^ a) hj (by omega) hpw.2 hpw.1) rfl (by decide) (Nat.le_of_ble_eq_true rfl) ?_ rfl
    exact zlreturn dX8_quarrel_112 rfl ⟨_, rfl, qCl_ok he (by unfold quA; rw [nI_clamp (n := i) (by omega), nI_clamp (n := a) (by omega), nI_clamp (n := c) (by omega), nI_clamp (n := d) (by omega), nI_clamp (n := j) (by omega), hb2, nI_clamp (n := b) (by omega)]) (hR.mind hf2)⟩
  · refine ziload_n dX8_quarrel_0 rfl ?_
    refine ziconst (v := 0) dX8_quarrel_1 (by decide) ?_
    refine zcSf  gk_X8_233 dX8_quarrel_2 c_X8_leastFault rfl (by decide) (Nat.le_of_ble_eq_true rfl) ?_ rfl
    refine ziload_n dX8_quarrel_5 rfl ?_
    refine ziconst (v := 2) dX8_quarrel_6 (by decide) ?_
    refine zcSf  gk_X8_233 dX8_quarrel_7 c_X8_leastFault rfl (by decide) (Nat.le_of_ble_eq_true rfl) ?_ rfl
    refine ziload dX8_quarrel_10 rfl ?_
    refine ziconst (v := 0) dX8_quarrel_12 (by decide) ?_
    refine zcSf  gk_X8_233 dX8_quarrel_13 c_X8_leastFault rfl (by decide) (Nat.le_of_ble_eq_true rfl) ?_ rfl
    refine zcSf  gk_X8_154 dX8_quarrel_16 c_X8_firstOfThree rfl (by decide) (Nat.le_of_ble_eq_true rfl) ?_ rfl
    refine zistore dX8_quarrel_19 (by decide) rfl ?_
    refine ziload_n dX8_quarrel_21 rfl ?_
    refine zbipush (v := 7) dX8_quarrel_22 (by decide) ?_
    refine zcSf  gk_X8_236 dX8_quarrel_24 c_X8_mostFault rfl (by decide) (Nat.le_of_ble_eq_true rfl) ?_ rfl
    refine ziload_n dX8_quarrel_27 rfl ?_
    refine zbipush (v := 20) dX8_quarrel_28 (by decide) ?_
    refine zcSf  gk_X8_236 dX8_quarrel_30 c_X8_mostFault rfl (by decide) (Nat.le_of_ble_eq_true rfl) ?_ rfl
    refine ziload dX8_quarrel_33 rfl ?_
    refine zbipush (v := 99) dX8_quarrel_35 (by decide) ?_
    refine zcSf  gk_X8_236 dX8_quarrel_37 c_X8_mostFault rfl (by decide) (Nat.le_of_ble_eq_true rfl) ?_ rfl
    refine zcSf  gk_X8_154 dX8_quarrel_40 c_X8_firstOfThree rfl (by decide) (Nat.le_of_ble_eq_true rfl) ?_ rfl
    refine zistore dX8_quarrel_43 (by decide) rfl ?_
    refine zaload_n dX8_quarrel_45 rfl ?_
    refine ziload_n dX8_quarrel_46 rfl ?_
    refine zcVf ob_X gk_X8_96 dX8_quarrel_47 (c_X8_personFault hT) rfl (by decide) (Nat.le_of_ble_eq_true rfl) ?_ rfl
    refine ziload dX8_quarrel_50 rfl ?_
    refine ziload dX8_quarrel_52 rfl ?_
    refine zcSf  gk_X8_154 dX8_quarrel_54 c_X8_firstOfThree rfl (by decide) (Nat.le_of_ble_eq_true rfl) ?_ rfl
    refine ziload dX8_quarrel_57 rfl ?_
    refine ziconst (v := 2) dX8_quarrel_59 (by decide) ?_
    refine zcSf  gk_X8_99 dX8_quarrel_60 c_X8_whatFault rfl (by decide) (Nat.le_of_ble_eq_true rfl) ?_ rfl
    refine zcSf  gk_X8_103 dX8_quarrel_63 c_X8_firstOf rfl (by decide) (Nat.le_of_ble_eq_true rfl) ?_ rfl
    refine zistore dX8_quarrel_66 (by decide) rfl ?_
    refine ziload dX8_quarrel_68 rfl ?_
    refine zif_eq (tgt := 80) dX8_quarrel_70 (by decide) (fun h => absurd h he) (fun _ => ?_)
    refine zaload_n dX8_quarrel_73 rfl ?_
    refine ziload dX8_quarrel_74 rfl ?_
    refine zcVf ob_X gk_X8_239 dX8_quarrel_76 (c_X8_refuseLong (okE.e (okE_qu _ _ _ _ _ _) he)) rfl (by decide) (Nat.le_of_ble_eq_true rfl) ?_ rfl
    exact zlreturn dX8_quarrel_79 rfl ⟨_, rfl, qCl_no rfl (okE.e (okE_qu _ _ _ _ _ _) he) hR⟩
set_option maxRecDepth 100000 in
set_option maxHeartbeats 4000000 in
theorem l_X9_q0 {f n t v p : Nat} (hn : n ≤ 7) (ht : t ≤ 20) {post : Option Value → zSt → Prop} (hpost : zZ x false mX9_quarrel post 106 [(0, .ref (zad x 0)), (1, .int (nI f)), (2, .int (nI n)), (3, .int (nI t)), (4, .int (nI v)), (5, .int (nI p)), (6, .long (lN 0)), (8, .long (lN (t ^ n)))] [] S) : ∀ (k i : Nat), i + k = n → zZ x false mX9_quarrel post 87 [(0, .ref (zad x 0)), (1, .int (nI f)), (2, .int (nI n)), (3, .int (nI t)), (4, .int (nI v)), (5, .int (nI p)), (6, .long (lN 0)), (8, .long (lN (t ^ i))), (10, .int (nI i))] [] S := by
  intro k
  induction k with
  | zero =>
    intro i hi
    have : n = i := by omega
    subst this
    refine ziload dX9_quarrel_87 rfl ?_
    refine ziload_n dX9_quarrel_89 rfl ?_
    refine zicmp_ge (tgt := 106) dX9_quarrel_90 (by decide) (fun _ => ?_) (fun h => absurd (nI_le (by omega) (by omega)) h)
    refine zlvs (lv' := [(0, .ref (zad x 0)), (1, .int (nI f)), (2, .int (nI n)), (3, .int (nI t)), (4, .int (nI v)), (5, .int (nI p)), (6, .long (lN 0)), (8, .long (lN (t ^ n)))]) ⟨rfl, rfl, rfl, rfl, rfl, rfl, rfl, rfl, trivial⟩ ?_
    exact hpost
  | succ k ih =>
    intro i hi
    refine ziload dX9_quarrel_87 rfl ?_
    refine ziload_n dX9_quarrel_89 rfl ?_
    refine zicmp_ge (tgt := 106) dX9_quarrel_90 (by decide) (fun h => absurd h (nI_ge (by omega) (by omega))) (fun _ => ?_)
    refine zlload dX9_quarrel_93 rfl ?_
    refine ziload_n dX9_quarrel_95 rfl ?_
    refine zi2l dX9_quarrel_96 ?_
    rw [nI_l (by omega)]
    refine zlmul dX9_quarrel_97 ?_
    rw [lN_mul, ← Nat.pow_succ]
    refine zlstore dX9_quarrel_98 (by decide) rfl rfl ?_
    refine ziinc dX9_quarrel_100 rfl rfl (by decide) rfl ?_
    refine zgoto (tgt := 87) dX9_quarrel_103 (by decide) ?_
    refine zlvs (lv' := [(0, .ref (zad x 0)), (1, .int (nI f)), (2, .int (nI n)), (3, .int (nI t)), (4, .int (nI v)), (5, .int (nI p)), (6, .long (lN 0)), (8, .long (lN (t ^ (i + 1)))), (10, .int (nI (i + 1)))]) ⟨rfl, rfl, rfl, rfl, rfl, rfl, rfl, rfl, by rw [nI_succ i]; rfl, trivial⟩ ?_
    exact ih (i + 1) (by omega)
set_option maxRecDepth 100000 in
set_option maxHeartbeats 4000000 in
theorem l_X9_q1 (hW : WS σ) {f n t v p ac be s a C G : Nat} (hfN : f < sN σ) (hn8 : sN σ ≤ 8) (hn : n ≤ 7) (ht1 : 2 ≤ t) (ht : t ≤ 20) (hs : s < 128) {Tn : Tw} (haT : Tn 6 f = nI a) (ha : a < 100) {S0 : zSt} {post : Option Value → zSt → Prop} (hpost : ∀ (S : zSt) (U : Tw), isM S 2 (sN σ) U → U 6 f = nI (min 99 (a + 3 * C)) → frM 2 S0 S → zZ x false mX9_quarrel post 215 [(0, .ref (zad x 0)), (1, .int (nI f)), (2, .int (nI n)), (3, .int (nI t)), (4, .int (nI v)), (5, .int (nI p)), (6, .long (lN ac)), (8, .long (lN be)), (10, .int (nI s)), (11, .long (lN G))] [] S) : ∀ (k i c g : Nat) (S : zSt) (T U : Tw), i + k = n → isM S 2 (sN σ) U → WFT (sN σ) U → Sc f (3 * c) T U → WFT (sN σ) T → frM 2 S0 S → monthsT (sN σ) k T = Tn → c + popR s k i = C → g * (t - 1) ^ (k - popR s k i) = G → c ≤ i → zZ x false mX9_quarrel post 134 [(0, .ref (zad x 0)), (1, .int (nI f)), (2, .int (nI n)), (3, .int (nI t)), (4, .int (nI v)), (5, .int (nI p)), (6, .long (lN ac)), (8, .long (lN be)), (10, .int (nI s)), (11, .long (lN g)), (13, .int (nI i))] [] S := by
  intro k
  induction k with
  | zero =>
    intro i c g S T U hi hM2 hU hS hT hf hTn hC hG hci
    have hTn : T = Tn := hTn
    have hC : c = C := hC
    have hG : g * 1 = G := hG
    rw [Nat.mul_one] at hG
    subst hTn
    subst hC
    subst hG
    have hU6 : U 6 f = nI (min 99 (a + 3 * c)) := by
      obtain ⟨a', q1, q2, q3⟩ := hS
      have : a' = a := (nI_eq (by omega) (by omega)).mp (q2.symm.trans haT)
      rw [q3, u2_self, this]
    refine ziload dX9_quarrel_134 rfl ?_
    refine ziload_n dX9_quarrel_136 rfl ?_
    refine zicmp_ge (tgt := 215) dX9_quarrel_137 (by decide) (fun _ => ?_) (fun h => absurd (nI_le (by omega) (by omega)) h)
    refine zlvs (lv' := [(0, .ref (zad x 0)), (1, .int (nI f)), (2, .int (nI n)), (3, .int (nI t)), (4, .int (nI v)), (5, .int (nI p)), (6, .long (lN ac)), (8, .long (lN be)), (10, .int (nI s)), (11, .long (lN g))]) ⟨rfl, rfl, rfl, rfl, rfl, rfl, rfl, rfl, rfl, rfl, trivial⟩ ?_
    exact hpost S U hM2 hU6 hf
  | succ k ih =>
    intro i c g S T U hi hM2 hU hS hT hf hTn hC hG hci
    have hTn : monthsT (sN σ) k (monthT (sN σ) T) = Tn := hTn
    have hp := popR_le s k (i + 1)
    unfold popR at hC hG
    cases hbit : s.testBit i with
    | true =>
      rw [hbit, cond_true] at hC hG
      rw [show k + 1 - (popR s k (i + 1) + 1) = k - popR s k (i + 1) by omega] at hG
      refine ziload dX9_quarrel_134 rfl ?_
      refine ziload_n dX9_quarrel_136 rfl ?_
      refine zicmp_ge (tgt := 215) dX9_quarrel_137 (by decide) (fun h => absurd h (nI_ge (by omega) (by omega))) (fun _ => ?_)
      refine zlload dX9_quarrel_140 rfl ?_
      refine ziload dX9_quarrel_142 rfl ?_
      refine ziload dX9_quarrel_144 rfl ?_
      refine zcSf  gk_X9_56 dX9_quarrel_146 (show zF x false mX9_has _ S (some (.int (bI (Nat.testBit s i)))) S from by have h := c_X9_has (x := x) (S := S) (u := nI s) (v := nI i); rw [bitN (s := s) (i := i) hs (by omega)] at h; exact h) rfl (by decide) (Nat.le_of_ble_eq_true rfl) ?_ rfl
      refine zifb_eq (tgt := 156) dX9_quarrel_149 (by decide) (fun h => absurd (h.symm.trans hbit) (by decide)) (fun _ => ?_)
      refine zlconst (v := 1) dX9_quarrel_152 (by decide) ?_
      refine zgoto (tgt := 160) dX9_quarrel_153 (by decide) ?_
      refine zlmul dX9_quarrel_160 ?_
      rw [lN_m1]
      refine zlstore dX9_quarrel_161 (by decide) rfl rfl ?_
      refine zaload_n dX9_quarrel_163 rfl ?_
      refine gf_X9_13 rfl dX9_quarrel_164 ?_
      refine ziload_n dX9_quarrel_167 rfl ?_
      refine ziconst (v := nI 5) dX9_quarrel_168 (by decide) ?_
      refine zcSf gk_X9_52 dX9_quarrel_169 (c_X9_of (j := 5)) rfl (by decide) (Nat.le_of_ble_eq_true rfl) ?_ rfl
      refine zaload_n dX9_quarrel_172 rfl ?_
      refine gf_X9_13 rfl dX9_quarrel_173 ?_
      refine ziload_n dX9_quarrel_176 rfl ?_
      refine ziconst (v := nI 5) dX9_quarrel_177 (by decide) ?_
      refine zcSf gk_X9_52 dX9_quarrel_178 (c_X9_of (j := 5)) rfl (by decide) (Nat.le_of_ble_eq_true rfl) ?_ rfl
      refine zialM (k := 2) (j := 5) (w := 6) dX9_quarrel_181 hr2 hM2 rfl (by decide) (by omega) ?_
      refine ziload dX9_quarrel_182 rfl ?_
      refine ziload dX9_quarrel_184 rfl ?_
      refine zcSf  gk_X9_56 dX9_quarrel_186 (show zF x false mX9_has _ S (some (.int (bI (Nat.testBit s i)))) S from by have h := c_X9_has (x := x) (S := S) (u := nI s) (v := nI i); rw [bitN (s := s) (i := i) hs (by omega)] at h; exact h) rfl (by decide) (Nat.le_of_ble_eq_true rfl) ?_ rfl
      refine zifb_eq (tgt := 196) dX9_quarrel_189 (by decide) (fun h => absurd (h.symm.trans hbit) (by decide)) (fun _ => ?_)
      refine ziconst (v := nI 3) dX9_quarrel_192 (by decide) ?_
      refine zgoto (tgt := 197) dX9_quarrel_193 (by decide) ?_
      refine ziadd dX9_quarrel_197 ?_
      refine zcSf  gk_X9_75 dX9_quarrel_198 c_X9_held rfl (by decide) (Nat.le_of_ble_eq_true rfl) ?_ rfl
      refine ziast dX9_quarrel_201 (mrk hr2.2) (mrl hr2.1 hr2.2) (by decide) (by omega) ?_
      have hM3 := isM_put (j := 5) (w := 6) (p := f) (v := held (U 6 f + nI 3)) hM2 rfl (by decide)
      have hS3 := hS.more (e := 3) (by omega) (by decide)
      have hW3 : WFT (sN σ) (u2 U 6 f (held (U 6 f + nI 3))) := by obtain ⟨q, q1, q2, q3⟩ := hS3; rw [q3]; exact hT.put (by decide) (by decide) (fun z => absurd z (by decide)) (fun _ => ⟨_, by omega, rfl⟩)
      refine zaload_n dX9_quarrel_202 rfl ?_
      refine gf_X9_13 rfl dX9_quarrel_203 ?_
      refine zcSn  gk_X9_84 dX9_quarrel_206 (c_X9_month hr2 hM3 hW3.2.1) rfl (by decide) (Nat.le_of_ble_eq_true rfl) (fun S4 hp4 => ?_) rfl
      obtain ⟨hM4, -, -, hf4⟩ := hp4
      refine ziinc dX9_quarrel_209 rfl rfl (by decide) rfl ?_
      refine zgoto (tgt := 134) dX9_quarrel_212 (by decide) ?_
      refine zlvs (lv' := [(0, .ref (zad x 0)), (1, .int (nI f)), (2, .int (nI n)), (3, .int (nI t)), (4, .int (nI v)), (5, .int (nI p)), (6, .long (lN ac)), (8, .long (lN be)), (10, .int (nI s)), (11, .long (lN g)), (13, .int (nI (i + 1)))]) ⟨rfl, rfl, rfl, rfl, rfl, rfl, rfl, rfl, rfl, rfl, by rw [nI_succ i]; rfl, trivial⟩ ?_
      exact ih (i + 1) (c + 1) _ S4 _ _ (by omega) hM4 (WFT.month hW3) (hS3.month (by omega)) (WFT.month hT) ((hf.trans frM.rf.put).trans hf4) hTn (by omega) hG (by omega)
    | false =>
      rw [hbit, cond_false] at hC hG
      rw [show k + 1 - popR s k (i + 1) = (k - popR s k (i + 1)) + 1 by omega, Nat.pow_succ, Nat.mul_comm _ (t - 1), ← Nat.mul_assoc] at hG
      refine ziload dX9_quarrel_134 rfl ?_
      refine ziload_n dX9_quarrel_136 rfl ?_
      refine zicmp_ge (tgt := 215) dX9_quarrel_137 (by decide) (fun h => absurd h (nI_ge (by omega) (by omega))) (fun _ => ?_)
      refine zlload dX9_quarrel_140 rfl ?_
      refine ziload dX9_quarrel_142 rfl ?_
      refine ziload dX9_quarrel_144 rfl ?_
      refine zcSf  gk_X9_56 dX9_quarrel_146 (show zF x false mX9_has _ S (some (.int (bI (Nat.testBit s i)))) S from by have h := c_X9_has (x := x) (S := S) (u := nI s) (v := nI i); rw [bitN (s := s) (i := i) hs (by omega)] at h; exact h) rfl (by decide) (Nat.le_of_ble_eq_true rfl) ?_ rfl
      refine zifb_eq (tgt := 156) dX9_quarrel_149 (by decide) (fun _ => ?_) (fun h => absurd (h.symm.trans hbit) (by decide))
      refine ziload_n dX9_quarrel_156 rfl ?_
      refine ziconst (v := 1) dX9_quarrel_157 (by decide) ?_
      refine zisub dX9_quarrel_158 ?_
      rw [show nI t - 1 = nI (t - 1) from pk_sub (b := 1) (by omega)]
      refine zi2l dX9_quarrel_159 ?_
      rw [nI_l (by omega)]
      refine zlmul dX9_quarrel_160 ?_
      first | rw [lN_m1] | rw [lN_mul]
      refine zlstore dX9_quarrel_161 (by decide) rfl rfl ?_
      refine zaload_n dX9_quarrel_163 rfl ?_
      refine gf_X9_13 rfl dX9_quarrel_164 ?_
      refine ziload_n dX9_quarrel_167 rfl ?_
      refine ziconst (v := nI 5) dX9_quarrel_168 (by decide) ?_
      refine zcSf gk_X9_52 dX9_quarrel_169 (c_X9_of (j := 5)) rfl (by decide) (Nat.le_of_ble_eq_true rfl) ?_ rfl
      refine zaload_n dX9_quarrel_172 rfl ?_
      refine gf_X9_13 rfl dX9_quarrel_173 ?_
      refine ziload_n dX9_quarrel_176 rfl ?_
      refine ziconst (v := nI 5) dX9_quarrel_177 (by decide) ?_
      refine zcSf gk_X9_52 dX9_quarrel_178 (c_X9_of (j := 5)) rfl (by decide) (Nat.le_of_ble_eq_true rfl) ?_ rfl
      refine zialM (k := 2) (j := 5) (w := 6) dX9_quarrel_181 hr2 hM2 rfl (by decide) (by omega) ?_
      refine ziload dX9_quarrel_182 rfl ?_
      refine ziload dX9_quarrel_184 rfl ?_
      refine zcSf  gk_X9_56 dX9_quarrel_186 (show zF x false mX9_has _ S (some (.int (bI (Nat.testBit s i)))) S from by have h := c_X9_has (x := x) (S := S) (u := nI s) (v := nI i); rw [bitN (s := s) (i := i) hs (by omega)] at h; exact h) rfl (by decide) (Nat.le_of_ble_eq_true rfl) ?_ rfl
      refine zifb_eq (tgt := 196) dX9_quarrel_189 (by decide) (fun _ => ?_) (fun h => absurd (h.symm.trans hbit) (by decide))
      refine ziconst (v := nI 0) dX9_quarrel_196 (by decide) ?_
      refine ziadd dX9_quarrel_197 ?_
      refine zcSf  gk_X9_75 dX9_quarrel_198 c_X9_held rfl (by decide) (Nat.le_of_ble_eq_true rfl) ?_ rfl
      refine ziast dX9_quarrel_201 (mrk hr2.2) (mrl hr2.1 hr2.2) (by decide) (by omega) ?_
      have hM3 := isM_put (j := 5) (w := 6) (p := f) (v := held (U 6 f + nI 0)) hM2 rfl (by decide)
      have hS3 := hS.more (e := 0) (by omega) (by decide)
      have hW3 : WFT (sN σ) (u2 U 6 f (held (U 6 f + nI 0))) := by obtain ⟨q, q1, q2, q3⟩ := hS3; rw [q3]; exact hT.put (by decide) (by decide) (fun z => absurd z (by decide)) (fun _ => ⟨_, by omega, rfl⟩)
      refine zaload_n dX9_quarrel_202 rfl ?_
      refine gf_X9_13 rfl dX9_quarrel_203 ?_
      refine zcSn  gk_X9_84 dX9_quarrel_206 (c_X9_month hr2 hM3 hW3.2.1) rfl (by decide) (Nat.le_of_ble_eq_true rfl) (fun S4 hp4 => ?_) rfl
      obtain ⟨hM4, -, -, hf4⟩ := hp4
      refine ziinc dX9_quarrel_209 rfl rfl (by decide) rfl ?_
      refine zgoto (tgt := 134) dX9_quarrel_212 (by decide) ?_
      refine zlvs (lv' := [(0, .ref (zad x 0)), (1, .int (nI f)), (2, .int (nI n)), (3, .int (nI t)), (4, .int (nI v)), (5, .int (nI p)), (6, .long (lN ac)), (8, .long (lN be)), (10, .int (nI s)), (11, .long (lN (g * (t - 1)))), (13, .int (nI (i + 1)))]) ⟨rfl, rfl, rfl, rfl, rfl, rfl, rfl, rfl, rfl, rfl, by rw [nI_succ i]; rfl, trivial⟩ ?_
      exact ih (i + 1) c _ S4 _ _ (by omega) hM4 (WFT.month hW3) (hS3.month (by omega)) (WFT.month hT) ((hf.trans frM.rf.put).trans hf4) hTn (by omega) hG (by omega)
set_option maxRecDepth 100000 in
set_option maxHeartbeats 4000000 in
theorem l_X9_q2 (hW : WS σ) {f n t v p be a : Nat} (hfN : f < sN σ) (hn8 : sN σ ≤ 8) (hn : n ≤ 7) (ht1 : 2 ≤ t) (ht : t ≤ 20) (hv : v ≤ 99) (hp : p < 2) (haT : (monthsT (sN σ) n (sT σ)) 6 f = nI a) (ha : a < 100) (hbe : 0 < be) (hbe2 : be < 2 ^ 40) {A : Nat} (hA : A ≤ 2 ^ 40) : ∀ (k i ac : Nat) (S : zSt), i + k = 2 ^ n → RepM σ S → setF (thr a v) n t k i ac = A → zZ x false mX9_quarrel (fun q V => ∃ r : Int64, q = some (.long r) ∧ r = lN (frV A be p) ∧ RepM σ V) 109 [(0, .ref (zad x 0)), (1, .int (nI f)), (2, .int (nI n)), (3, .int (nI t)), (4, .int (nI v)), (5, .int (nI p)), (6, .long (lN ac)), (8, .long (lN be)), (10, .int (nI i))] [] S := by
  have h2n : 2 ^ n ≤ 128 := Nat.pow_le_pow_right (by decide) hn
  obtain ⟨a0, a01, a02⟩ := (hW.1.2.2.2.2 f hfN).2
  intro k
  induction k with
  | zero =>
    intro i ac S hi hR hr
    have hr : ac = A := hr
    subst hr
    refine ziload dX9_quarrel_109 rfl ?_
    refine ziconst (v := 1) dX9_quarrel_111 (by decide) ?_
    refine ziload_n dX9_quarrel_112 rfl ?_
    refine zishl dX9_quarrel_113 ?_
    rw [shl_nI7 hn]
    refine zicmp_ge (tgt := 247) dX9_quarrel_114 (by decide) (fun _ => ?_) (fun h => absurd (nI_le (a := 2 ^ n) (by omega) (by omega)) h)
    refine zlload dX9_quarrel_247 rfl ?_
    refine zlload dX9_quarrel_249 rfl ?_
    refine ziload dX9_quarrel_251 rfl ?_
    refine zcSf  gk_X9_204 dX9_quarrel_253 (c_X9_partOf hp (by omega) (by omega) hbe) rfl (by decide) (Nat.le_of_ble_eq_true rfl) ?_ rfl
    exact zlreturn dX9_quarrel_256 rfl ⟨_, rfl, rfl, hR⟩
  | succ k ih =>
    intro i ac S hi hR hr
    have hM := hR.1
    rw [setF] at hr
    have hpl := popR_le i n 0
    refine ziload dX9_quarrel_109 rfl ?_
    refine ziconst (v := 1) dX9_quarrel_111 (by decide) ?_
    refine ziload_n dX9_quarrel_112 rfl ?_
    refine zishl dX9_quarrel_113 ?_
    rw [shl_nI7 hn]
    refine zicmp_ge (tgt := 247) dX9_quarrel_114 (by decide) (fun h => absurd h (nI_ge (b := 2 ^ n) (by omega) (by omega))) (fun _ => ?_)
    refine zlconst (v := 1) dX9_quarrel_117 (by decide) ?_
    refine zlstore dX9_quarrel_118 (by decide) rfl rfl ?_
    refine zaload_n dX9_quarrel_120 rfl ?_
    refine gf_X9_9 rfl dX9_quarrel_121 ?_
    refine zaload_n dX9_quarrel_124 rfl ?_
    refine gf_X9_13 rfl dX9_quarrel_125 ?_
    refine zcSn  gk_X9_133 dX9_quarrel_128 (c_X9_copies hr1 hr2 (by decide) hM) rfl (by decide) (Nat.le_of_ble_eq_true rfl) (fun S1 hp1 => ?_) rfl
    obtain ⟨hM1, -, hf1⟩ := hp1
    refine ziconst (v := 0) dX9_quarrel_131 (by decide) ?_
    refine zistore dX9_quarrel_132 (by decide) rfl ?_
    refine zlvs (lv' := [(0, .ref (zad x 0)), (1, .int (nI f)), (2, .int (nI n)), (3, .int (nI t)), (4, .int (nI v)), (5, .int (nI p)), (6, .long (lN ac)), (8, .long (lN be)), (10, .int (nI i)), (11, .long (lN 1)), (13, .int (nI 0))]) ⟨rfl, rfl, rfl, rfl, rfl, rfl, rfl, rfl, rfl, rfl, rfl, trivial⟩ ?_
    refine l_X9_q1 hW hfN hn8 hn ht1 ht (s := i) (C := popR i n 0) (G := (t - 1) ^ (n - popR i n 0)) (by omega) haT ha (fun S2 U hM2 hU6 hf2 => ?_) n 0 0 1 S1 (sT σ) (sT σ) (by omega) hM1 hW.1 (Sc.rf a01 a02) hW.1 hf1 rfl (by omega) (by rw [Nat.one_mul]) (Nat.le_refl 0)
    by_cases hth : thr a v ≤ popR i n 0
    · rw [show Nat.ble (thr a v) (popR i n 0) = true from Nat.ble_eq_true_of_le hth, cond_true] at hr
      refine zlload dX9_quarrel_215 rfl ?_
      refine zaload_n dX9_quarrel_217 rfl ?_
      refine gf_X9_13 rfl dX9_quarrel_218 ?_
      refine ziload_n dX9_quarrel_221 rfl ?_
      refine ziconst (v := nI 5) dX9_quarrel_222 (by decide) ?_
      refine zcSf gk_X9_52 dX9_quarrel_223 (c_X9_of (j := 5)) rfl (by decide) (Nat.le_of_ble_eq_true rfl) ?_ rfl
      refine zialM (k := 2) (j := 5) (w := 6) dX9_quarrel_226 hr2 hM2 rfl (by decide) (by omega) ?_
      rw [hU6]
      refine ziload dX9_quarrel_227 rfl ?_
      refine zicmp_lt (tgt := 237) dX9_quarrel_229 (by decide) (fun h => absurd h (nI_nlt ((thr_iff hv (by omega)).mpr hth) (by omega))) (fun _ => ?_)
      refine zlload dX9_quarrel_232 rfl ?_
      refine zgoto (tgt := 238) dX9_quarrel_234 (by decide) ?_
      refine zladd dX9_quarrel_238 ?_
      first | rw [lN_add] | rw [show lN ac + 0 = lN ac from by rw [show (0 : Int64) = lN 0 from rfl, lN_add, Nat.add_zero]]
      refine zlstore dX9_quarrel_239 (by decide) rfl rfl ?_
      refine ziinc dX9_quarrel_241 rfl rfl (by decide) rfl ?_
      refine zgoto (tgt := 109) dX9_quarrel_244 (by decide) ?_
      refine zlvs (lv' := [(0, .ref (zad x 0)), (1, .int (nI f)), (2, .int (nI n)), (3, .int (nI t)), (4, .int (nI v)), (5, .int (nI p)), (6, .long (lN _)), (8, .long (lN be)), (10, .int (nI (i + 1)))]) ⟨rfl, rfl, rfl, rfl, rfl, rfl, rfl, rfl, by rw [nI_succ i]; rfl, trivial⟩ ?_
      exact ih (i + 1) _ S2 (by omega) (hR.mind hf2 (Or.inl rfl)) hr
    · rw [show Nat.ble (thr a v) (popR i n 0) = false from by rw [← Bool.not_eq_true]; exact fun z => hth (Nat.le_of_ble_eq_true z), cond_false] at hr
      refine zlload dX9_quarrel_215 rfl ?_
      refine zaload_n dX9_quarrel_217 rfl ?_
      refine gf_X9_13 rfl dX9_quarrel_218 ?_
      refine ziload_n dX9_quarrel_221 rfl ?_
      refine ziconst (v := nI 5) dX9_quarrel_222 (by decide) ?_
      refine zcSf gk_X9_52 dX9_quarrel_223 (c_X9_of (j := 5)) rfl (by decide) (Nat.le_of_ble_eq_true rfl) ?_ rfl
      refine zialM (k := 2) (j := 5) (w := 6) dX9_quarrel_226 hr2 hM2 rfl (by decide) (by omega) ?_
      rw [hU6]
      refine ziload dX9_quarrel_227 rfl ?_
      refine zicmp_lt (tgt := 237) dX9_quarrel_229 (by decide) (fun _ => ?_) (fun h => absurd (nI_lt (Nat.not_le.mp (fun z => hth ((thr_iff hv (by omega)).mp z))) (by omega)) h)
      refine zlconst (v := 0) dX9_quarrel_237 (by decide) ?_
      refine zladd dX9_quarrel_238 ?_
      first | rw [lN_add] | rw [show lN ac + 0 = lN ac from by rw [show (0 : Int64) = lN 0 from rfl, lN_add, Nat.add_zero]]
      refine zlstore dX9_quarrel_239 (by decide) rfl rfl ?_
      refine ziinc dX9_quarrel_241 rfl rfl (by decide) rfl ?_
      refine zgoto (tgt := 109) dX9_quarrel_244 (by decide) ?_
      refine zlvs (lv' := [(0, .ref (zad x 0)), (1, .int (nI f)), (2, .int (nI n)), (3, .int (nI t)), (4, .int (nI v)), (5, .int (nI p)), (6, .long (lN _)), (8, .long (lN be)), (10, .int (nI (i + 1)))]) ⟨rfl, rfl, rfl, rfl, rfl, rfl, rfl, rfl, by rw [nI_succ i]; rfl, trivial⟩ ?_
      exact ih (i + 1) _ S2 (by omega) (hR.mind hf2 (Or.inl rfl)) hr
set_option maxRecDepth 100000 in
set_option maxHeartbeats 4000000 in
theorem c_X9_quarrel (hR : RepM σ S) (hW : WS σ) (f n t v p : Int32) : zRl x false mX9_quarrel [.ref (zad x 0), .int f, .int n, .int t, .int v, .int p] S (qMl (quE (sN σ) f n t v p) (quA (sN σ) (sT σ) f.toNatClampNeg n.toNatClampNeg t.toNatClampNeg v.toNatClampNeg p.toNatClampNeg) σ σ) := by
  have hM := hR.1
  have hn8 : sN σ ≤ 8 := hM.2.1
  refine zC_of (by decide +kernel) (Nat.le_of_ble_eq_true rfl) ?_
  refine zaload_n dX9_quarrel_0 rfl ?_
  refine ziload_n dX9_quarrel_1 rfl ?_
  refine zcVf ob_Mo gk_X9_48 dX9_quarrel_2 (c_X9_isOne hM) rfl (by decide) (Nat.le_of_ble_eq_true rfl) ?_ rfl
  refine zifb_ne (tgt := 14) dX9_quarrel_5 (by decide) (fun h5 => ?_) (fun h5 => ?_)
  · refine ziload_n dX9_quarrel_14 rfl ?_
    refine zif_lt (tgt := 28) dX9_quarrel_15 (by decide) (fun h15 => ?_) (fun h15 => ?_)
    · refine zaload_n dX9_quarrel_28 rfl ?_
      refine zbipush (v := -4) dX9_quarrel_29 (by decide) ?_
      refine zcVf ob_Mo gk_X9_200 dX9_quarrel_31 (c_X9_noWide isE_4) rfl (by decide) (Nat.le_of_ble_eq_true rfl) ?_ rfl
      exact zlreturn dX9_quarrel_34 rfl ⟨_, rfl, qMl_no (by unfold quE; rw [pF_yes h5, loQ_4 (by first | exact Or.inl h15 | exact Or.inr (Or.inl h20) | exact Or.inr (Or.inr (Int32.not_le.mp h25)))]; rfl) isE_4 hR⟩
    · refine ziload dX9_quarrel_18 rfl ?_
      refine zif_lt (tgt := 28) dX9_quarrel_20 (by decide) (fun h20 => ?_) (fun h20 => ?_)
      · refine zaload_n dX9_quarrel_28 rfl ?_
        refine zbipush (v := -4) dX9_quarrel_29 (by decide) ?_
        refine zcVf ob_Mo gk_X9_200 dX9_quarrel_31 (c_X9_noWide isE_4) rfl (by decide) (Nat.le_of_ble_eq_true rfl) ?_ rfl
        exact zlreturn dX9_quarrel_34 rfl ⟨_, rfl, qMl_no (by unfold quE; rw [pF_yes h5, loQ_4 (by first | exact Or.inl h15 | exact Or.inr (Or.inl h20) | exact Or.inr (Or.inr (Int32.not_le.mp h25)))]; rfl) isE_4 hR⟩
      · refine ziload_n dX9_quarrel_23 rfl ?_
        refine ziconst (v := 2) dX9_quarrel_24 (by decide) ?_
        refine zicmp_ge (tgt := 35) dX9_quarrel_25 (by decide) (fun h25 => ?_) (fun h25 => ?_)
        · refine ziload_n dX9_quarrel_35 rfl ?_
          refine zbipush (v := 7) dX9_quarrel_36 (by decide) ?_
          refine zicmp_gt (tgt := 54) dX9_quarrel_38 (by decide) (fun h38 => ?_) (fun h38 => ?_)
          · refine zaload_n dX9_quarrel_54 rfl ?_
            refine zbipush (v := -6) dX9_quarrel_55 (by decide) ?_
            refine zcVf ob_Mo gk_X9_200 dX9_quarrel_57 (c_X9_noWide isE_6) rfl (by decide) (Nat.le_of_ble_eq_true rfl) ?_ rfl
            exact zlreturn dX9_quarrel_60 rfl ⟨_, rfl, qMl_no (by unfold quE; rw [pF_yes h5, loQ_z h15 h20 (Int32.not_lt.mpr h25), hiQ_6 (by first | exact Or.inl h38 | exact Or.inr (Or.inl h44) | exact Or.inr (Or.inr (Int32.not_le.mp h51)))]; rfl) isE_6 hR⟩
          · refine ziload_n dX9_quarrel_41 rfl ?_
            refine zbipush (v := 20) dX9_quarrel_42 (by decide) ?_
            refine zicmp_gt (tgt := 54) dX9_quarrel_44 (by decide) (fun h44 => ?_) (fun h44 => ?_)
            · refine zaload_n dX9_quarrel_54 rfl ?_
              refine zbipush (v := -6) dX9_quarrel_55 (by decide) ?_
              refine zcVf ob_Mo gk_X9_200 dX9_quarrel_57 (c_X9_noWide isE_6) rfl (by decide) (Nat.le_of_ble_eq_true rfl) ?_ rfl
              exact zlreturn dX9_quarrel_60 rfl ⟨_, rfl, qMl_no (by unfold quE; rw [pF_yes h5, loQ_z h15 h20 (Int32.not_lt.mpr h25), hiQ_6 (by first | exact Or.inl h38 | exact Or.inr (Or.inl h44) | exact Or.inr (Or.inr (Int32.not_le.mp h51)))]; rfl) isE_6 hR⟩
            · refine ziload dX9_quarrel_47 rfl ?_
              refine zbipush (v := 99) dX9_quarrel_49 (by decide) ?_
              refine zicmp_le (tgt := 61) dX9_quarrel_51 (by decide) (fun h51 => ?_) (fun h51 => ?_)
              · refine ziload dX9_quarrel_61 rfl ?_
                refine ziconst (v := 0) dX9_quarrel_63 (by decide) ?_
                refine ziconst (v := 1) dX9_quarrel_64 (by decide) ?_
                refine zcSf  gk_X9_44 dX9_quarrel_65 c_isIn_1 rfl (by decide) (Nat.le_of_ble_eq_true rfl) ?_ rfl
                refine zifb_ne (tgt := 78) dX9_quarrel_68 (by decide) (fun h68 => ?_) (fun h68 => ?_)
                · have he : quE (sN σ) f n t v p = 0 := by unfold quE; rw [pF_yes h5, loQ_z h15 h20 (Int32.not_lt.mpr h25), hiQ_z h38 h44 (Int32.not_lt.mpr h51), of_decide_eq_true h68]; rfl
                  obtain ⟨i, a, c, d, j, hi, ha, hc1, hc2, hd, hj, rfl, rfl, rfl, rfl, rfl⟩ := quE_of hn8 he
                  obtain ⟨b, hb, hb2⟩ := ((WFT.months a _ hW.1).2.2.2.2 i hi).2
                  have hpw := pow_b hc1 hc2 ha
                  have hwy := way_set (th := thr b d) ha hc2 (thr_le _ _)
                  refine zlconst (v := 0) dX9_quarrel_78 (by decide) ?_
                  refine zlstore dX9_quarrel_79 (by decide) rfl rfl ?_
                  refine zlconst (v := 1) dX9_quarrel_81 (by decide) ?_
                  refine zlstore dX9_quarrel_82 (by decide) rfl rfl ?_
                  refine ziconst (v := 0) dX9_quarrel_84 (by decide) ?_
                  refine zistore dX9_quarrel_85 (by decide) rfl ?_
                  refine zlvs (lv' := [(0, .ref (zad x 0)), (1, .int (nI i)), (2, .int (nI a)), (3, .int (nI c)), (4, .int (nI d)), (5, .int (nI j)), (6, .long (lN 0)), (8, .long (lN (c ^ 0))), (10, .int (nI 0))]) ⟨rfl, rfl, rfl, rfl, rfl, rfl, rfl, rfl, rfl, trivial⟩ ?_
                  refine l_X9_q0 (f := i) (n := a) (t := c) (v := d) (p := j) ha hc2 ?_ a 0 (by omega)
                  refine ziconst (v := 0) dX9_quarrel_106 (by decide) ?_
                  refine zistore dX9_quarrel_107 (by decide) rfl ?_
                  refine zlvs (lv' := [(0, .ref (zad x 0)), (1, .int (nI i)), (2, .int (nI a)), (3, .int (nI c)), (4, .int (nI d)), (5, .int (nI j)), (6, .long (lN 0)), (8, .long (lN (c ^ a))), (10, .int (nI 0))]) ⟨rfl, rfl, rfl, rfl, rfl, rfl, rfl, rfl, rfl, trivial⟩ ?_
                  exact zZ_mono (l_X9_q2 (a := b) hW hi hn8 ha hc1 hc2 hd hj hb2 hb hpw.1 hpw.2 hwy.2 (2 ^ a) 0 0 S (by omega) hR hwy.1) (fun q V h => by obtain ⟨r, g1, g2, g3⟩ := h; exact ⟨r, g1, qMl_ok he (by rw [g2]; unfold quA; rw [nI_clamp (n := i) (by omega), nI_clamp (n := a) (by omega), nI_clamp (n := c) (by omega), nI_clamp (n := d) (by omega), nI_clamp (n := j) (by omega), hb2, nI_clamp (n := b) (by omega)]) g3⟩)
                · refine zaload_n dX9_quarrel_71 rfl ?_
                  refine zbipush (v := -2) dX9_quarrel_72 (by decide) ?_
                  refine zcVf ob_Mo gk_X9_200 dX9_quarrel_74 (c_X9_noWide isE_2) rfl (by decide) (Nat.le_of_ble_eq_true rfl) ?_ rfl
                  exact zlreturn dX9_quarrel_77 rfl ⟨_, rfl, qMl_no (by unfold quE; rw [pF_yes h5, loQ_z h15 h20 (Int32.not_lt.mpr h25), hiQ_z h38 h44 (Int32.not_lt.mpr h51), whF_2 (of_decide_eq_false h68)]; rfl) isE_2 hR⟩
              · refine zaload_n dX9_quarrel_54 rfl ?_
                refine zbipush (v := -6) dX9_quarrel_55 (by decide) ?_
                refine zcVf ob_Mo gk_X9_200 dX9_quarrel_57 (c_X9_noWide isE_6) rfl (by decide) (Nat.le_of_ble_eq_true rfl) ?_ rfl
                exact zlreturn dX9_quarrel_60 rfl ⟨_, rfl, qMl_no (by unfold quE; rw [pF_yes h5, loQ_z h15 h20 (Int32.not_lt.mpr h25), hiQ_6 (by first | exact Or.inl h38 | exact Or.inr (Or.inl h44) | exact Or.inr (Or.inr (Int32.not_le.mp h51)))]; rfl) isE_6 hR⟩
        · refine zaload_n dX9_quarrel_28 rfl ?_
          refine zbipush (v := -4) dX9_quarrel_29 (by decide) ?_
          refine zcVf ob_Mo gk_X9_200 dX9_quarrel_31 (c_X9_noWide isE_4) rfl (by decide) (Nat.le_of_ble_eq_true rfl) ?_ rfl
          exact zlreturn dX9_quarrel_34 rfl ⟨_, rfl, qMl_no (by unfold quE; rw [pF_yes h5, loQ_4 (by first | exact Or.inl h15 | exact Or.inr (Or.inl h20) | exact Or.inr (Or.inr (Int32.not_le.mp h25)))]; rfl) isE_4 hR⟩
  · refine zaload_n dX9_quarrel_8 rfl ?_
    refine ziconst (v := -1) dX9_quarrel_9 (by decide) ?_
    refine zcVf ob_Mo gk_X9_200 dX9_quarrel_10 (c_X9_noWide isE_1) rfl (by decide) (Nat.le_of_ble_eq_true rfl) ?_ rfl
    exact zlreturn dX9_quarrel_13 rfl ⟨_, rfl, qMl_no (by unfold quE; rw [pF_1 h5]; rfl) isE_1 hR⟩
end ODDS3
