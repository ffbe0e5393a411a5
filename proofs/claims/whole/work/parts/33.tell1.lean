/-! The telling, in the class -/
section TELL1
variable {x : zCx} {S : zSt} {σ σ' : Sig} {adK adV : Nat → Nat} {fa : Option Nat} {L : Nat → Nat} {N : Nat} {t : Tau}
def tauC (S : zSt) (t : Tau) : Prop := isT S 1 t.1 t.2.1 ∧ S.2 (tp 1) 9 = t.2.2
def stQ (o : Option Tau) (S : zSt) : Int32 → zSt → Prop := fun r U => (o = none ∧ r = bI false ∧ frT 1 S U) ∨ ∃ u, o = some u ∧ r = bI true ∧ tauC U u ∧ frT 1 S U
theorem stQ_n {o : Option Tau} (h : o = none) : stQ o S (bI false) S := Or.inl ⟨h, rfl, frT.rf⟩
theorem stQ_s {o : Option Tau} {u : Tau} {U : zSt} (h : o = some u) (hu : tauC U u) (hf : frT 1 S U) : stQ o S (bI true) U := Or.inr ⟨u, h, rfl, hu, hf⟩
theorem thN {a n : Nat} (ha : a < 2 ^ 31) (hn : n < 2 ^ 31) : decide (0 ≤ nI a ∧ nI a < nI n) = decide (a < n) := by
  congr 1
  apply propext
  exact ⟨fun h => (nI_ltI ha hn).mp h.2, fun h => ⟨nI_pos' ha, nI_lt h hn⟩⟩
theorem c_there {a n : Nat} {T : Tw} (hT : isT S 1 n T) (ha : a < 100) : zF x true mX7_isThere [.ref (zad x (tp 1)), .int (nI a)] S (some (.int (bI (decide (a < n))))) S := by
  have hn := hT.2.1
  have h := c_X7_isThere (x := x) (t := 1) (by decide) hT (p := nI a)
  rw [thN (by omega) (by omega)] at h
  exact h

set_option maxRecDepth 100000 in
set_option maxHeartbeats 4000000 in
theorem c_X6_lendingComes {a c : Nat} (ha : a < 100) (hc : c < 100) (ht : tauC S t) : zR x true mX6_lendingComes [.ref (zad x (tp 1)), .int (nI a), .int (nI c)] S (stQ (stL t a c) S) := by
  have hT := ht.1
  have hn8 := hT.2.1
  refine zC_of (by decide +kernel) (Nat.le_of_ble_eq_true rfl) ?_
  by_cases h1 : a < t.1
  · by_cases h2 : c < t.1
    · by_cases h3 : ¬ a = c ∧ t.2.1 4 a = nI a ∧ t.2.1 4 c = nI c
      · refine zaload_n dX6_lendingComes_0 rfl ?_
        refine ziload_n dX6_lendingComes_1 rfl ?_
        refine zcVf (ob_town (t := 1) (by decide)) gk_X6_98 dX6_lendingComes_2 (c_there hT (by omega)) rfl (by decide) (Nat.le_of_ble_eq_true rfl) ?_ rfl
        refine zifb_eq (tgt := 29) dX6_lendingComes_5 (by decide) (fun h => absurd (h.symm.trans (decide_eq_true h1)) (by decide)) (fun _ => ?_)
        refine zaload_n dX6_lendingComes_8 rfl ?_
        refine ziload_n dX6_lendingComes_9 rfl ?_
        refine zcVf (ob_town (t := 1) (by decide)) gk_X6_98 dX6_lendingComes_10 (c_there hT (by omega)) rfl (by decide) (Nat.le_of_ble_eq_true rfl) ?_ rfl
        refine zifb_eq (tgt := 29) dX6_lendingComes_13 (by decide) (fun h => absurd (h.symm.trans (decide_eq_true h2)) (by decide)) (fun _ => ?_)
        refine zaload_n dX6_lendingComes_16 rfl ?_
        refine ziload_n dX6_lendingComes_17 rfl ?_
        refine ziload_n dX6_lendingComes_18 rfl ?_
        refine zcVf (ob_town (t := 1) (by decide)) gk_X6_102 dX6_lendingComes_19 (c_X7_canLend (t := 1) (by decide) hT h1 h2) rfl (by decide) (Nat.le_of_ble_eq_true rfl) ?_ rfl
        refine zifb_eq (tgt := 29) dX6_lendingComes_22 (by decide) (fun h => absurd (h.symm.trans (decide_eq_true h3)) (by decide)) (fun _ => ?_)
        refine ziconst (v := 1) dX6_lendingComes_25 (by decide) ?_
        refine zgoto (tgt := 30) dX6_lendingComes_26 (by decide) ?_
        refine zistore_n dX6_lendingComes_30 (by decide) rfl ?_
        refine ziload_n dX6_lendingComes_31 rfl ?_
        refine zif_eq (tgt := 41) dX6_lendingComes_32 (by decide) (fun h => absurd h (by decide)) (fun _ => ?_)
        refine zaload_n dX6_lendingComes_35 rfl ?_
        refine ziload_n dX6_lendingComes_36 rfl ?_
        refine ziload_n dX6_lendingComes_37 rfl ?_
        refine zcVv (ob_town (t := 1) (by decide)) gk_X6_105 dX6_lendingComes_38 (c_X7_handOver (t := 1) (by decide) hT h1 h2) rfl (by decide) (Nat.le_of_ble_eq_true rfl) ?_ rfl
        refine ziload_n dX6_lendingComes_41 rfl ?_
        exact zbret (q := true) dX6_lendingComes_42 rfl rfl ⟨_, rfl, stQ_s (u := (t.1, handT t.2.1 a c, t.2.2)) (by unfold stL; rw [if_pos ⟨h1, h2, h3⟩]) ⟨isT_hand hT, ht.2⟩ (fr_hand frT.rf)⟩
      · refine zaload_n dX6_lendingComes_0 rfl ?_
        refine ziload_n dX6_lendingComes_1 rfl ?_
        refine zcVf (ob_town (t := 1) (by decide)) gk_X6_98 dX6_lendingComes_2 (c_there hT (by omega)) rfl (by decide) (Nat.le_of_ble_eq_true rfl) ?_ rfl
        refine zifb_eq (tgt := 29) dX6_lendingComes_5 (by decide) (fun h => absurd (h.symm.trans (decide_eq_true h1)) (by decide)) (fun _ => ?_)
        refine zaload_n dX6_lendingComes_8 rfl ?_
        refine ziload_n dX6_lendingComes_9 rfl ?_
        refine zcVf (ob_town (t := 1) (by decide)) gk_X6_98 dX6_lendingComes_10 (c_there hT (by omega)) rfl (by decide) (Nat.le_of_ble_eq_true rfl) ?_ rfl
        refine zifb_eq (tgt := 29) dX6_lendingComes_13 (by decide) (fun h => absurd (h.symm.trans (decide_eq_true h2)) (by decide)) (fun _ => ?_)
        refine zaload_n dX6_lendingComes_16 rfl ?_
        refine ziload_n dX6_lendingComes_17 rfl ?_
        refine ziload_n dX6_lendingComes_18 rfl ?_
        refine zcVf (ob_town (t := 1) (by decide)) gk_X6_102 dX6_lendingComes_19 (c_X7_canLend (t := 1) (by decide) hT h1 h2) rfl (by decide) (Nat.le_of_ble_eq_true rfl) ?_ rfl
        refine zifb_eq (tgt := 29) dX6_lendingComes_22 (by decide) (fun _ => ?_) (fun h => absurd (h.symm.trans (decide_eq_false h3)) (by decide))
        refine ziconst (v := 0) dX6_lendingComes_29 (by decide) ?_
        refine zistore_n dX6_lendingComes_30 (by decide) rfl ?_
        refine ziload_n dX6_lendingComes_31 rfl ?_
        refine zif_eq (tgt := 41) dX6_lendingComes_32 (by decide) (fun _ => ?_) (fun h => absurd rfl h)
        refine ziload_n dX6_lendingComes_41 rfl ?_
        exact zbret (q := false) dX6_lendingComes_42 rfl rfl ⟨_, rfl, stQ_n (by unfold stL; rw [if_neg (fun z => h3 z.2.2)])⟩
    · refine zaload_n dX6_lendingComes_0 rfl ?_
      refine ziload_n dX6_lendingComes_1 rfl ?_
      refine zcVf (ob_town (t := 1) (by decide)) gk_X6_98 dX6_lendingComes_2 (c_there hT (by omega)) rfl (by decide) (Nat.le_of_ble_eq_true rfl) ?_ rfl
      refine zifb_eq (tgt := 29) dX6_lendingComes_5 (by decide) (fun h => absurd (h.symm.trans (decide_eq_true h1)) (by decide)) (fun _ => ?_)
      refine zaload_n dX6_lendingComes_8 rfl ?_
      refine ziload_n dX6_lendingComes_9 rfl ?_
      refine zcVf (ob_town (t := 1) (by decide)) gk_X6_98 dX6_lendingComes_10 (c_there hT (by omega)) rfl (by decide) (Nat.le_of_ble_eq_true rfl) ?_ rfl
      refine zifb_eq (tgt := 29) dX6_lendingComes_13 (by decide) (fun _ => ?_) (fun h => absurd (h.symm.trans (decide_eq_false h2)) (by decide))
      refine ziconst (v := 0) dX6_lendingComes_29 (by decide) ?_
      refine zistore_n dX6_lendingComes_30 (by decide) rfl ?_
      refine ziload_n dX6_lendingComes_31 rfl ?_
      refine zif_eq (tgt := 41) dX6_lendingComes_32 (by decide) (fun _ => ?_) (fun h => absurd rfl h)
      refine ziload_n dX6_lendingComes_41 rfl ?_
      exact zbret (q := false) dX6_lendingComes_42 rfl rfl ⟨_, rfl, stQ_n (by unfold stL; rw [if_neg (fun z => h2 z.2.1)])⟩
  · refine zaload_n dX6_lendingComes_0 rfl ?_
    refine ziload_n dX6_lendingComes_1 rfl ?_
    refine zcVf (ob_town (t := 1) (by decide)) gk_X6_98 dX6_lendingComes_2 (c_there hT (by omega)) rfl (by decide) (Nat.le_of_ble_eq_true rfl) ?_ rfl
    refine zifb_eq (tgt := 29) dX6_lendingComes_5 (by decide) (fun _ => ?_) (fun h => absurd (h.symm.trans (decide_eq_false h1)) (by decide))
    refine ziconst (v := 0) dX6_lendingComes_29 (by decide) ?_
    refine zistore_n dX6_lendingComes_30 (by decide) rfl ?_
    refine ziload_n dX6_lendingComes_31 rfl ?_
    refine zif_eq (tgt := 41) dX6_lendingComes_32 (by decide) (fun _ => ?_) (fun h => absurd rfl h)
    refine ziload_n dX6_lendingComes_41 rfl ?_
    exact zbret (q := false) dX6_lendingComes_42 rfl rfl ⟨_, rfl, stQ_n (by unfold stL; rw [if_neg (fun z => h1 z.1)])⟩
set_option maxRecDepth 100000 in
set_option maxHeartbeats 4000000 in
theorem c_X6_backComes {a : Nat} (ha : a < 100) (ht : tauC S t) : zR x true mX6_backComes [.ref (zad x (tp 1)), .int (nI a)] S (stQ (stB t a) S) := by
  have hT := ht.1
  have hn8 := hT.2.1
  refine zC_of (by decide +kernel) (Nat.le_of_ble_eq_true rfl) ?_
  by_cases h1 : a < t.1
  · by_cases h2 : 0 < t.2.1 7 a
    · refine zaload_n dX6_backComes_0 rfl ?_
      refine ziload_n dX6_backComes_1 rfl ?_
      refine zcVf (ob_town (t := 1) (by decide)) gk_X6_98 dX6_backComes_2 (c_there hT (by omega)) rfl (by decide) (Nat.le_of_ble_eq_true rfl) ?_ rfl
      refine zifb_eq (tgt := 20) dX6_backComes_5 (by decide) (fun h => absurd (h.symm.trans (decide_eq_true h1)) (by decide)) (fun _ => ?_)
      refine zaload_n dX6_backComes_8 rfl ?_
      refine ziload_n dX6_backComes_9 rfl ?_
      refine zcVf (ob_town (t := 1) (by decide)) gk_X6_109 dX6_backComes_10 (c_X7_isLent (t := 1) (by decide) hT h1) rfl (by decide) (Nat.le_of_ble_eq_true rfl) ?_ rfl
      refine zifb_eq (tgt := 20) dX6_backComes_13 (by decide) (fun h => absurd (h.symm.trans (decide_eq_true h2)) (by decide)) (fun _ => ?_)
      refine ziconst (v := 1) dX6_backComes_16 (by decide) ?_
      refine zgoto (tgt := 21) dX6_backComes_17 (by decide) ?_
      refine zistore_n dX6_backComes_21 (by decide) rfl ?_
      refine ziload_n dX6_backComes_22 rfl ?_
      refine zif_eq (tgt := 32) dX6_backComes_23 (by decide) (fun h => absurd h (by decide)) (fun _ => ?_)
      refine zaload_n dX6_backComes_26 rfl ?_
      refine ziload_n dX6_backComes_27 rfl ?_
      refine zcVr (ob_town (t := 1) (by decide)) gk_X6_112 dX6_backComes_28 (c_X7_bringBack (t := 1) (by decide) hT h1) rfl (by decide) (Nat.le_of_ble_eq_true rfl) (fun r2 S2 hp2 => ?_) rfl
      obtain ⟨rfl, hT2, hg2, hf2⟩ := hp2
      refine zpop dX6_backComes_31 rfl ?_
      refine ziload_n dX6_backComes_32 rfl ?_
      exact zbret (q := true) dX6_backComes_33 rfl rfl ⟨_, rfl, stQ_s (by unfold stB; rw [if_pos ⟨h1, h2⟩]) ⟨hT2, by rw [hg2]; exact ht.2⟩ hf2⟩
    · refine zaload_n dX6_backComes_0 rfl ?_
      refine ziload_n dX6_backComes_1 rfl ?_
      refine zcVf (ob_town (t := 1) (by decide)) gk_X6_98 dX6_backComes_2 (c_there hT (by omega)) rfl (by decide) (Nat.le_of_ble_eq_true rfl) ?_ rfl
      refine zifb_eq (tgt := 20) dX6_backComes_5 (by decide) (fun h => absurd (h.symm.trans (decide_eq_true h1)) (by decide)) (fun _ => ?_)
      refine zaload_n dX6_backComes_8 rfl ?_
      refine ziload_n dX6_backComes_9 rfl ?_
      refine zcVf (ob_town (t := 1) (by decide)) gk_X6_109 dX6_backComes_10 (c_X7_isLent (t := 1) (by decide) hT h1) rfl (by decide) (Nat.le_of_ble_eq_true rfl) ?_ rfl
      refine zifb_eq (tgt := 20) dX6_backComes_13 (by decide) (fun _ => ?_) (fun h => absurd (h.symm.trans (decide_eq_false h2)) (by decide))
      refine ziconst (v := 0) dX6_backComes_20 (by decide) ?_
      refine zistore_n dX6_backComes_21 (by decide) rfl ?_
      refine ziload_n dX6_backComes_22 rfl ?_
      refine zif_eq (tgt := 32) dX6_backComes_23 (by decide) (fun _ => ?_) (fun h => absurd rfl h)
      refine ziload_n dX6_backComes_32 rfl ?_
      exact zbret (q := false) dX6_backComes_33 rfl rfl ⟨_, rfl, stQ_n (by unfold stB; rw [if_neg (fun z => h2 z.2)])⟩
  · refine zaload_n dX6_backComes_0 rfl ?_
    refine ziload_n dX6_backComes_1 rfl ?_
    refine zcVf (ob_town (t := 1) (by decide)) gk_X6_98 dX6_backComes_2 (c_there hT (by omega)) rfl (by decide) (Nat.le_of_ble_eq_true rfl) ?_ rfl
    refine zifb_eq (tgt := 20) dX6_backComes_5 (by decide) (fun _ => ?_) (fun h => absurd (h.symm.trans (decide_eq_false h1)) (by decide))
    refine ziconst (v := 0) dX6_backComes_20 (by decide) ?_
    refine zistore_n dX6_backComes_21 (by decide) rfl ?_
    refine ziload_n dX6_backComes_22 rfl ?_
    refine zif_eq (tgt := 32) dX6_backComes_23 (by decide) (fun _ => ?_) (fun h => absurd rfl h)
    refine ziload_n dX6_backComes_32 rfl ?_
    exact zbret (q := false) dX6_backComes_33 rfl rfl ⟨_, rfl, stQ_n (by unfold stB; rw [if_neg (fun z => h1 z.1)])⟩
set_option maxRecDepth 100000 in
set_option maxHeartbeats 4000000 in
theorem c_X6_knowingComes {a c : Nat} (ha : a < 100) (hc : c < 100) (ht : tauC S t) : zR x true mX6_knowingComes [.ref (zad x (tp 1)), .int (nI a), .int (nI c)] S (stQ (stK t a c) S) := by
  have hT := ht.1
  have hn8 := hT.2.1
  refine zC_of (by decide +kernel) (Nat.le_of_ble_eq_true rfl) ?_
  by_cases h1 : a < t.1
  · by_cases h2 : c < t.1
    · refine zaload_n dX6_knowingComes_0 rfl ?_
      refine ziload_n dX6_knowingComes_1 rfl ?_
      refine zcVf (ob_town (t := 1) (by decide)) gk_X6_98 dX6_knowingComes_2 (c_there hT (by omega)) rfl (by decide) (Nat.le_of_ble_eq_true rfl) ?_ rfl
      refine zifb_eq (tgt := 20) dX6_knowingComes_5 (by decide) (fun h => absurd (h.symm.trans (decide_eq_true h1)) (by decide)) (fun _ => ?_)
      refine zaload_n dX6_knowingComes_8 rfl ?_
      refine ziload_n dX6_knowingComes_9 rfl ?_
      refine zcVf (ob_town (t := 1) (by decide)) gk_X6_98 dX6_knowingComes_10 (c_there hT (by omega)) rfl (by decide) (Nat.le_of_ble_eq_true rfl) ?_ rfl
      refine zifb_eq (tgt := 20) dX6_knowingComes_13 (by decide) (fun h => absurd (h.symm.trans (decide_eq_true h2)) (by decide)) (fun _ => ?_)
      refine ziconst (v := 1) dX6_knowingComes_16 (by decide) ?_
      refine zgoto (tgt := 21) dX6_knowingComes_17 (by decide) ?_
      refine zistore_n dX6_knowingComes_21 (by decide) rfl ?_
      refine ziload_n dX6_knowingComes_22 rfl ?_
      refine zif_eq (tgt := 32) dX6_knowingComes_23 (by decide) (fun h => absurd h (by decide)) (fun _ => ?_)
      refine zaload_n dX6_knowingComes_26 rfl ?_
      refine ziload_n dX6_knowingComes_27 rfl ?_
      refine ziload_n dX6_knowingComes_28 rfl ?_
      refine zcVv (ob_town (t := 1) (by decide)) gk_X6_115 dX6_knowingComes_29 (c_X7_turnKnowing (t := 1) (by decide) hT h1) rfl (by decide) (Nat.le_of_ble_eq_true rfl) ?_ rfl
      refine ziload_n dX6_knowingComes_32 rfl ?_
      exact zbret (q := true) dX6_knowingComes_33 rfl rfl ⟨_, rfl, stQ_s (u := (t.1, u2 t.2.1 3 a (t.2.1 3 a ^^^ (1 <<< (nI c &&& 31))), t.2.2)) (by unfold stK; rw [if_pos ⟨h1, h2⟩]) ⟨isT_put hT, ht.2⟩ (frT.rf.put (by decide) (by decide))⟩
    · refine zaload_n dX6_knowingComes_0 rfl ?_
      refine ziload_n dX6_knowingComes_1 rfl ?_
      refine zcVf (ob_town (t := 1) (by decide)) gk_X6_98 dX6_knowingComes_2 (c_there hT (by omega)) rfl (by decide) (Nat.le_of_ble_eq_true rfl) ?_ rfl
      refine zifb_eq (tgt := 20) dX6_knowingComes_5 (by decide) (fun h => absurd (h.symm.trans (decide_eq_true h1)) (by decide)) (fun _ => ?_)
      refine zaload_n dX6_knowingComes_8 rfl ?_
      refine ziload_n dX6_knowingComes_9 rfl ?_
      refine zcVf (ob_town (t := 1) (by decide)) gk_X6_98 dX6_knowingComes_10 (c_there hT (by omega)) rfl (by decide) (Nat.le_of_ble_eq_true rfl) ?_ rfl
      refine zifb_eq (tgt := 20) dX6_knowingComes_13 (by decide) (fun _ => ?_) (fun h => absurd (h.symm.trans (decide_eq_false h2)) (by decide))
      refine ziconst (v := 0) dX6_knowingComes_20 (by decide) ?_
      refine zistore_n dX6_knowingComes_21 (by decide) rfl ?_
      refine ziload_n dX6_knowingComes_22 rfl ?_
      refine zif_eq (tgt := 32) dX6_knowingComes_23 (by decide) (fun _ => ?_) (fun h => absurd rfl h)
      refine ziload_n dX6_knowingComes_32 rfl ?_
      exact zbret (q := false) dX6_knowingComes_33 rfl rfl ⟨_, rfl, stQ_n (by unfold stK; rw [if_neg (fun z => h2 z.2)])⟩
  · refine zaload_n dX6_knowingComes_0 rfl ?_
    refine ziload_n dX6_knowingComes_1 rfl ?_
    refine zcVf (ob_town (t := 1) (by decide)) gk_X6_98 dX6_knowingComes_2 (c_there hT (by omega)) rfl (by decide) (Nat.le_of_ble_eq_true rfl) ?_ rfl
    refine zifb_eq (tgt := 20) dX6_knowingComes_5 (by decide) (fun _ => ?_) (fun h => absurd (h.symm.trans (decide_eq_false h1)) (by decide))
    refine ziconst (v := 0) dX6_knowingComes_20 (by decide) ?_
    refine zistore_n dX6_knowingComes_21 (by decide) rfl ?_
    refine ziload_n dX6_knowingComes_22 rfl ?_
    refine zif_eq (tgt := 32) dX6_knowingComes_23 (by decide) (fun _ => ?_) (fun h => absurd rfl h)
    refine ziload_n dX6_knowingComes_32 rfl ?_
    exact zbret (q := false) dX6_knowingComes_33 rfl rfl ⟨_, rfl, stQ_n (by unfold stK; rw [if_neg (fun z => h1 z.1)])⟩
set_option maxRecDepth 100000 in
set_option maxHeartbeats 4000000 in
theorem c_X6_fameComes {a v : Nat} (ha : a < 100) (ht : tauC S t) : zR x true mX6_fameComes [.ref (zad x (tp 1)), .int (nI a), .int (nI v)] S (stQ (stF t a v) S) := by
  have hT := ht.1
  have hn8 := hT.2.1
  refine zC_of (by decide +kernel) (Nat.le_of_ble_eq_true rfl) ?_
  by_cases h1 : a < t.1
  · refine zaload_n dX6_fameComes_0 rfl ?_
    refine ziload_n dX6_fameComes_1 rfl ?_
    refine zcVf (ob_town (t := 1) (by decide)) gk_X6_98 dX6_fameComes_2 (c_there hT (by omega)) rfl (by decide) (Nat.le_of_ble_eq_true rfl) ?_ rfl
    refine zistore_n dX6_fameComes_5 (by decide) rfl ?_
    refine ziload_n dX6_fameComes_6 rfl ?_
    refine zifb_eq (tgt := 17) dX6_fameComes_7 (by decide) (fun h => absurd (h.symm.trans (decide_eq_true h1)) (by decide)) (fun _ => ?_)
    refine zaload_n dX6_fameComes_10 rfl ?_
    refine gf_X6_118 (t := 1) (by decide) rfl dX6_fameComes_11 ?_
    refine ziload_n dX6_fameComes_14 rfl ?_
    refine ziload_n dX6_fameComes_15 rfl ?_
    refine ziast dX6_fameComes_16 (tpk (by decide) (by decide)) (tpa (by decide) (by decide) (by decide)) (by decide) (by omega) ?_
    refine ziload_n dX6_fameComes_17 rfl ?_
    exact zbret dX6_fameComes_18 rfl rfl ⟨_, by rw [decide_eq_true h1], stQ_s (u := (t.1, u2 t.2.1 5 a (nI v), t.2.2)) (by unfold stF; rw [if_pos h1]) ⟨isT_put hT, ht.2⟩ (frT.rf.put (by decide) (by decide))⟩
  · refine zaload_n dX6_fameComes_0 rfl ?_
    refine ziload_n dX6_fameComes_1 rfl ?_
    refine zcVf (ob_town (t := 1) (by decide)) gk_X6_98 dX6_fameComes_2 (c_there hT (by omega)) rfl (by decide) (Nat.le_of_ble_eq_true rfl) ?_ rfl
    refine zistore_n dX6_fameComes_5 (by decide) rfl ?_
    refine ziload_n dX6_fameComes_6 rfl ?_
    refine zifb_eq (tgt := 17) dX6_fameComes_7 (by decide) (fun _ => ?_) (fun h => absurd (h.symm.trans (decide_eq_false h1)) (by decide))
    refine ziload_n dX6_fameComes_17 rfl ?_
    exact zbret dX6_fameComes_18 rfl rfl ⟨_, by rw [decide_eq_false h1], stQ_n (by unfold stF; rw [if_neg h1])⟩
set_option maxRecDepth 100000 in
set_option maxHeartbeats 4000000 in
theorem c_X6_monthsCome {v : Nat} (hv : v < 100) (ht : tauC S t) (hV : VW t.1 t.2.1) : zR x true mX6_monthsCome [.ref (zad x (tp 1)), .int (nI v)] S (stQ (stM t v) S) := by
  have hT := ht.1
  have hn8 := hT.2.1
  refine zC_of (by decide +kernel) (Nat.le_of_ble_eq_true rfl) ?_
  by_cases h1 : 1 ≤ v ∧ v ≤ 60
  · have hr : rgF (nI v) 1 60 = 0 := rgF_in (show ¬ nI v < nI 1 from nI_nlt h1.1 (by omega)) (show ¬ nI 60 < nI v from nI_nlt h1.2 (by omega))
    by_cases h2 : t.2.2 + nI v ≤ 999
    · refine ziload_n dX6_monthsCome_0 rfl ?_
      refine ziconst (v := 1) dX6_monthsCome_1 (by decide) ?_
      refine zbipush (v := 60) dX6_monthsCome_2 (by decide) ?_
      refine zcNf  gk_X6_121 dX6_monthsCome_4 (show zF x true mX8_rangeFault _ S (some (.int (rgF (nI v) 1 60))) S from c_X8_rangeFault) rfl (by decide) (Nat.le_of_ble_eq_true rfl) ?_ rfl
      refine zif_ne (tgt := 26) dX6_monthsCome_7 (by decide) (fun h => absurd hr h) (fun _ => ?_)
      refine zaload_n dX6_monthsCome_10 rfl ?_
      refine gf_X6_125 (t := 1) (by decide) rfl dX6_monthsCome_11 ?_
      rw [ht.2]
      refine ziload_n dX6_monthsCome_14 rfl ?_
      refine ziadd dX6_monthsCome_15 ?_
      refine zsipush (v := 999) dX6_monthsCome_16 (by decide) ?_
      refine zicmp_gt (tgt := 26) dX6_monthsCome_19 (by decide) (fun h => absurd h (Int32.not_lt.mpr h2)) (fun _ => ?_)
      refine ziconst (v := 1) dX6_monthsCome_22 (by decide) ?_
      refine zgoto (tgt := 27) dX6_monthsCome_23 (by decide) ?_
      refine zistore_n dX6_monthsCome_27 (by decide) rfl ?_
      refine ziload_n dX6_monthsCome_28 rfl ?_
      refine zif_eq (tgt := 37) dX6_monthsCome_29 (by decide) (fun h => absurd h (by decide)) (fun _ => ?_)
      refine zaload_n dX6_monthsCome_32 rfl ?_
      refine ziload_n dX6_monthsCome_33 rfl ?_
      refine zcVn (ob_town (t := 1) (by decide)) gk_X6_128 dX6_monthsCome_34 (c_X7_goOn (t := 1) (by decide) hT hV (K := v) (by omega)) rfl (by decide) (Nat.le_of_ble_eq_true rfl) (fun S2 hp2 => ?_) rfl
      obtain ⟨hT2, -, hg2, hf2⟩ := hp2
      refine ziload_n dX6_monthsCome_37 rfl ?_
      exact zbret (q := true) dX6_monthsCome_38 rfl rfl ⟨_, rfl, stQ_s (by unfold stM; rw [if_pos ⟨h1.1, h1.2, h2⟩]) ⟨hT2, by rw [hg2, ht.2]⟩ hf2⟩
    · refine ziload_n dX6_monthsCome_0 rfl ?_
      refine ziconst (v := 1) dX6_monthsCome_1 (by decide) ?_
      refine zbipush (v := 60) dX6_monthsCome_2 (by decide) ?_
      refine zcNf  gk_X6_121 dX6_monthsCome_4 (show zF x true mX8_rangeFault _ S (some (.int (rgF (nI v) 1 60))) S from c_X8_rangeFault) rfl (by decide) (Nat.le_of_ble_eq_true rfl) ?_ rfl
      refine zif_ne (tgt := 26) dX6_monthsCome_7 (by decide) (fun h => absurd hr h) (fun _ => ?_)
      refine zaload_n dX6_monthsCome_10 rfl ?_
      refine gf_X6_125 (t := 1) (by decide) rfl dX6_monthsCome_11 ?_
      rw [ht.2]
      refine ziload_n dX6_monthsCome_14 rfl ?_
      refine ziadd dX6_monthsCome_15 ?_
      refine zsipush (v := 999) dX6_monthsCome_16 (by decide) ?_
      refine zicmp_gt (tgt := 26) dX6_monthsCome_19 (by decide) (fun _ => ?_) (fun h => absurd (Int32.not_le.mp h2) h)
      refine ziconst (v := 0) dX6_monthsCome_26 (by decide) ?_
      refine zistore_n dX6_monthsCome_27 (by decide) rfl ?_
      refine ziload_n dX6_monthsCome_28 rfl ?_
      refine zif_eq (tgt := 37) dX6_monthsCome_29 (by decide) (fun _ => ?_) (fun h => absurd rfl h)
      refine ziload_n dX6_monthsCome_37 rfl ?_
      exact zbret (q := false) dX6_monthsCome_38 rfl rfl ⟨_, rfl, stQ_n (by unfold stM; rw [if_neg (fun z => h2 z.2.2)])⟩
  · have hr : ¬ rgF (nI v) 1 60 = 0 := fun z => by obtain ⟨j, j1, j2, j3⟩ := rgF_of (a := 1) (c := 60) (by decide) (by decide) z; have := (nI_eq (by omega) (by omega)).mp j3; omega
    refine ziload_n dX6_monthsCome_0 rfl ?_
    refine ziconst (v := 1) dX6_monthsCome_1 (by decide) ?_
    refine zbipush (v := 60) dX6_monthsCome_2 (by decide) ?_
    refine zcNf  gk_X6_121 dX6_monthsCome_4 (show zF x true mX8_rangeFault _ S (some (.int (rgF (nI v) 1 60))) S from c_X8_rangeFault) rfl (by decide) (Nat.le_of_ble_eq_true rfl) ?_ rfl
    refine zif_ne (tgt := 26) dX6_monthsCome_7 (by decide) (fun _ => ?_) (fun h => absurd h hr)
    refine ziconst (v := 0) dX6_monthsCome_26 (by decide) ?_
    refine zistore_n dX6_monthsCome_27 (by decide) rfl ?_
    refine ziload_n dX6_monthsCome_28 rfl ?_
    refine zif_eq (tgt := 37) dX6_monthsCome_29 (by decide) (fun _ => ?_) (fun h => absurd rfl h)
    refine ziload_n dX6_monthsCome_37 rfl ?_
    exact zbret (q := false) dX6_monthsCome_38 rfl rfl ⟨_, rfl, stQ_n (by unfold stM; rw [if_neg (fun z => h1 ⟨z.1, z.2.1⟩)])⟩
def LC (S : zSt) (L : Nat → Nat) (N : Nat) : Prop := S.2 32 1 = nI N ∧ N ≤ 96 ∧ ∀ i, i < N → S.1 33 i = nI (L i) ∧ L i < 256
theorem LC.fr {S' : zSt} (h : LC S L N) (hf : frT 1 S S') : LC S' L N := by
  refine ⟨by rw [hf.2 32 (by decide)]; exact h.1, h.2.1, fun i hi => ?_⟩
  rw [hf.1 33 (by decide)]
  exact h.2.2 i hi
set_option maxRecDepth 100000 in
set_option maxHeartbeats 4000000 in
theorem c_X6_signAt {k : Nat} (hl : LC S L N) (hk : k < N) : zF x true mX6_signAt [.ref (zad x 32), .int (nI k)] S (some (.int (nI (L k)))) S := by
  have hN := hl.2.1
  refine zC_of (by decide +kernel) (Nat.le_of_ble_eq_true rfl) ?_
  refine ziload_n dX6_signAt_0 rfl ?_
  refine zaload_n dX6_signAt_1 rfl ?_
  refine gf_X6_15 rfl dX6_signAt_2 ?_
  rw [hl.1]
  refine zicmp_ge (tgt := 17) dX6_signAt_5 (by decide) (fun h => absurd h (nI_ge hk (by omega))) (fun _ => ?_)
  refine zaload_n dX6_signAt_8 rfl ?_
  refine gf_X6_9 rfl dX6_signAt_9 ?_
  refine ziload_n dX6_signAt_12 rfl ?_
  refine ziald dX6_signAt_13 (by decide) rfl (by decide) (by omega) ?_
  rw [(hl.2.2 k hk).1]
  refine zgoto (tgt := 18) dX6_signAt_14 (by decide) ?_
  exact zireturn dX6_signAt_18 rfl rfl ⟨rfl, rfl⟩
set_option maxRecDepth 100000 in
set_option maxHeartbeats 4000000 in
theorem c_X6_digitAt {k : Nat} (hl : LC S L N) (hk : k < N) (h48 : 48 ≤ L k) : zF x true mX6_digitAt [.ref (zad x 32), .int (nI k)] S (some (.int (nI (L k - 48)))) S := by
  refine zC_of (by decide +kernel) (Nat.le_of_ble_eq_true rfl) ?_
  refine zaload_n dX6_digitAt_0 rfl ?_
  refine ziload_n dX6_digitAt_1 rfl ?_
  refine zcVf ob_Te gk_X6_67 dX6_digitAt_2 (c_X6_signAt hl hk) rfl (by decide) (Nat.le_of_ble_eq_true rfl) ?_ rfl
  refine zbipush (v := nI 48) dX6_digitAt_5 (by decide) ?_
  refine zisub dX6_digitAt_7 ?_
  rw [pk_sub h48]
  exact zireturn dX6_digitAt_8 rfl rfl ⟨rfl, rfl⟩
set_option maxRecDepth 100000 in
set_option maxHeartbeats 4000000 in
theorem c_X6_twoDigitsAt {k : Nat} (hl : LC S L N) (hk : k + 1 < N) (h1 : 48 ≤ L k) (h2 : 48 ≤ L (k + 1)) : zF x true mX6_twoDigitsAt [.ref (zad x 32), .int (nI k)] S (some (.int (nI (10 * (L k - 48) + (L (k + 1) - 48))))) S := by
  refine zC_of (by decide +kernel) (Nat.le_of_ble_eq_true rfl) ?_
  refine zbipush (v := nI 10) dX6_twoDigitsAt_0 (by decide) ?_
  refine zaload_n dX6_twoDigitsAt_2 rfl ?_
  refine ziload_n dX6_twoDigitsAt_3 rfl ?_
  refine zcVf ob_Te gk_X6_70 dX6_twoDigitsAt_4 (c_X6_digitAt hl (by omega) h1) rfl (by decide) (Nat.le_of_ble_eq_true rfl) ?_ rfl
  refine zimul dX6_twoDigitsAt_7 ?_
  rw [pk_mul]
  refine zaload_n dX6_twoDigitsAt_8 rfl ?_
  refine ziload_n dX6_twoDigitsAt_9 rfl ?_
  refine ziconst (v := 1) dX6_twoDigitsAt_10 (by decide) ?_
  refine ziadd dX6_twoDigitsAt_11 ?_
  rw [nI_1]
  refine zcVf ob_Te gk_X6_70 dX6_twoDigitsAt_12 (c_X6_digitAt hl hk h2) rfl (by decide) (Nat.le_of_ble_eq_true rfl) ?_ rfl
  refine ziadd dX6_twoDigitsAt_15 ?_
  rw [nI_add]
  exact zireturn dX6_twoDigitsAt_16 rfl rfl ⟨rfl, rfl⟩
theorem dues : ∀ i, i < 6 → ¬ i = 1 → ∀ k, k < sln i → due i k = 48 ∨ due i k = 107 ∨ due i k = 59 := by decide +kernel
theorem shp_n1 (c : Nat) : ¬ shp c = 1 := by unfold shp; repeat' split
                                             all_goals decide
set_option maxRecDepth 100000 in
set_option maxHeartbeats 4000000 in
theorem c_X6_fits {c : Nat} {d : Int32} (hx : zHS x adK adV fa) (hc : c < 256) (hd : d = 48 ∨ d = 107 ∨ d = 59) : zF x true mX6_fits [.int (nI c), .int d] S (some (.int (bI (fitB c d)))) S := by
  refine zC_of (by decide +kernel) (Nat.le_of_ble_eq_true rfl) ?_
  rcases hd with rfl | rfl | rfl
  · by_cases h1 : 48 ≤ c
    · by_cases h2 : c ≤ 57
      · rw [show fitB c 48 = true from by unfold fitB; rw [if_pos rfl]; exact decide_eq_true ⟨h1, h2⟩]
        refine ziload_n dX6_fits_0 rfl ?_
        refine zlookup (off := 40) (tgt := 41) dX6_fits_1 (by decide +kernel) (by decide +kernel) (by decide) ?_
        refine ziload_n dX6_fits_41 rfl ?_
        refine zbipush (v := nI 48) dX6_fits_42 (by decide) ?_
        refine zicmp_lt (tgt := 57) dX6_fits_44 (by decide) (fun h => absurd h (nI_nlt h1 (by omega))) (fun _ => ?_)
        refine ziload_n dX6_fits_47 rfl ?_
        refine zbipush (v := nI 57) dX6_fits_48 (by decide) ?_
        refine zicmp_gt (tgt := 57) dX6_fits_50 (by decide) (fun h => absurd h (nI_nlt h2 (by omega))) (fun _ => ?_)
        refine ziconst (v := 1) dX6_fits_53 (by decide) ?_
        refine zgoto (tgt := 58) dX6_fits_54 (by decide) ?_
        exact zbret (q := true) dX6_fits_58 rfl rfl ⟨rfl, rfl⟩
      · rw [show fitB c 48 = false from by unfold fitB; rw [if_pos rfl]; exact decide_eq_false (fun z => h2 z.2)]
        refine ziload_n dX6_fits_0 rfl ?_
        refine zlookup (off := 40) (tgt := 41) dX6_fits_1 (by decide +kernel) (by decide +kernel) (by decide) ?_
        refine ziload_n dX6_fits_41 rfl ?_
        refine zbipush (v := nI 48) dX6_fits_42 (by decide) ?_
        refine zicmp_lt (tgt := 57) dX6_fits_44 (by decide) (fun h => absurd h (nI_nlt h1 (by omega))) (fun _ => ?_)
        refine ziload_n dX6_fits_47 rfl ?_
        refine zbipush (v := nI 57) dX6_fits_48 (by decide) ?_
        refine zicmp_gt (tgt := 57) dX6_fits_50 (by decide) (fun _ => ?_) (fun h => absurd (nI_lt (by omega) (by omega)) h)
        refine ziconst (v := 0) dX6_fits_57 (by decide) ?_
        exact zbret (q := false) dX6_fits_58 rfl rfl ⟨rfl, rfl⟩
    · rw [show fitB c 48 = false from by unfold fitB; rw [if_pos rfl]; exact decide_eq_false (fun z => h1 z.1)]
      refine ziload_n dX6_fits_0 rfl ?_
      refine zlookup (off := 40) (tgt := 41) dX6_fits_1 (by decide +kernel) (by decide +kernel) (by decide) ?_
      refine ziload_n dX6_fits_41 rfl ?_
      refine zbipush (v := nI 48) dX6_fits_42 (by decide) ?_
      refine zicmp_lt (tgt := 57) dX6_fits_44 (by decide) (fun _ => ?_) (fun h => absurd (nI_lt (by omega) (by omega)) h)
      refine ziconst (v := 0) dX6_fits_57 (by decide) ?_
      exact zbret (q := false) dX6_fits_58 rfl rfl ⟨rfl, rfl⟩
  · by_cases h1 : 0 ≤ kindN c
    · rw [show fitB c 107 = true from by unfold fitB; rw [if_neg (by decide), if_pos rfl]; exact decide_eq_true h1]
      refine ziload_n dX6_fits_0 rfl ?_
      refine zlookup (off := 27) (tgt := 28) dX6_fits_1 (by decide +kernel) (by decide +kernel) (by decide) ?_
      refine ziload_n dX6_fits_28 rfl ?_
      refine zcSf  gk_X6_58 dX6_fits_29 (c_X6_kindOf hx hc) rfl (by decide) (Nat.le_of_ble_eq_true rfl) ?_ rfl
      refine zif_lt (tgt := 39) dX6_fits_32 (by decide) (fun h => absurd h (Int32.not_lt.mpr h1)) (fun _ => ?_)
      refine ziconst (v := 1) dX6_fits_35 (by decide) ?_
      refine zgoto (tgt := 40) dX6_fits_36 (by decide) ?_
      exact zbret (q := true) dX6_fits_40 rfl rfl ⟨rfl, rfl⟩
    · rw [show fitB c 107 = false from by unfold fitB; rw [if_neg (by decide), if_pos rfl]; exact decide_eq_false h1]
      refine ziload_n dX6_fits_0 rfl ?_
      refine zlookup (off := 27) (tgt := 28) dX6_fits_1 (by decide +kernel) (by decide +kernel) (by decide) ?_
      refine ziload_n dX6_fits_28 rfl ?_
      refine zcSf  gk_X6_58 dX6_fits_29 (c_X6_kindOf hx hc) rfl (by decide) (Nat.le_of_ble_eq_true rfl) ?_ rfl
      refine zif_lt (tgt := 39) dX6_fits_32 (by decide) (fun _ => ?_) (fun h => absurd (Int32.not_le.mp h1) h)
      refine ziconst (v := 0) dX6_fits_39 (by decide) ?_
      exact zbret (q := false) dX6_fits_40 rfl rfl ⟨rfl, rfl⟩
  · by_cases h1 : nI c = 59
    · rw [show fitB c 59 = true from by unfold fitB; rw [if_neg (by decide), if_neg (by decide)]; exact decide_eq_true h1]
      refine ziload_n dX6_fits_0 rfl ?_
      refine zlookup (off := 58) (tgt := 59) dX6_fits_1 (by decide +kernel) (by decide +kernel) (by decide) ?_
      refine ziload_n dX6_fits_59 rfl ?_
      refine ziload_n dX6_fits_60 rfl ?_
      refine zicmp_ne (tgt := 68) dX6_fits_61 (by decide) (fun h => absurd h1 h) (fun _ => ?_)
      refine ziconst (v := 1) dX6_fits_64 (by decide) ?_
      refine zgoto (tgt := 69) dX6_fits_65 (by decide) ?_
      exact zbret (q := true) dX6_fits_69 rfl rfl ⟨rfl, rfl⟩
    · rw [show fitB c 59 = false from by unfold fitB; rw [if_neg (by decide), if_neg (by decide)]; exact decide_eq_false h1]
      refine ziload_n dX6_fits_0 rfl ?_
      refine zlookup (off := 58) (tgt := 59) dX6_fits_1 (by decide +kernel) (by decide +kernel) (by decide) ?_
      refine ziload_n dX6_fits_59 rfl ?_
      refine ziload_n dX6_fits_60 rfl ?_
      refine zicmp_ne (tgt := 68) dX6_fits_61 (by decide) (fun _ => ?_) (fun h => absurd h h1)
      refine ziconst (v := 0) dX6_fits_68 (by decide) ?_
      exact zbret (q := false) dX6_fits_69 rfl rfl ⟨rfl, rfl⟩
set_option maxRecDepth 100000 in
set_option maxHeartbeats 4000000 in
theorem c_X6_shapeOf {c : Nat} (hx : zHS x adK adV fa) (hc : c < 256) : zF x true mX6_shapeOf [.int (nI c)] S (some (.ref (adK (shp c)))) S := by
  refine zC_of (by decide +kernel) (Nat.le_of_ble_eq_true rfl) ?_
  by_cases h1 : c = 112
  · subst h1
    refine ziload_n dX6_shapeOf_0 rfl ?_
    refine ztableIn (off := 75) (tgt := 76) dX6_shapeOf_1 (by decide +kernel) (by decide +kernel) (by decide +kernel) (by decide) ?_
    refine zldcS hx (tx := "k0;") (q := adK 2) (fun U h => h.2.1.2.2.1) dX6_shapeOf_76 ?_
    exact zareturn dX6_shapeOf_78 rfl ⟨rfl, rfl⟩
  by_cases h2 : c = 98
  · subst h2
    refine ziload_n dX6_shapeOf_0 rfl ?_
    refine ztableIn (off := 78) (tgt := 79) dX6_shapeOf_1 (by decide +kernel) (by decide +kernel) (by decide +kernel) (by decide) ?_
    refine zldcS hx (tx := "0;") (q := adK 3) (fun U h => h.2.1.2.2.2.1) dX6_shapeOf_79 ?_
    exact zareturn dX6_shapeOf_81 rfl ⟨rfl, rfl⟩
  by_cases h3 : c = 107
  · subst h3
    refine ziload_n dX6_shapeOf_0 rfl ?_
    refine ztableIn (off := 81) (tgt := 82) dX6_shapeOf_1 (by decide +kernel) (by decide +kernel) (by decide +kernel) (by decide) ?_
    refine zldcS hx (tx := "00;") (q := adK 4) (fun U h => h.2.1.2.2.2.2.1) dX6_shapeOf_82 ?_
    exact zareturn dX6_shapeOf_84 rfl ⟨rfl, rfl⟩
  by_cases h4 : c = 108
  · subst h4
    refine ziload_n dX6_shapeOf_0 rfl ?_
    refine ztableIn (off := 81) (tgt := 82) dX6_shapeOf_1 (by decide +kernel) (by decide +kernel) (by decide +kernel) (by decide) ?_
    refine zldcS hx (tx := "00;") (q := adK 4) (fun U h => h.2.1.2.2.2.2.1) dX6_shapeOf_82 ?_
    exact zareturn dX6_shapeOf_84 rfl ⟨rfl, rfl⟩
  by_cases h5 : c = 109
  · subst h5
    refine ziload_n dX6_shapeOf_0 rfl ?_
    refine ztableIn (off := 81) (tgt := 82) dX6_shapeOf_1 (by decide +kernel) (by decide +kernel) (by decide +kernel) (by decide) ?_
    refine zldcS hx (tx := "00;") (q := adK 4) (fun U h => h.2.1.2.2.2.2.1) dX6_shapeOf_82 ?_
    exact zareturn dX6_shapeOf_84 rfl ⟨rfl, rfl⟩
  by_cases h6 : c = 102
  · subst h6
    refine ziload_n dX6_shapeOf_0 rfl ?_
    refine ztableIn (off := 84) (tgt := 85) dX6_shapeOf_1 (by decide +kernel) (by decide +kernel) (by decide +kernel) (by decide) ?_
    refine zldcS hx (tx := "000;") (q := adK 5) (fun U h => h.2.1.2.2.2.2.2) dX6_shapeOf_85 ?_
    exact zareturn dX6_shapeOf_87 rfl ⟨rfl, rfl⟩
  have e : shp c = 0 := by unfold shp; rw [if_neg h1, if_neg h2, if_neg (by omega), if_neg h6]
  rw [e]
  refine ziload_n dX6_shapeOf_0 rfl ?_
  by_cases hr : 98 ≤ c ∧ c ≤ 112
  · rcases (show c = 99 ∨ c = 100 ∨ c = 101 ∨ c = 103 ∨ c = 104 ∨ c = 105 ∨ c = 106 ∨ c = 110 ∨ c = 111 by omega) with rfl | rfl | rfl | rfl | rfl | rfl | rfl | rfl | rfl
    all_goals
      refine ztableIn (off := 87) (tgt := 88) dX6_shapeOf_1 (by decide +kernel) (by decide +kernel) (by decide +kernel) (by decide) ?_
      refine zldcS hx (tx := "") (q := adK 0) (fun U h => h.2.1.1) dX6_shapeOf_88 ?_
      exact zareturn dX6_shapeOf_90 rfl ⟨rfl, rfl⟩
  · refine ztableOut (tgt := 88) dX6_shapeOf_1 (by rw [nI_toInt (by omega)]; omega) (by decide) ?_
    refine zldcS hx (tx := "") (q := adK 0) (fun U h => h.2.1.1) dX6_shapeOf_88 ?_
    exact zareturn dX6_shapeOf_90 rfl ⟨rfl, rfl⟩
set_option maxRecDepth 100000 in
set_option maxHeartbeats 4000000 in
theorem l_X6_broken (hx : zHS x adK adV fa) (hl : LC S L N) (o : Option Nat) : ∀ (k a i s : Nat), a + k = N → i < 6 → ¬ i = 1 → s ≤ sln i → brkF L N k a i s = o → zZ x true mX6_brokenPlace (fun q T => q = some (.int (brkI o)) ∧ T = S) 7 [(0, .ref (zad x 32)), (1, .ref (adK i)), (2, .int (nI s)), (3, .int (nI a))] [] S := by
  have hN := hl.2.1
  intro k
  induction k with
  | zero =>
    intro a i s ha hi hi1 hsl ho
    have hsi : sln i < 100 := sLen_lt i hi
    rw [brkF] at ho
    by_cases h0 : N = 0
    · rw [if_pos (Or.inl h0)] at ho
      subst ho
      refine ziload_n dX6_brokenPlace_7 rfl ?_
      refine zaload_n dX6_brokenPlace_8 rfl ?_
      refine gf_X6_15 rfl dX6_brokenPlace_9 ?_
      rw [hl.1]
      refine zicmp_ge (tgt := 75) dX6_brokenPlace_12 (by decide) (fun _ => ?_) (fun h => absurd (nI_le (by omega) (by omega)) h)
      refine zaload_n dX6_brokenPlace_75 rfl ?_
      refine gf_X6_15 rfl dX6_brokenPlace_76 ?_
      rw [hl.1]
      refine zif_eq (tgt := 90) dX6_brokenPlace_79 (by decide) (fun _ => ?_) (fun h => absurd (by rw [h0]; rfl) h)
      refine zaload_n dX6_brokenPlace_90 rfl ?_
      refine gf_X6_15 rfl dX6_brokenPlace_91 ?_
      rw [hl.1]
      refine zgoto (tgt := 99) dX6_brokenPlace_94 (by decide) ?_
      exact zireturn dX6_brokenPlace_99 rfl rfl ⟨rfl, rfl⟩
    · by_cases h1 : s < sln i
      · rw [if_pos (Or.inr h1)] at ho
        subst ho
        refine ziload_n dX6_brokenPlace_7 rfl ?_
        refine zaload_n dX6_brokenPlace_8 rfl ?_
        refine gf_X6_15 rfl dX6_brokenPlace_9 ?_
        rw [hl.1]
        refine zicmp_ge (tgt := 75) dX6_brokenPlace_12 (by decide) (fun _ => ?_) (fun h => absurd (nI_le (by omega) (by omega)) h)
        refine zaload_n dX6_brokenPlace_75 rfl ?_
        refine gf_X6_15 rfl dX6_brokenPlace_76 ?_
        rw [hl.1]
        refine zif_eq (tgt := 90) dX6_brokenPlace_79 (by decide) (fun h => absurd h (nI_ne0 (by omega) (by omega))) (fun _ => ?_)
        refine ziload_n dX6_brokenPlace_82 rfl ?_
        refine zaload_n dX6_brokenPlace_83 rfl ?_
        refine zcTf hx hi gj_len rfl dX6_brokenPlace_84 (c_length hx hi) rfl (by decide) (Nat.le_of_ble_eq_true rfl) ?_ rfl
        refine zicmp_ge (tgt := 97) dX6_brokenPlace_87 (by decide) (fun h => absurd h (nI_ge h1 (show sln i < 2 ^ 31 by omega))) (fun _ => ?_)
        refine zaload_n dX6_brokenPlace_90 rfl ?_
        refine gf_X6_15 rfl dX6_brokenPlace_91 ?_
        rw [hl.1]
        refine zgoto (tgt := 99) dX6_brokenPlace_94 (by decide) ?_
        exact zireturn dX6_brokenPlace_99 rfl rfl ⟨rfl, rfl⟩
      · rw [if_neg (fun z => z.elim h0 h1)] at ho
        subst ho
        refine ziload_n dX6_brokenPlace_7 rfl ?_
        refine zaload_n dX6_brokenPlace_8 rfl ?_
        refine gf_X6_15 rfl dX6_brokenPlace_9 ?_
        rw [hl.1]
        refine zicmp_ge (tgt := 75) dX6_brokenPlace_12 (by decide) (fun _ => ?_) (fun h => absurd (nI_le (by omega) (by omega)) h)
        refine zaload_n dX6_brokenPlace_75 rfl ?_
        refine gf_X6_15 rfl dX6_brokenPlace_76 ?_
        rw [hl.1]
        refine zif_eq (tgt := 90) dX6_brokenPlace_79 (by decide) (fun h => absurd h (nI_ne0 (by omega) (by omega))) (fun _ => ?_)
        refine ziload_n dX6_brokenPlace_82 rfl ?_
        refine zaload_n dX6_brokenPlace_83 rfl ?_
        refine zcTf hx hi gj_len rfl dX6_brokenPlace_84 (c_length hx hi) rfl (by decide) (Nat.le_of_ble_eq_true rfl) ?_ rfl
        refine zicmp_ge (tgt := 97) dX6_brokenPlace_87 (by decide) (fun _ => ?_) (fun h => absurd (nI_le (show sln i ≤ s by omega) (by omega)) h)
        refine zbipush (v := -9) dX6_brokenPlace_97 (by decide) ?_
        exact zireturn dX6_brokenPlace_99 rfl rfl ⟨rfl, rfl⟩
  | succ k ih =>
    intro a i s ha hi hi1 hsl ho
    have hsi : sln i < 100 := sLen_lt i hi
    have hLa := (hl.2.2 a (by omega)).1
    rw [brkF] at ho
    by_cases hs : s < sln i
    · rw [if_pos hs] at ho
      cases hf : fitB (L a) (due i s) with
      | true =>
        rw [if_pos hf] at ho
        refine ziload_n dX6_brokenPlace_7 rfl ?_
        refine zaload_n dX6_brokenPlace_8 rfl ?_
        refine gf_X6_15 rfl dX6_brokenPlace_9 ?_
        rw [hl.1]
        refine zicmp_ge (tgt := 75) dX6_brokenPlace_12 (by decide) (fun h => absurd h (nI_ge (by omega) (by omega))) (fun _ => ?_)
        refine ziload_n dX6_brokenPlace_15 rfl ?_
        refine zaload_n dX6_brokenPlace_16 rfl ?_
        refine zcTf hx hi gj_len rfl dX6_brokenPlace_17 (c_length hx hi) rfl (by decide) (Nat.le_of_ble_eq_true rfl) ?_ rfl
        refine zicmp_ge (tgt := 48) dX6_brokenPlace_20 (by decide) (fun h => absurd h (nI_ge hs (show sln i < 2 ^ 31 by omega))) (fun _ => ?_)
        refine zaload_n dX6_brokenPlace_23 rfl ?_
        refine gf_X6_9 rfl dX6_brokenPlace_24 ?_
        refine ziload_n dX6_brokenPlace_27 rfl ?_
        skip
        refine ziald dX6_brokenPlace_28 (by decide) rfl (by decide) (by omega) ?_
        rw [hLa]
        refine zaload_n dX6_brokenPlace_29 rfl ?_
        refine ziload_n dX6_brokenPlace_30 rfl ?_
        refine zcTf hx hi gj_charAt rfl dX6_brokenPlace_31 (c_charAt hx hi hs) rfl (by decide) (Nat.le_of_ble_eq_true rfl) ?_ rfl
        refine zcSf  gk_X6_42 dX6_brokenPlace_34 (show zF x true mX6_fits _ S (some (.int (bI (fitB (L a) (due i s))))) S from c_X6_fits hx (hl.2.2 a (by omega)).2 (dues i hi hi1 s hs)) rfl (by decide) (Nat.le_of_ble_eq_true rfl) ?_ rfl
        refine zifb_ne (tgt := 42) dX6_brokenPlace_37 (by decide) (fun _ => ?_) (fun h => absurd (h.symm.trans hf) (by decide))
        refine ziinc dX6_brokenPlace_42 rfl rfl (by decide) rfl ?_
        refine zgoto (tgt := 69) dX6_brokenPlace_45 (by decide) ?_
        refine ziinc dX6_brokenPlace_69 rfl rfl (by decide) rfl ?_
        refine zgoto (tgt := 7) dX6_brokenPlace_72 (by decide) ?_
        refine zlvs (lv' := [(0, .ref (zad x 32)), (1, .ref (adK i)), (2, .int (nI (s + 1))), (3, .int (nI (a + 1)))]) ⟨rfl, rfl, by rw [nI_succ s]; rfl, by rw [nI_succ a]; rfl, trivial⟩ ?_
        exact ih (a + 1) i (s + 1) (by omega) hi hi1 (by omega) ho
      | false =>
        rw [if_neg (by rw [hf]; decide)] at ho
        subst ho
        refine ziload_n dX6_brokenPlace_7 rfl ?_
        refine zaload_n dX6_brokenPlace_8 rfl ?_
        refine gf_X6_15 rfl dX6_brokenPlace_9 ?_
        rw [hl.1]
        refine zicmp_ge (tgt := 75) dX6_brokenPlace_12 (by decide) (fun h => absurd h (nI_ge (by omega) (by omega))) (fun _ => ?_)
        refine ziload_n dX6_brokenPlace_15 rfl ?_
        refine zaload_n dX6_brokenPlace_16 rfl ?_
        refine zcTf hx hi gj_len rfl dX6_brokenPlace_17 (c_length hx hi) rfl (by decide) (Nat.le_of_ble_eq_true rfl) ?_ rfl
        refine zicmp_ge (tgt := 48) dX6_brokenPlace_20 (by decide) (fun h => absurd h (nI_ge hs (show sln i < 2 ^ 31 by omega))) (fun _ => ?_)
        refine zaload_n dX6_brokenPlace_23 rfl ?_
        refine gf_X6_9 rfl dX6_brokenPlace_24 ?_
        refine ziload_n dX6_brokenPlace_27 rfl ?_
        skip
        refine ziald dX6_brokenPlace_28 (by decide) rfl (by decide) (by omega) ?_
        rw [hLa]
        refine zaload_n dX6_brokenPlace_29 rfl ?_
        refine ziload_n dX6_brokenPlace_30 rfl ?_
        refine zcTf hx hi gj_charAt rfl dX6_brokenPlace_31 (c_charAt hx hi hs) rfl (by decide) (Nat.le_of_ble_eq_true rfl) ?_ rfl
        refine zcSf  gk_X6_42 dX6_brokenPlace_34 (show zF x true mX6_fits _ S (some (.int (bI (fitB (L a) (due i s))))) S from c_X6_fits hx (hl.2.2 a (by omega)).2 (dues i hi hi1 s hs)) rfl (by decide) (Nat.le_of_ble_eq_true rfl) ?_ rfl
        refine zifb_ne (tgt := 42) dX6_brokenPlace_37 (by decide) (fun h => absurd (h.symm.trans hf) (by decide)) (fun _ => ?_)
        refine ziload_n dX6_brokenPlace_40 rfl ?_
        exact zireturn dX6_brokenPlace_41 rfl rfl ⟨rfl, rfl⟩
    · rw [if_neg hs] at ho
      by_cases hz : sln (shp (L a)) = 0
      · rw [if_pos hz] at ho
        subst ho
        refine ziload_n dX6_brokenPlace_7 rfl ?_
        refine zaload_n dX6_brokenPlace_8 rfl ?_
        refine gf_X6_15 rfl dX6_brokenPlace_9 ?_
        rw [hl.1]
        refine zicmp_ge (tgt := 75) dX6_brokenPlace_12 (by decide) (fun h => absurd h (nI_ge (by omega) (by omega))) (fun _ => ?_)
        refine ziload_n dX6_brokenPlace_15 rfl ?_
        refine zaload_n dX6_brokenPlace_16 rfl ?_
        refine zcTf hx hi gj_len rfl dX6_brokenPlace_17 (c_length hx hi) rfl (by decide) (Nat.le_of_ble_eq_true rfl) ?_ rfl
        refine zicmp_ge (tgt := 48) dX6_brokenPlace_20 (by decide) (fun _ => ?_) (fun h => absurd (nI_le (show sln i ≤ s by omega) (by omega)) h)
        refine zaload_n dX6_brokenPlace_48 rfl ?_
        refine gf_X6_9 rfl dX6_brokenPlace_49 ?_
        refine ziload_n dX6_brokenPlace_52 rfl ?_
        refine ziald dX6_brokenPlace_53 (by decide) rfl (by decide) (by omega) ?_
        rw [hLa]
        refine zcSf gk_X6_27 dX6_brokenPlace_54 (c_X6_shapeOf hx (hl.2.2 a (by omega)).2) rfl (by decide) (Nat.le_of_ble_eq_true rfl) ?_ rfl
        refine zastore_n dX6_brokenPlace_57 (by decide) rfl ?_
        refine ziconst (v := 0) dX6_brokenPlace_58 (by decide) ?_
        refine zistore_n dX6_brokenPlace_59 (by decide) rfl ?_
        refine zaload_n dX6_brokenPlace_60 rfl ?_
        refine zcTf hx (shp_lt (L a)) gj_emp rfl dX6_brokenPlace_61 (c_isEmpty hx (shp_lt (L a))) rfl (by decide) (Nat.le_of_ble_eq_true rfl) ?_ rfl
        refine zifb_eq (tgt := 69) dX6_brokenPlace_64 (by decide) (fun h => absurd (h.symm.trans (decide_eq_true hz)) (by decide)) (fun _ => ?_)
        refine ziload_n dX6_brokenPlace_67 rfl ?_
        exact zireturn dX6_brokenPlace_68 rfl rfl ⟨rfl, rfl⟩
      · rw [if_neg hz] at ho
        refine ziload_n dX6_brokenPlace_7 rfl ?_
        refine zaload_n dX6_brokenPlace_8 rfl ?_
        refine gf_X6_15 rfl dX6_brokenPlace_9 ?_
        rw [hl.1]
        refine zicmp_ge (tgt := 75) dX6_brokenPlace_12 (by decide) (fun h => absurd h (nI_ge (by omega) (by omega))) (fun _ => ?_)
        refine ziload_n dX6_brokenPlace_15 rfl ?_
        refine zaload_n dX6_brokenPlace_16 rfl ?_
        refine zcTf hx hi gj_len rfl dX6_brokenPlace_17 (c_length hx hi) rfl (by decide) (Nat.le_of_ble_eq_true rfl) ?_ rfl
        refine zicmp_ge (tgt := 48) dX6_brokenPlace_20 (by decide) (fun _ => ?_) (fun h => absurd (nI_le (show sln i ≤ s by omega) (by omega)) h)
        refine zaload_n dX6_brokenPlace_48 rfl ?_
        refine gf_X6_9 rfl dX6_brokenPlace_49 ?_
        refine ziload_n dX6_brokenPlace_52 rfl ?_
        refine ziald dX6_brokenPlace_53 (by decide) rfl (by decide) (by omega) ?_
        rw [hLa]
        refine zcSf gk_X6_27 dX6_brokenPlace_54 (c_X6_shapeOf hx (hl.2.2 a (by omega)).2) rfl (by decide) (Nat.le_of_ble_eq_true rfl) ?_ rfl
        refine zastore_n dX6_brokenPlace_57 (by decide) rfl ?_
        refine ziconst (v := nI 0) dX6_brokenPlace_58 (by decide) ?_
        refine zistore_n dX6_brokenPlace_59 (by decide) rfl ?_
        refine zaload_n dX6_brokenPlace_60 rfl ?_
        refine zcTf hx (shp_lt (L a)) gj_emp rfl dX6_brokenPlace_61 (c_isEmpty hx (shp_lt (L a))) rfl (by decide) (Nat.le_of_ble_eq_true rfl) ?_ rfl
        refine zifb_eq (tgt := 69) dX6_brokenPlace_64 (by decide) (fun _ => ?_) (fun h => absurd (h.symm.trans (decide_eq_false hz)) (by decide))
        refine ziinc dX6_brokenPlace_69 rfl rfl (by decide) rfl ?_
        refine zgoto (tgt := 7) dX6_brokenPlace_72 (by decide) ?_
        refine zlvs (lv' := [(0, .ref (zad x 32)), (1, .ref (adK (shp (L a)))), (2, .int (nI 0)), (3, .int (nI (a + 1)))]) ⟨rfl, rfl, rfl, by rw [nI_succ a]; rfl, trivial⟩ ?_
        exact ih (a + 1) (shp (L a)) 0 (by omega) (shp_lt _) (shp_n1 _) (Nat.zero_le _) ho
set_option maxRecDepth 100000 in
set_option maxHeartbeats 4000000 in
theorem c_X6_brokenPlace (hx : zHS x adK adV fa) (hl : LC S L N) : zF x true mX6_brokenPlace [.ref (zad x 32)] S (some (.int (brkI (brkF L N N 0 0 0)))) S := by
  refine zC_of (by decide +kernel) (Nat.le_of_ble_eq_true rfl) ?_
  refine zldcS hx (tx := "") (q := adK 0) (fun U h => h.2.1.1) dX6_brokenPlace_0 ?_
  refine zastore_n dX6_brokenPlace_2 (by decide) rfl ?_
  refine ziconst (v := 0) dX6_brokenPlace_3 (by decide) ?_
  refine zistore_n dX6_brokenPlace_4 (by decide) rfl ?_
  refine ziconst (v := 0) dX6_brokenPlace_5 (by decide) ?_
  refine zistore_n dX6_brokenPlace_6 (by decide) rfl ?_
  refine zlvs (lv' := [(0, .ref (zad x 32)), (1, .ref (adK 0)), (2, .int (nI 0)), (3, .int (nI 0))]) ⟨rfl, rfl, rfl, rfl, trivial⟩ ?_
  exact l_X6_broken hx hl _ N 0 0 0 (by omega) (by decide) (by decide) (Nat.zero_le _) rfl
end TELL1
