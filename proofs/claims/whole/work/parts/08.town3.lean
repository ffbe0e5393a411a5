/-! Town: the month, copies, newcomers, sums -/
section TOWN3
variable {x : zCx} {S : zSt} {t n : Nat} {T : Nat → Nat → Int32}

theorem nine_out (h : n ≤ 8) : ¬ (0 ≤ (9 : Int32) ∧ (9 : Int32) < nI n) := fun q => Int32.not_le.mpr q.2 (show nI n ≤ nI 9 from nI_le (by omega) (by omega))
theorem is_in {f : Nat} (h : n ≤ 8) (hf : f < n) : 0 ≤ nI f ∧ nI f < nI n := ⟨nI_pos' (by omega), nI_lt hf (by omega)⟩
set_option maxRecDepth 100000 in
set_option maxHeartbeats 4000000 in
theorem c_X7_isKind (ht : t < 3) {kd : Nat} (hkd : kd < 6) : zF x true mX7_isKind [.ref (zad x (tp t)), .int (nI kd)] S (some (.int (bI true))) S := by
  refine zC_of (by decide +kernel) (Nat.le_of_ble_eq_true rfl) ?_
  refine ziload_n dX7_isKind_0 rfl ?_
  refine zif_lt (tgt := 17) dX7_isKind_1 (by decide) (fun h => absurd h (nI_pos (by omega))) (fun _ => ?_)
  refine ziload_n dX7_isKind_4 rfl ?_
  refine zaload_n dX7_isKind_5 rfl ?_
  refine gf_X7_9 (t := t) ht rfl dX7_isKind_6 ?_
  refine zklen dX7_isKind_9 ?_
  refine zicmp_ge (tgt := 17) dX7_isKind_10 (by decide) (fun h => absurd h (nI_ge (by omega) (by omega))) (fun _ => ?_)
  refine ziconst (v := 1) dX7_isKind_13 (by decide) ?_
  refine zgoto (tgt := 18) dX7_isKind_14 (by decide) ?_
  exact zbret (q := true) dX7_isKind_18 rfl rfl ⟨rfl, rfl⟩
set_option maxRecDepth 100000 in
set_option maxHeartbeats 4000000 in
theorem c_X7_changeOfFame (ht : t < 3) (hT : isT S t n T) {p kd : Nat} {f : Int32} (hp : p < n) (hkd : kd < 6) (hk : T 1 p = nI kd) : zF x true mX7_changeOfFame [.ref (zad x (tp t)), .int (nI p), .int f] S (some (.int (fch (T 1 p) (T 2 p) (knowers n T f)))) S := by
  have hn8 := hT.2.1
  refine zC_of (by decide +kernel) (Nat.le_of_ble_eq_true rfl) ?_
  rw [hk]
  refine zaload_n dX7_changeOfFame_0 rfl ?_
  refine gf_X7_15 (t := t) ht rfl dX7_changeOfFame_1 ?_
  refine ziload_n dX7_changeOfFame_4 rfl ?_
  refine zialT (t := t) (w := 1) dX7_changeOfFame_5 ht hT (by decide) (by decide) (by omega) ?_
  rw [hk]
  refine zistore_n dX7_changeOfFame_6 (by decide) rfl ?_
  refine zaload_n dX7_changeOfFame_7 rfl ?_
  refine ziload_n dX7_changeOfFame_8 rfl ?_
  refine zcVf (ob_town (t := t) ht) gk_X7_56 dX7_changeOfFame_9 (c_X7_isKind ht hkd) rfl (by decide) (Nat.le_of_ble_eq_true rfl) ?_ rfl
  refine zifb_eq (tgt := 38) dX7_changeOfFame_12 (by decide) (fun h => absurd (h.symm.trans rfl) (by decide)) (fun _ => ?_)
  refine zaload_n dX7_changeOfFame_15 rfl ?_
  refine gf_X7_9 (t := t) ht rfl dX7_changeOfFame_16 ?_
  refine ziload_n dX7_changeOfFame_19 rfl ?_
  refine zkind dX7_changeOfFame_20 hkd ?_
  refine zaload_n dX7_changeOfFame_21 rfl ?_
  refine gf_X7_19 (t := t) ht rfl dX7_changeOfFame_22 ?_
  refine ziload_n dX7_changeOfFame_25 rfl ?_
  refine zialT (t := t) (w := 2) dX7_changeOfFame_26 ht hT (by decide) (by decide) (by omega) ?_
  refine zaload_n dX7_changeOfFame_27 rfl ?_
  refine ziload_n dX7_changeOfFame_28 rfl ?_
  refine zcVf (ob_town (t := t) ht) gk_X7_59 dX7_changeOfFame_29 (c_X7_knowersOf ht hT _) rfl (by decide) (Nat.le_of_ble_eq_true rfl) ?_ rfl
  refine z_fameChange rfl hkd dX7_changeOfFame_32 (by decide) (Nat.le_of_ble_eq_true rfl) ?_
  refine zgoto (tgt := 39) dX7_changeOfFame_35 (by decide) ?_
  exact zireturn dX7_changeOfFame_39 rfl rfl ⟨rfl, rfl⟩
set_option maxRecDepth 100000 in
set_option maxHeartbeats 4000000 in
theorem c_X7_wearForAMonth (ht : t < 3) (hT : isT S t n T) (hV : VW n T) {p : Nat} (hp : p < n) : zV x true mX7_wearForAMonth [.ref (zad x (tp t)), .int (nI p)] S (fun S' => isT S' t n (wear1 n T p) ∧ S'.2 = S.2 ∧ frT t S S') := by
  have hn8 := hT.2.1
  obtain ⟨hw, kd, hkd, hk⟩ := hV p hp
  refine zC_of (by decide +kernel) (Nat.le_of_ble_eq_true rfl) ?_
  rcases hw with h9 | ⟨f, hf, h9⟩
  · refine zaload_n dX7_wearForAMonth_0 rfl ?_
    refine gf_X7_25 (t := t) ht rfl dX7_wearForAMonth_1 ?_
    refine ziload_n dX7_wearForAMonth_4 rfl ?_
    refine zialT (t := t) (w := 4) dX7_wearForAMonth_5 ht hT (by decide) (by decide) (by omega) ?_
    rw [h9]
    refine zistore_n dX7_wearForAMonth_6 (by decide) rfl ?_
    refine zaload_n dX7_wearForAMonth_7 rfl ?_
    refine gf_X7_15 (t := t) ht rfl dX7_wearForAMonth_8 ?_
    refine ziload_n dX7_wearForAMonth_11 rfl ?_
    refine zialT (t := t) (w := 1) dX7_wearForAMonth_12 ht hT (by decide) (by decide) (by omega) ?_
    rw [hk]
    refine zistore_n dX7_wearForAMonth_13 (by decide) rfl ?_
    refine zaload_n dX7_wearForAMonth_14 rfl ?_
    refine ziload_n dX7_wearForAMonth_15 rfl ?_
    refine zcVf (ob_town (t := t) ht) gk_X7_75 dX7_wearForAMonth_16 (c_X7_isThere ht hT) rfl (by decide) (Nat.le_of_ble_eq_true rfl) ?_ rfl
    refine zifb_eq (tgt := 97) dX7_wearForAMonth_19 (by decide) (fun _ => ?_) (fun h => absurd (h.symm.trans (decide_eq_false (nine_out hn8))) (by decide))
    exact zreturn dX7_wearForAMonth_97 rfl ⟨rfl, by unfold wear1; rw [if_pos h9]; exact hT, rfl, frT.rf⟩
  · refine zaload_n dX7_wearForAMonth_0 rfl ?_
    refine gf_X7_25 (t := t) ht rfl dX7_wearForAMonth_1 ?_
    refine ziload_n dX7_wearForAMonth_4 rfl ?_
    refine zialT (t := t) (w := 4) dX7_wearForAMonth_5 ht hT (by decide) (by decide) (by omega) ?_
    rw [h9]
    refine zistore_n dX7_wearForAMonth_6 (by decide) rfl ?_
    refine zaload_n dX7_wearForAMonth_7 rfl ?_
    refine gf_X7_15 (t := t) ht rfl dX7_wearForAMonth_8 ?_
    refine ziload_n dX7_wearForAMonth_11 rfl ?_
    refine zialT (t := t) (w := 1) dX7_wearForAMonth_12 ht hT (by decide) (by decide) (by omega) ?_
    rw [hk]
    refine zistore_n dX7_wearForAMonth_13 (by decide) rfl ?_
    refine zaload_n dX7_wearForAMonth_14 rfl ?_
    refine ziload_n dX7_wearForAMonth_15 rfl ?_
    refine zcVf (ob_town (t := t) ht) gk_X7_75 dX7_wearForAMonth_16 (c_X7_isThere ht hT) rfl (by decide) (Nat.le_of_ble_eq_true rfl) ?_ rfl
    refine zifb_eq (tgt := 97) dX7_wearForAMonth_19 (by decide) (fun h => absurd (h.symm.trans (decide_eq_true (is_in hn8 hf))) (by decide)) (fun _ => ?_)
    refine zaload_n dX7_wearForAMonth_22 rfl ?_
    refine ziload_n dX7_wearForAMonth_23 rfl ?_
    refine zcVf (ob_town (t := t) ht) gk_X7_56 dX7_wearForAMonth_24 (c_X7_isKind ht hkd) rfl (by decide) (Nat.le_of_ble_eq_true rfl) ?_ rfl
    refine zifb_eq (tgt := 97) dX7_wearForAMonth_27 (by decide) (fun h => absurd (h.symm.trans rfl) (by decide)) (fun _ => ?_)
    refine zaload_n dX7_wearForAMonth_30 rfl ?_
    refine gf_X7_9 (t := t) ht rfl dX7_wearForAMonth_31 ?_
    refine ziload_n dX7_wearForAMonth_34 rfl ?_
    refine zkind dX7_wearForAMonth_35 hkd ?_
    refine zastore dX7_wearForAMonth_36 (by decide) rfl ?_
    refine zaload_n dX7_wearForAMonth_38 rfl ?_
    refine gf_X7_28 (t := t) ht rfl dX7_wearForAMonth_39 ?_
    refine ziload_n dX7_wearForAMonth_42 rfl ?_
    refine zaload_n dX7_wearForAMonth_43 rfl ?_
    refine gf_X7_28 (t := t) ht rfl dX7_wearForAMonth_44 ?_
    refine ziload_n dX7_wearForAMonth_47 rfl ?_
    refine zialT (t := t) (w := 5) dX7_wearForAMonth_48 ht hT (by decide) (by decide) (by omega) ?_
    refine zaload dX7_wearForAMonth_49 rfl ?_
    refine zaload_n dX7_wearForAMonth_51 rfl ?_
    refine gf_X7_19 (t := t) ht rfl dX7_wearForAMonth_52 ?_
    refine ziload_n dX7_wearForAMonth_55 rfl ?_
    refine zialT (t := t) (w := 2) dX7_wearForAMonth_56 ht hT (by decide) (by decide) (by omega) ?_
    refine zaload_n dX7_wearForAMonth_57 rfl ?_
    refine ziload_n dX7_wearForAMonth_58 rfl ?_
    refine zcVf (ob_town (t := t) ht) gk_X7_59 dX7_wearForAMonth_59 (c_X7_knowersOf ht hT _) rfl (by decide) (Nat.le_of_ble_eq_true rfl) ?_ rfl
    refine z_fameChange rfl hkd dX7_wearForAMonth_62 (by decide) (Nat.le_of_ble_eq_true rfl) ?_
    refine ziadd dX7_wearForAMonth_65 ?_
    refine zcNf  gk_X7_78 dX7_wearForAMonth_66 c_X8_withinMarks rfl (by decide) (Nat.le_of_ble_eq_true rfl) ?_ rfl
    refine ziast dX7_wearForAMonth_69 (tpk ht (by decide)) (tpa ht (by decide) (by decide)) (by decide) (by omega) ?_
    have hS1 := isT_put (w := 5) (p := f) (v := held (T 5 f + fch (nI kd) (T 2 p) (knowers n T (nI f)))) hT
    have hT := hS1
    refine zaload_n dX7_wearForAMonth_70 rfl ?_
    refine gf_X7_31 (t := t) ht rfl dX7_wearForAMonth_71 ?_
    refine ziload_n dX7_wearForAMonth_74 rfl ?_
    refine zaload_n dX7_wearForAMonth_75 rfl ?_
    refine gf_X7_31 (t := t) ht rfl dX7_wearForAMonth_76 ?_
    refine ziload_n dX7_wearForAMonth_79 rfl ?_
    refine zialT (t := t) (w := 6) dX7_wearForAMonth_80 ht hT (by decide) (by decide) (by omega) ?_
    refine zaload dX7_wearForAMonth_81 rfl ?_
    refine zaload_n dX7_wearForAMonth_83 rfl ?_
    refine gf_X7_19 (t := t) ht rfl dX7_wearForAMonth_84 ?_
    refine ziload_n dX7_wearForAMonth_87 rfl ?_
    refine zialT (t := t) (w := 2) dX7_wearForAMonth_88 ht hT (by decide) (by decide) (by omega) ?_
    rw [u2_w (by decide), u2_w (by decide)]
    refine z_scarsMore rfl hkd dX7_wearForAMonth_89 (by decide) (Nat.le_of_ble_eq_true rfl) ?_
    refine ziadd dX7_wearForAMonth_92 ?_
    refine zcNf  gk_X7_78 dX7_wearForAMonth_93 c_X8_withinMarks rfl (by decide) (Nat.le_of_ble_eq_true rfl) ?_ rfl
    refine ziast dX7_wearForAMonth_96 (tpk ht (by decide)) (tpa ht (by decide) (by decide)) (by decide) (by omega) ?_
    exact zreturn dX7_wearForAMonth_97 rfl ⟨rfl, by unfold wear1; rw [if_neg (by rw [h9]; exact nI_ne9 (by omega)), h9, nI_clamp (by omega), hk]; exact isT_put hT, rfl, frT.put (S := (u2 S.1 (tp t + 5) f _, S.2)) (frT.put frT.rf (by decide) (by decide)) (by decide) (by decide)⟩
set_option maxRecDepth 100000 in
set_option maxHeartbeats 4000000 in
theorem c_X7_keepLentForAMonth (ht : t < 3) (hT : isT S t n T) {f : Nat} (hf : f < n) : zV x true mX7_keepLentForAMonth [.ref (zad x (tp t)), .int (nI f)] S (fun S' => isT S' t n (lend1 n T f) ∧ S'.2 = S.2 ∧ frT t S S') := by
  have hn8 := hT.2.1
  refine zC_of (by decide +kernel) (Nat.le_of_ble_eq_true rfl) ?_
  refine zaload_n dX7_keepLentForAMonth_0 rfl ?_
  refine gf_X7_34 (t := t) ht rfl dX7_keepLentForAMonth_1 ?_
  refine ziload_n dX7_keepLentForAMonth_4 rfl ?_
  refine zialT (t := t) (w := 7) dX7_keepLentForAMonth_5 ht hT (by decide) (by decide) (by omega) ?_
  refine zbipush (v := 12) dX7_keepLentForAMonth_6 (by decide) ?_
  refine zicmp_lt (tgt := 20) dX7_keepLentForAMonth_8 (by decide) (fun h8 => ?_) (fun h8 => ?_)
  · refine zaload_n dX7_keepLentForAMonth_20 rfl ?_
    refine ziload_n dX7_keepLentForAMonth_21 rfl ?_
    refine zcVf (ob_town (t := t) ht) gk_X7_87 dX7_keepLentForAMonth_22 (c_X7_isLent ht hT (by omega)) rfl (by decide) (Nat.le_of_ble_eq_true rfl) ?_ rfl
    refine zifb_eq (tgt := 38) dX7_keepLentForAMonth_25 (by decide) (fun h25 => ?_) (fun h25 => ?_)
    · exact zreturn dX7_keepLentForAMonth_38 rfl ⟨rfl, by unfold lend1; rw [if_neg (Int32.not_le.mpr h8)]; simp at h25; rw [if_neg (Int32.not_lt.mpr h25)]; exact hT, rfl, frT.rf⟩
    · refine zaload_n dX7_keepLentForAMonth_28 rfl ?_
      refine gf_X7_34 (t := t) ht rfl dX7_keepLentForAMonth_29 ?_
      refine ziload_n dX7_keepLentForAMonth_32 rfl ?_
      refine zdup2_11 dX7_keepLentForAMonth_33 rfl rfl ?_
      skip
      refine zialT (t := t) (w := 7) dX7_keepLentForAMonth_34 ht hT (by decide) (by decide) (by omega) ?_
      refine ziconst (v := 1) dX7_keepLentForAMonth_35 (by decide) ?_
      refine ziadd dX7_keepLentForAMonth_36 ?_
      refine ziast dX7_keepLentForAMonth_37 (tpk ht (by decide)) (tpa ht (by decide) (by decide)) (by decide) (by omega) ?_
      exact zreturn dX7_keepLentForAMonth_38 rfl ⟨rfl, by unfold lend1; rw [if_neg (Int32.not_le.mpr h8)]; simp at h25; rw [if_pos h25]; exact isT_put hT, rfl, frT.put frT.rf (by decide) (by decide)⟩
  · refine zaload_n dX7_keepLentForAMonth_11 rfl ?_
    refine ziload_n dX7_keepLentForAMonth_12 rfl ?_
    refine zcVr (ob_town (t := t) ht) gk_X7_84 dX7_keepLentForAMonth_13 (c_X7_bringBack ht hT hf) rfl (by decide) (Nat.le_of_ble_eq_true rfl) (fun r S2 hp2 => ?_) rfl
    obtain ⟨-, hT2, hg2, hf2⟩ := hp2
    refine zpop dX7_keepLentForAMonth_16 rfl ?_
    refine zgoto (tgt := 38) dX7_keepLentForAMonth_17 (by decide) ?_
    exact zreturn dX7_keepLentForAMonth_38 rfl ⟨rfl, by unfold lend1; rw [if_pos (Int32.not_lt.mp h8)]; exact hT2, hg2, hf2⟩
set_option maxRecDepth 100000 in
set_option maxHeartbeats 4000000 in
theorem l1_X7_goOn (ht : t < 3) {K j : Nat} {post : Option Value → zSt → Prop} : ∀ (k i : Nat) (S : zSt) (T : Nat → Nat → Int32), i + k = n → isT S t n T → VW n T →
    (∀ S', isT S' t n (wearF n k i T) → VW n (wearF n k i T) → S'.2 = S.2 → frT t S S' → zZ x true mX7_goOn post 38 [(0, .ref (zad x (tp t))), (1, .int (nI K)), (2, .int (nI j))] [] S') → zZ x true mX7_goOn post 19 [(0, .ref (zad x (tp t))), (1, .int (nI K)), (2, .int (nI j)), (3, .int (nI i))] [] S := by
  intro k
  induction k with
  | zero =>
    intro i S T hi hT hV kk
    have hn8 := hT.2.1
    refine ziload_n dX7_goOn_19 rfl ?_
    refine zaload_n dX7_goOn_20 rfl ?_
    refine gf_X7_37 (t := t) ht rfl dX7_goOn_21 ?_
    rw [hT.1]
    refine zicmp_ge (tgt := 38) dX7_goOn_24 (by decide) (fun _ => ?_) (fun h => absurd (nI_le (by omega) (by omega)) h)
    exact zlvs (lv' := [(0, .ref (zad x (tp t))), (1, .int (nI K)), (2, .int (nI j))]) ⟨rfl, rfl, rfl, trivial⟩ (kk S hT hV rfl frT.rf)
  | succ k ih =>
    intro i S T hi hT hV kk
    have hn8 := hT.2.1
    refine ziload_n dX7_goOn_19 rfl ?_
    refine zaload_n dX7_goOn_20 rfl ?_
    refine gf_X7_37 (t := t) ht rfl dX7_goOn_21 ?_
    rw [hT.1]
    refine zicmp_ge (tgt := 38) dX7_goOn_24 (by decide) (fun h => absurd h (nI_ge (by omega) (by omega))) (fun _ => ?_)
    refine zaload_n dX7_goOn_27 rfl ?_
    refine ziload_n dX7_goOn_28 rfl ?_
    refine zcVn (ob_town (t := t) ht) gk_X7_68 dX7_goOn_29 (c_X7_wearForAMonth ht hT hV (by omega)) rfl (by decide) (Nat.le_of_ble_eq_true rfl) (fun S2 hp2 => ?_) rfl
    obtain ⟨hT2, hg2, hf2⟩ := hp2
    refine ziinc dX7_goOn_32 rfl rfl (by decide) rfl ?_
    refine zgoto (tgt := 19) dX7_goOn_35 (by decide) ?_
    refine zlvs (lv' := [(0, .ref (zad x (tp t))), (1, .int (nI K)), (2, .int (nI j)), (3, .int (nI (i + 1)))]) ⟨rfl, rfl, rfl, by rw [← nI_1]; rfl, trivial⟩ ?_
    exact ih (i + 1) S2 _ (by omega) hT2 hV.wear1 (fun S3 h1 h2 h3 h4 => kk S3 h1 h2 (h3.trans hg2) (hf2.trans h4))
set_option maxRecDepth 100000 in
set_option maxHeartbeats 4000000 in
theorem l2_X7_goOn (ht : t < 3) {K j : Nat} {post : Option Value → zSt → Prop} : ∀ (k i : Nat) (S : zSt) (T : Nat → Nat → Int32), i + k = n → isT S t n T → VW n T →
    (∀ S', isT S' t n (lendF n k i T) → VW n (lendF n k i T) → S'.2 = S.2 → frT t S S' → zZ x true mX7_goOn post 59 [(0, .ref (zad x (tp t))), (1, .int (nI K)), (2, .int (nI j))] [] S') → zZ x true mX7_goOn post 40 [(0, .ref (zad x (tp t))), (1, .int (nI K)), (2, .int (nI j)), (3, .int (nI i))] [] S := by
  intro k
  induction k with
  | zero =>
    intro i S T hi hT hV kk
    have hn8 := hT.2.1
    refine ziload_n dX7_goOn_40 rfl ?_
    refine zaload_n dX7_goOn_41 rfl ?_
    refine gf_X7_37 (t := t) ht rfl dX7_goOn_42 ?_
    rw [hT.1]
    refine zicmp_ge (tgt := 59) dX7_goOn_45 (by decide) (fun _ => ?_) (fun h => absurd (nI_le (by omega) (by omega)) h)
    exact zlvs (lv' := [(0, .ref (zad x (tp t))), (1, .int (nI K)), (2, .int (nI j))]) ⟨rfl, rfl, rfl, trivial⟩ (kk S hT hV rfl frT.rf)
  | succ k ih =>
    intro i S T hi hT hV kk
    have hn8 := hT.2.1
    refine ziload_n dX7_goOn_40 rfl ?_
    refine zaload_n dX7_goOn_41 rfl ?_
    refine gf_X7_37 (t := t) ht rfl dX7_goOn_42 ?_
    rw [hT.1]
    refine zicmp_ge (tgt := 59) dX7_goOn_45 (by decide) (fun h => absurd h (nI_ge (by omega) (by omega))) (fun _ => ?_)
    refine zaload_n dX7_goOn_48 rfl ?_
    refine ziload_n dX7_goOn_49 rfl ?_
    refine zcVn (ob_town (t := t) ht) gk_X7_72 dX7_goOn_50 (c_X7_keepLentForAMonth ht hT (by omega)) rfl (by decide) (Nat.le_of_ble_eq_true rfl) (fun S2 hp2 => ?_) rfl
    obtain ⟨hT2, hg2, hf2⟩ := hp2
    refine ziinc dX7_goOn_53 rfl rfl (by decide) rfl ?_
    refine zgoto (tgt := 40) dX7_goOn_56 (by decide) ?_
    refine zlvs (lv' := [(0, .ref (zad x (tp t))), (1, .int (nI K)), (2, .int (nI j)), (3, .int (nI (i + 1)))]) ⟨rfl, rfl, rfl, by rw [← nI_1]; rfl, trivial⟩ ?_
    exact ih (i + 1) S2 _ (by omega) hT2 (VW_lend1 hn8 hV (by omega)) (fun S3 h1 h2 h3 h4 => kk S3 h1 h2 (h3.trans hg2) (hf2.trans h4))
theorem isT_month {v : Int32} (hT : isT S t n T) : isT (S.1, u2 S.2 (tp t) 9 v) t n T := ⟨by show u2 S.2 (tp t) 9 v (tp t) 8 = _; rw [u2_ne (by omega)]; exact hT.1, hT.2⟩
set_option maxRecDepth 100000 in
set_option maxHeartbeats 4000000 in
theorem l_X7_goOn (ht : t < 3) {K : Nat} (hK : K < 2 ^ 31) {post : Option Value → zSt → Prop} : ∀ (k j : Nat) (S : zSt) (T : Nat → Nat → Int32), j + k = K → isT S t n T → VW n T →
    (∀ S', isT S' t n (monthsT n k T) → VW n (monthsT n k T) → S'.2 (tp t) 9 = S.2 (tp t) 9 + nI k → frT t S S' → post none S') → zZ x true mX7_goOn post 2 [(0, .ref (zad x (tp t))), (1, .int (nI K)), (2, .int (nI j))] [] S := by
  intro k
  induction k with
  | zero =>
    intro j S T hj hT hV kk
    refine ziload_n dX7_goOn_2 rfl ?_
    refine ziload_n dX7_goOn_3 rfl ?_
    refine zicmp_ge (tgt := 65) dX7_goOn_4 (by decide) (fun _ => ?_) (fun h => absurd (nI_le (by omega) (by omega)) h)
    exact zreturn dX7_goOn_65 rfl (kk S hT hV (by rw [show nI 0 = 0 from rfl, Int32.add_zero]) frT.rf)
  | succ k ih =>
    intro j S T hj hT hV kk
    have hn8 := hT.2.1
    refine ziload_n dX7_goOn_2 rfl ?_
    refine ziload_n dX7_goOn_3 rfl ?_
    refine zicmp_ge (tgt := 65) dX7_goOn_4 (by decide) (fun h => absurd h (nI_ge (by omega) (by omega))) (fun _ => ?_)
    refine zaload_n dX7_goOn_7 rfl ?_
    refine zdup dX7_goOn_8 rfl ?_
    refine gf_X7_41 (t := t) ht rfl dX7_goOn_9 ?_
    refine ziconst (v := 1) dX7_goOn_12 (by decide) ?_
    refine ziadd dX7_goOn_13 ?_
    refine pf_X7_41 (t := t) ht rfl dX7_goOn_14 ?_
    refine ziconst (v := 0) dX7_goOn_17 (by decide) ?_
    refine zistore_n dX7_goOn_18 (by decide) rfl ?_
    refine zlvs (lv' := [(0, .ref (zad x (tp t))), (1, .int (nI K)), (2, .int (nI j)), (3, .int (nI 0))]) ⟨rfl, rfl, rfl, rfl, trivial⟩ ?_
    refine l1_X7_goOn ht n 0 _ T (by omega) (isT_month hT) hV (fun S2 hT2 hV2 hg2 hf2 => ?_)
    refine ziconst (v := 0) dX7_goOn_38 (by decide) ?_
    refine zistore_n dX7_goOn_39 (by decide) rfl ?_
    refine zlvs (lv' := [(0, .ref (zad x (tp t))), (1, .int (nI K)), (2, .int (nI j)), (3, .int (nI 0))]) ⟨rfl, rfl, rfl, rfl, trivial⟩ ?_
    refine l2_X7_goOn ht n 0 _ _ (by omega) hT2 hV2 (fun S3 hT3 hV3 hg3 hf3 => ?_)
    refine ziinc dX7_goOn_59 rfl rfl (by decide) rfl ?_
    refine zgoto (tgt := 2) dX7_goOn_62 (by decide) ?_
    refine zlvs (lv' := [(0, .ref (zad x (tp t))), (1, .int (nI K)), (2, .int (nI (j + 1)))]) ⟨rfl, rfl, by rw [← nI_1]; rfl, trivial⟩ ?_
    exact ih (j + 1) S3 _ (by omega) hT3 hV3 (fun S4 h1 h2 h3 h4 => kk S4 h1 h2 (by rw [h3, hg3, hg2]; show u2 S.2 (tp t) 9 _ (tp t) 9 + nI k = _; rw [u2_self, nI_succ, Int32.add_assoc, Int32.add_comm 1 (nI k)]) ((frT.fld frT.rf).trans (hf2.trans (hf3.trans h4))))
set_option maxRecDepth 100000 in
set_option maxHeartbeats 4000000 in
theorem c_X7_goOn (ht : t < 3) (hT : isT S t n T) (hV : VW n T) {K : Nat} (hK : K < 2 ^ 31) : zV x true mX7_goOn [.ref (zad x (tp t)), .int (nI K)] S (fun S' => isT S' t n (monthsT n K T) ∧ VW n (monthsT n K T) ∧ S'.2 (tp t) 9 = S.2 (tp t) 9 + nI K ∧ frT t S S') := by
  refine zC_of (by decide +kernel) (Nat.le_of_ble_eq_true rfl) ?_
  refine ziconst (v := 0) dX7_goOn_0 (by decide) ?_
  refine zistore_n dX7_goOn_1 (by decide) rfl ?_
  refine zlvs (lv' := [(0, .ref (zad x (tp t))), (1, .int (nI K)), (2, .int (nI 0))]) ⟨rfl, rfl, rfl, trivial⟩ ?_
  exact l_X7_goOn ht hK K 0 S T (by omega) hT hV (fun S2 h1 h2 h3 h4 => ⟨rfl, h1, h2, h3, h4⟩)
set_option maxRecDepth 100000 in
set_option maxHeartbeats 4000000 in
theorem l_X7_sumOf (ht : t < 3) (hT : isT S t n T) {w : Nat} (h0 : 0 < w) (hw : w < 8) (r : Int32) : ∀ (k i : Nat) (a : Int32), i + k = n → sF (T w) k i a = r → zZ x true mX7_sumOf (fun q U => q = some (.int r) ∧ U = S) 4 [(0, .ref (zad x (tp t))), (1, .ref (zad x (tp t + w))), (2, .int a), (3, .int (nI i))] [] S := by
  have hn8 := hT.2.1
  intro k
  induction k with
  | zero =>
    intro i a hi hr
    refine ziload_n dX7_sumOf_4 rfl ?_
    refine zaload_n dX7_sumOf_5 rfl ?_
    refine gf_X7_37 (t := t) ht rfl dX7_sumOf_6 ?_
    rw [hT.1]
    refine zicmp_ge (tgt := 24) dX7_sumOf_9 (by decide) (fun _ => ?_) (fun h => absurd (nI_le (by omega) (by omega)) h)
    refine ziload_n dX7_sumOf_24 rfl ?_
    exact zireturn dX7_sumOf_25 rfl rfl ⟨congrArg (fun q => some (Value.int q)) hr, rfl⟩
  | succ k ih =>
    intro i a hi hr
    refine ziload_n dX7_sumOf_4 rfl ?_
    refine zaload_n dX7_sumOf_5 rfl ?_
    refine gf_X7_37 (t := t) ht rfl dX7_sumOf_6 ?_
    rw [hT.1]
    refine zicmp_ge (tgt := 24) dX7_sumOf_9 (by decide) (fun h => absurd h (nI_ge (by omega) (by omega))) (fun _ => ?_)
    refine ziload_n dX7_sumOf_12 rfl ?_
    refine zaload_n dX7_sumOf_13 rfl ?_
    refine ziload_n dX7_sumOf_14 rfl ?_
    refine zialT (t := t) (w := w) dX7_sumOf_15 ht hT h0 hw (by omega) ?_
    refine ziadd dX7_sumOf_16 ?_
    refine zistore_n dX7_sumOf_17 (by decide) rfl ?_
    refine ziinc dX7_sumOf_18 rfl rfl (by decide) rfl ?_
    refine zgoto (tgt := 4) dX7_sumOf_21 (by decide) ?_
    refine zlvs (lv' := [(0, .ref (zad x (tp t))), (1, .ref (zad x (tp t + w))), (2, .int _), (3, .int (nI (i + 1)))]) ⟨rfl, rfl, rfl, by rw [← nI_1]; rfl, trivial⟩ ?_
    exact ih (i + 1) _ (by omega) hr
set_option maxRecDepth 100000 in
set_option maxHeartbeats 4000000 in
theorem c_X7_sumOf (ht : t < 3) (hT : isT S t n T) {w : Nat} (h0 : 0 < w) (hw : w < 8) : zF x true mX7_sumOf [.ref (zad x (tp t)), .ref (zad x (tp t + w))] S (some (.int (sF (T w) n 0 0))) S := by
  refine zC_of (by decide +kernel) (Nat.le_of_ble_eq_true rfl) ?_
  refine ziconst (v := 0) dX7_sumOf_0 (by decide) ?_
  refine zistore_n dX7_sumOf_1 (by decide) rfl ?_
  refine ziconst (v := 0) dX7_sumOf_2 (by decide) ?_
  refine zistore_n dX7_sumOf_3 (by decide) rfl ?_
  refine zlvs (lv' := [(0, .ref (zad x (tp t))), (1, .ref (zad x (tp t + w))), (2, .int 0), (3, .int (nI 0))]) ⟨rfl, rfl, rfl, rfl, trivial⟩ ?_
  exact l_X7_sumOf ht hT h0 hw _ n 0 0 (by omega) rfl
set_option maxRecDepth 100000 in
set_option maxHeartbeats 4000000 in
theorem c_X7_allFame (ht : t < 3) (hT : isT S t n T) : zF x true mX7_allFame [.ref (zad x (tp t))] S (some (.int (sF (T 5) n 0 0))) S := by
  refine zC_of (by decide +kernel) (Nat.le_of_ble_eq_true rfl) ?_
  refine zaload_n dX7_allFame_0 rfl ?_
  refine zaload_n dX7_allFame_1 rfl ?_
  refine gf_X7_28 (t := t) ht rfl dX7_allFame_2 ?_
  refine zcVf (ob_town (t := t) ht) gk_X7_90 dX7_allFame_5 (c_X7_sumOf ht hT (w := 5) (by decide) (by decide)) rfl (by decide) (Nat.le_of_ble_eq_true rfl) ?_ rfl
  exact zireturn dX7_allFame_8 rfl rfl ⟨rfl, rfl⟩
set_option maxRecDepth 100000 in
set_option maxHeartbeats 4000000 in
theorem c_X7_allScars (ht : t < 3) (hT : isT S t n T) : zF x true mX7_allScars [.ref (zad x (tp t))] S (some (.int (sF (T 6) n 0 0))) S := by
  refine zC_of (by decide +kernel) (Nat.le_of_ble_eq_true rfl) ?_
  refine zaload_n dX7_allScars_0 rfl ?_
  refine zaload_n dX7_allScars_1 rfl ?_
  refine gf_X7_31 (t := t) ht rfl dX7_allScars_2 ?_
  refine zcVf (ob_town (t := t) ht) gk_X7_90 dX7_allScars_5 (c_X7_sumOf ht hT (w := 6) (by decide) (by decide)) rfl (by decide) (Nat.le_of_ble_eq_true rfl) ?_ rfl
  exact zireturn dX7_allScars_8 rfl rfl ⟨rfl, rfl⟩
set_option maxRecDepth 100000 in
set_option maxHeartbeats 4000000 in
theorem c_X7_allWorths (ht : t < 3) (hT : isT S t n T) : zF x true mX7_allWorths [.ref (zad x (tp t))] S (some (.int (sF (T 5) n 0 0 - sF (T 6) n 0 0))) S := by
  refine zC_of (by decide +kernel) (Nat.le_of_ble_eq_true rfl) ?_
  refine zaload_n dX7_allWorths_0 rfl ?_
  refine zcVf (ob_town (t := t) ht) gk_X7_94 dX7_allWorths_1 (c_X7_allFame ht hT) rfl (by decide) (Nat.le_of_ble_eq_true rfl) ?_ rfl
  refine zaload_n dX7_allWorths_4 rfl ?_
  refine zcVf (ob_town (t := t) ht) gk_X7_98 dX7_allWorths_5 (c_X7_allScars ht hT) rfl (by decide) (Nat.le_of_ble_eq_true rfl) ?_ rfl
  refine zisub dX7_allWorths_8 ?_
  exact zireturn dX7_allWorths_9 rfl rfl ⟨rfl, rfl⟩
end TOWN3
