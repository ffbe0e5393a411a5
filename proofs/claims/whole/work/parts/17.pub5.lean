/-! The public methods, fifth part: image, counts, who is taken for whom -/
section PUB5
variable {x : zCx} {S : zSt} {σ σ' : Sig}

theorem imgC {S2 : zSt} (hR : RepC σ S) (hT2 : isT S2 2 (sN σ) (sT σ)) (hm2 : S2.2 (tp 2) 9 = sMo σ) (hf2 : frT 2 S S2) : RepC (setK σ (sN σ, sT σ, sMo σ)) (S2.1, u2 S2.2 0 10 1) := by
  obtain ⟨a1, a2, a3, a4, a5, a6⟩ := hR
  have g : ∀ k, (k < 25 ∨ 32 ≤ k) → S2.1 k = S.1 k := fun k hk => hf2.1 k (by unfold tp; omega)
  have g2 : ∀ k, ¬ k = 24 → S2.2 k = S.2 k := fun k hk => hf2.2 k hk
  have o : ∀ k j, ¬ (k = 0 ∧ j = 10) → u2 S2.2 0 10 1 k j = S2.2 k j := fun k j h => u2_ne h
  refine ⟨⟨?_, a1.2.1, fun w p b1 b2 b3 => by dsimp only; rw [g _ (by unfold tp; omega)]; exact a1.2.2 w p b1 b2 b3⟩, ?_, ⟨?_, ⟨?_, hT2.2.1, hT2.2.2⟩, ?_⟩, ⟨?_, fun i hi => by dsimp only; rw [g _ (by decide)]; exact a4.2 i hi⟩, ⟨?_, fun i hi => by dsimp only; rw [g _ (by decide)]; exact a5.2 i hi⟩, fun i hi => by dsimp only; rw [g _ (by decide)]; exact a6 i hi⟩
  · dsimp only; rw [o _ _ (by decide), g2 _ (by decide)]; exact a1.1
  · dsimp only; rw [o _ _ (by decide), g2 _ (by decide)]; exact a2
  · dsimp only; rw [u2_self]
  · dsimp only; rw [o _ _ (by decide)]; exact hT2.1
  · dsimp only; rw [o _ _ (by decide)]; exact hm2
  · dsimp only; rw [o _ _ (by decide), g2 _ (by decide)]; exact a4.1
  · dsimp only; rw [o _ _ (by decide), g2 _ (by decide)]; exact a5.1
theorem imgM {S2 : zSt} (hR : RepM σ S) (hM2 : isM S2 3 (sN σ) (sT σ)) (hm2 : S2.1 3 1 = sMo σ) (hf2 : frM 3 S S2) : RepM (setK σ (sN σ, sT σ, sMo σ)) (S2.1, u2 S2.2 0 5 1) := by
  obtain ⟨a1, a2, a3, a4, a5, a6⟩ := hR
  have g : ∀ k, ¬ k = 3 → S2.1 k = S.1 k := hf2.1
  have o : ∀ k j, ¬ (k = 0 ∧ j = 5) → u2 S2.2 0 5 1 k j = S.2 k j := fun k j h => by rw [u2_ne h, hf2.2]
  refine ⟨isM_frM (S' := (S2.1, S2.2)) a1 hf2 (by decide), by dsimp only; rw [g _ (by decide)]; exact a2, ⟨?_, hM2, hm2⟩, ⟨?_, fun i hi => by dsimp only; rw [g _ (by decide)]; exact a4.2 i hi⟩, ⟨?_, fun i hi => by dsimp only; rw [g _ (by decide)]; exact a5.2 i hi⟩, fun i hi => by dsimp only; rw [g _ (by decide)]; exact a6 i hi⟩
  · dsimp only; rw [u2_self]
  · dsimp only; rw [o _ _ (by decide)]; exact a4.1
  · dsimp only; rw [o _ _ (by decide)]; exact a5.1
set_option maxRecDepth 100000 in
set_option maxHeartbeats 4000000 in
theorem c_X8_image (hR : RepC σ S) (hW : WS σ) : zR x true mX8_image [.ref (zad x 0)] S (qC (0) (sMo σ) σ (setK σ (sN σ, sT σ, sMo σ))) := by
  have hT := hR.1
  have hn8 : sN σ ≤ 8 := hT.2.1
  refine zC_of (by decide +kernel) (Nat.le_of_ble_eq_true rfl) ?_
  refine zaload_n dX8_image_0 rfl ?_
  refine gf_X8_39 rfl dX8_image_1 ?_
  refine zaload_n dX8_image_4 rfl ?_
  refine gf_X8_30 rfl dX8_image_5 ?_
  refine zcVn (ob_town (t := 2) (by decide)) gk_X8_88 dX8_image_8 (c_X7_becomeLike (t := 2) (u := 0) (by decide) (by decide) (by decide) hT) rfl (by decide) (Nat.le_of_ble_eq_true rfl) (fun S2 hp2 => ?_) rfl
  obtain ⟨hT2, hm2, hf2⟩ := hp2
  refine zaload_n dX8_image_11 rfl ?_
  refine ziconst (v := 1) dX8_image_12 (by decide) ?_
  refine pf_X8_69 rfl dX8_image_13 rfl rfl ?_
  refine zaload_n dX8_image_16 rfl ?_
  refine gf_X8_30 rfl dX8_image_17 ?_
  refine gf_X8_163 (t := 0) (by decide) rfl dX8_image_20 ?_
  dsimp only
  rw [u2_w (by decide), hf2.2 _ (by decide), hR.2.1]
  refine zireturn dX8_image_23 rfl rfl ⟨_, rfl, qC_ok rfl rfl ?_⟩
  exact imgC hR hT2 (by rw [hm2]; exact hR.2.1) hf2
set_option maxRecDepth 100000 in
set_option maxHeartbeats 4000000 in
theorem c_X9_image (hR : RepM σ S) (hW : WS σ) : zR x false mX9_image [.ref (zad x 0)] S (qM (0) (sMo σ) σ (setK σ (sN σ, sT σ, sMo σ))) := by
  have hM := hR.1
  have hn8 : sN σ ≤ 8 := hM.2.1
  refine zC_of (by decide +kernel) (Nat.le_of_ble_eq_true rfl) ?_
  refine zaload_n dX9_image_0 rfl ?_
  refine gf_X9_9 rfl dX9_image_1 ?_
  refine zaload_n dX9_image_4 rfl ?_
  refine gf_X9_16 rfl dX9_image_5 ?_
  refine zcSn  gk_X9_133 dX9_image_8 (c_X9_copies hr1 hr3 (by decide) hM) rfl (by decide) (Nat.le_of_ble_eq_true rfl) (fun S2 hp2 => ?_) rfl
  obtain ⟨hM2, hm2, hf2⟩ := hp2
  refine zaload_n dX9_image_11 rfl ?_
  refine ziconst (v := 1) dX9_image_12 (by decide) ?_
  refine pf_X9_220 rfl dX9_image_13 rfl rfl ?_
  refine zaload_n dX9_image_16 rfl ?_
  refine gf_X9_9 rfl dX9_image_17 ?_
  refine ziconst (v := nI 1) dX9_image_20 (by decide) ?_
  refine ziald dX9_image_21 (mrk hr1.2) (mrl hr1.1 hr1.2) (by decide) (by decide) ?_
  dsimp only
  rw [hf2.1 1 (by decide), hR.2.1]
  refine zireturn dX9_image_22 rfl rfl ⟨_, rfl, qM_ok rfl rfl ?_⟩
  exact imgM hR hM2 (by rw [hm2]; exact hR.2.1) hf2
def onF (k : Option (Nat × Tw × Int32)) : Int32 := match k with
  | none => -3
  | some _ => 0
def onS (σ : Sig) : Sig := match sK σ with
  | none => σ
  | some q => (q.1, q.2.1, q.2.2, σ.2.2.2)
set_option maxRecDepth 100000 in
set_option maxHeartbeats 4000000 in
theorem c_X8_on (hR : RepC σ S) (hW : WS σ) : zR x true mX8_on [.ref (zad x 0)] S (qC (onF (sK σ)) (sMo (onS σ)) σ (onS σ)) := by
  have hT := hR.1
  have hn8 : sN σ ≤ 8 := hT.2.1
  refine zC_of (by decide +kernel) (Nat.le_of_ble_eq_true rfl) ?_
  have hk := hR.2.2.1
  cases hs : sK σ with
  | none =>
    rw [hs] at hk
    have hk : S.2 0 10 = bI false := hk
    refine zaload_n dX8_on_0 rfl ?_
    refine gf_X8_69 rfl dX8_on_1 ?_
    rw [hk]
    refine zifb_ne (tgt := 14) dX8_on_4 (by decide) (fun h => absurd (h.symm.trans rfl) (by decide)) (fun _ => ?_)
    refine zaload_n dX8_on_7 rfl ?_
    refine zbipush (v := -3) dX8_on_8 (by decide) ?_
    refine zcVf ob_X gk_X8_77 dX8_on_10 (c_X8_refuse isE_3) rfl (by decide) (Nat.le_of_ble_eq_true rfl) ?_ rfl
    exact zireturn dX8_on_13 rfl rfl ⟨_, rfl, qC_no rfl isE_3 hR⟩
  | some q =>
    rw [hs] at hk
    obtain ⟨hk, hTk, hmk⟩ := hk
    have hk : S.2 0 10 = bI true := hk
    have e : onS σ = (q.1, q.2.1, q.2.2, σ.2.2.2) := by unfold onS; rw [hs]
    refine zaload_n dX8_on_0 rfl ?_
    refine gf_X8_69 rfl dX8_on_1 ?_
    rw [hk]
    refine zifb_ne (tgt := 14) dX8_on_4 (by decide) (fun _ => ?_) (fun h => absurd (h.symm.trans rfl) (by decide))
    refine zaload_n dX8_on_14 rfl ?_
    refine gf_X8_30 rfl dX8_on_15 ?_
    refine zaload_n dX8_on_18 rfl ?_
    refine gf_X8_39 rfl dX8_on_19 ?_
    refine zcVn (ob_town (t := 0) (by decide)) gk_X8_88 dX8_on_22 (c_X7_becomeLike (t := 0) (u := 2) (by decide) (by decide) (by decide) hTk) rfl (by decide) (Nat.le_of_ble_eq_true rfl) (fun S2 hp2 => ?_) rfl
    obtain ⟨hT2, hm2, hf2⟩ := hp2
    refine zaload_n dX8_on_25 rfl ?_
    refine gf_X8_30 rfl dX8_on_26 ?_
    refine gf_X8_163 (t := 0) (by decide) rfl dX8_on_29 ?_
    rw [hm2, hmk]
    exact zireturn dX8_on_32 rfl rfl ⟨_, rfl, qC_ok rfl (by rw [e]) (by rw [e]; exact hR.now hT2 (by rw [hm2, hmk]) hf2)⟩
set_option maxRecDepth 100000 in
set_option maxHeartbeats 4000000 in
theorem c_X9_on (hR : RepM σ S) (hW : WS σ) : zR x false mX9_on [.ref (zad x 0)] S (qM (onF (sK σ)) (sMo (onS σ)) σ (onS σ)) := by
  have hM := hR.1
  have hn8 : sN σ ≤ 8 := hM.2.1
  refine zC_of (by decide +kernel) (Nat.le_of_ble_eq_true rfl) ?_
  have hk := hR.2.2.1
  cases hs : sK σ with
  | none =>
    rw [hs] at hk
    have hk : S.2 0 5 = bI false := hk
    refine zaload_n dX9_on_0 rfl ?_
    refine gf_X9_220 rfl dX9_on_1 ?_
    rw [hk]
    refine zifb_ne (tgt := 14) dX9_on_4 (by decide) (fun h => absurd (h.symm.trans rfl) (by decide)) (fun _ => ?_)
    refine zaload_n dX9_on_7 rfl ?_
    refine zbipush (v := -3) dX9_on_8 (by decide) ?_
    refine zcVf ob_Mo gk_X9_38 dX9_on_10 (c_X9_no isE_3) rfl (by decide) (Nat.le_of_ble_eq_true rfl) ?_ rfl
    exact zireturn dX9_on_13 rfl rfl ⟨_, rfl, qM_no rfl isE_3 hR⟩
  | some q =>
    rw [hs] at hk
    obtain ⟨hk, hTk, hmk⟩ := hk
    have hk : S.2 0 5 = bI true := hk
    have e : onS σ = (q.1, q.2.1, q.2.2, σ.2.2.2) := by unfold onS; rw [hs]
    refine zaload_n dX9_on_0 rfl ?_
    refine gf_X9_220 rfl dX9_on_1 ?_
    rw [hk]
    refine zifb_ne (tgt := 14) dX9_on_4 (by decide) (fun _ => ?_) (fun h => absurd (h.symm.trans rfl) (by decide))
    refine zaload_n dX9_on_14 rfl ?_
    refine gf_X9_16 rfl dX9_on_15 ?_
    refine zaload_n dX9_on_18 rfl ?_
    refine gf_X9_9 rfl dX9_on_19 ?_
    refine zcSn  gk_X9_133 dX9_on_22 (c_X9_copies hr3 hr1 (by decide) hTk) rfl (by decide) (Nat.le_of_ble_eq_true rfl) (fun S2 hp2 => ?_) rfl
    obtain ⟨hM2, hm2, hf2⟩ := hp2
    refine zaload_n dX9_on_25 rfl ?_
    refine gf_X9_9 rfl dX9_on_26 ?_
    refine ziconst (v := nI 1) dX9_on_29 (by decide) ?_
    refine ziald dX9_on_30 (mrk hr1.2) (mrl hr1.1 hr1.2) (by decide) (by decide) ?_
    rw [hm2, hmk]
    exact zireturn dX9_on_31 rfl rfl ⟨_, rfl, qM_ok rfl (by rw [e]) (by rw [e]; exact hR.now hM2 (by rw [hm2, hmk]) hf2)⟩
set_option maxRecDepth 100000 in
set_option maxHeartbeats 4000000 in
theorem l_X9_allOf {k n j : Nat} {T : Tw} (hk : 0 < k ∧ k < 6) (hM : isM S k n T) (hj : j < 7) (r : Int32) : ∀ (q i : Nat) (a : Int32), i + q = n → sF (T (j + 1)) q i a = r → zZ x false mX9_allOf (fun q T => q = some (.int r) ∧ T = S) 4 [(0, .ref (zad x k)), (1, .int (nI j)), (2, .int a), (3, .int (nI i))] [] S := by
  have hn8 := hM.2.1
  intro q
  induction q with
  | zero =>
    intro i a hi hr
    refine ziload_n dX9_allOf_4 rfl ?_
    refine zaload_n dX9_allOf_5 rfl ?_
    refine ziconst (v := nI 0) dX9_allOf_6 (by decide) ?_
    refine ziald dX9_allOf_7 (mrk hk.2) (mrl hk.1 hk.2) (by decide) (by decide) ?_
    rw [hM.1]
    refine zicmp_ge (tgt := 27) dX9_allOf_8 (by decide) (fun _ => ?_) (fun h => absurd (nI_le (by omega) (by omega)) h)
    refine ziload_n dX9_allOf_27 rfl ?_
    exact zireturn dX9_allOf_28 rfl rfl ⟨congrArg (fun q => some (Value.int q)) hr, rfl⟩
  | succ q ih =>
    intro i a hi hr
    refine ziload_n dX9_allOf_4 rfl ?_
    refine zaload_n dX9_allOf_5 rfl ?_
    refine ziconst (v := nI 0) dX9_allOf_6 (by decide) ?_
    refine ziald dX9_allOf_7 (mrk hk.2) (mrl hk.1 hk.2) (by decide) (by decide) ?_
    rw [hM.1]
    refine zicmp_ge (tgt := 27) dX9_allOf_8 (by decide) (fun h => absurd h (nI_ge (by omega) (by omega))) (fun _ => ?_)
    refine ziload_n dX9_allOf_11 rfl ?_
    refine zaload_n dX9_allOf_12 rfl ?_
    refine ziload_n dX9_allOf_13 rfl ?_
    refine ziload_n dX9_allOf_14 rfl ?_
    refine zcSf  gk_X9_52 dX9_allOf_15 (c_X9_of (j := j)) rfl (by decide) (Nat.le_of_ble_eq_true rfl) ?_ rfl
    refine zialM (k := k) (j := j) (w := j + 1) dX9_allOf_18 hk hM rfl (by omega) (by omega) ?_
    refine ziadd dX9_allOf_19 ?_
    refine zistore_n dX9_allOf_20 (by decide) rfl ?_
    refine ziinc dX9_allOf_21 rfl rfl (by decide) rfl ?_
    refine zgoto (tgt := 4) dX9_allOf_24 (by decide) ?_
    refine zlvs (lv' := [(0, .ref (zad x k)), (1, .int (nI j)), (2, .int _), (3, .int (nI (i + 1)))]) ⟨rfl, rfl, rfl, by rw [← nI_1]; rfl, trivial⟩ ?_
    exact ih (i + 1) _ (by omega) hr
set_option maxRecDepth 100000 in
set_option maxHeartbeats 4000000 in
theorem c_X9_allOf {k n j : Nat} {T : Tw} (hk : 0 < k ∧ k < 6) (hM : isM S k n T) (hj : j < 7) : zF x false mX9_allOf [.ref (zad x k), .int (nI j)] S (some (.int (sF (T (j + 1)) n 0 0))) S := by
  refine zC_of (by decide +kernel) (Nat.le_of_ble_eq_true rfl) ?_
  refine ziconst (v := 0) dX9_allOf_0 (by decide) ?_
  refine zistore_n dX9_allOf_1 (by decide) rfl ?_
  refine ziconst (v := 0) dX9_allOf_2 (by decide) ?_
  refine zistore_n dX9_allOf_3 (by decide) rfl ?_
  refine zlvs (lv' := [(0, .ref (zad x k)), (1, .int (nI j)), (2, .int 0), (3, .int (nI 0))]) ⟨rfl, rfl, rfl, rfl, trivial⟩ ?_
  exact l_X9_allOf hk hM hj _ n 0 0 (by omega) rfl
def plainB (n : Nat) (T : Tw) : Int32 := oF (fun p => if T 4 p = 9 then 1 <<< (nI p &&& 31) else 0) n 0 0
def cntF (σ : Sig) (w : Int32) : Int32 :=
  if 11 ≤ w ∧ w ≤ 16 then sRf σ (w - 10).toNatClampNeg else if w = 0 then nI (sN σ) else if w = 1 then sMo σ else if w = 2 then lentN (sN σ) (sT σ) else if w = 3 then sF ((sT σ) 5) (sN σ) 0 0 else if w = 4 then sF ((sT σ) 6) (sN σ) 0 0
  else if w = 5 then plainB (sN σ) (sT σ) else if w = 6 then nI (sR σ).1 else if w = 7 then nI (sL σ).1 else -9
theorem cnt_cases (w : Int32) : (∃ j, j < 8 ∧ w = nI j) ∨ (∃ j, 0 < j ∧ j < 7 ∧ w = nI (10 + j)) ∨ (¬ (11 ≤ w ∧ w ≤ 16) ∧ (w.toInt < 0 ∨ 7 < w.toInt)) := by
  by_cases h0 : w < 0
  · refine Or.inr (Or.inr ⟨fun z => absurd (Int32.lt_of_lt_of_le h0 (Int32.le_trans (by decide) z.1)) (fun y => Int32.lt_irrefl y), Or.inl ?_⟩)
    rw [Int32.lt_iff_toInt_lt] at h0; exact h0
  · obtain ⟨j, hj, rfl⟩ := nI_of h0
    by_cases h1 : j < 8
    · exact Or.inl ⟨j, h1, rfl⟩
    · by_cases h2 : 11 ≤ j ∧ j ≤ 16
      · exact Or.inr (Or.inl ⟨j - 10, by omega, by omega, by rw [show 10 + (j - 10) = j by omega]⟩)
      · refine Or.inr (Or.inr ⟨fun z => h2 ?_, Or.inr (by rw [nI_toInt hj]; omega)⟩)
        rw [show (11 : Int32) = nI 11 from rfl, show (16 : Int32) = nI 16 from rfl, nI_leI (by omega) hj, nI_leI hj (by omega)] at z
        exact z
theorem cnt_no {σ : Sig} {w : Int32} (h1 : ¬ (11 ≤ w ∧ w ≤ 16)) (h2 : w.toInt < 0 ∨ 7 < w.toInt) : cntF σ w = -9 := by
  have g : ∀ j : Nat, j < 8 → ¬ w = nI j := fun j hj z => by rw [z, nI_toInt (by omega)] at h2; omega
  unfold cntF
  rw [if_neg h1, if_neg (show ¬ w = 0 from g 0 (by decide)), if_neg (show ¬ w = 1 from g 1 (by decide)), if_neg (show ¬ w = 2 from g 2 (by decide)), if_neg (show ¬ w = 3 from g 3 (by decide)), if_neg (show ¬ w = 4 from g 4 (by decide)), if_neg (show ¬ w = 5 from g 5 (by decide)), if_neg (show ¬ w = 6 from g 6 (by decide)), if_neg (show ¬ w = 7 from g 7 (by decide))]
theorem cnt_rf {σ : Sig} {j : Nat} (h0 : 0 < j) (h7 : j < 7) : cntF σ (nI (10 + j)) = sRf σ j := by
  unfold cntF
  rw [if_pos ⟨nI_le (a := 11) (by omega) (by omega), nI_le (b := 16) (by omega) (by omega)⟩, show nI (10 + j) - 10 = nI j by (rcases (show j = 1 ∨ j = 2 ∨ j = 3 ∨ j = 4 ∨ j = 5 ∨ j = 6 by omega) with rfl | rfl | rfl | rfl | rfl | rfl <;> decide), nI_clamp (by omega)]
set_option maxRecDepth 100000 in
set_option maxHeartbeats 4000000 in
theorem c_X8_count (hR : RepC σ S) (hW : WS σ) (w : Int32) : zR x true mX8_count [.ref (zad x 0), .int w] S (qC (0) (cntF σ w) σ (σ)) := by
  have hT := hR.1
  have hn8 : sN σ ≤ 8 := hT.2.1
  refine zC_of (by decide +kernel) (Nat.le_of_ble_eq_true rfl) ?_
  rcases cnt_cases w with ⟨j, hj, rfl⟩ | ⟨j, h0, h7, rfl⟩ | ⟨h1, h2⟩
  · rcases (show j = 0 ∨ j = 1 ∨ j = 2 ∨ j = 3 ∨ j = 4 ∨ j = 5 ∨ j = 6 ∨ j = 7 by omega) with rfl | rfl | rfl | rfl | rfl | rfl | rfl | rfl
    · refine ziload_n dX8_count_0 rfl ?_
      refine zbipush (v := 11) dX8_count_1 (by decide) ?_
      refine zicmp_lt (tgt := 22) dX8_count_3 (by decide) (fun _ => ?_) (fun h => absurd (by decide) h)
      refine ziload_n dX8_count_22 rfl ?_
      refine ztableIn (off := 45) (tgt := 68) dX8_count_23 (by decide +kernel) (by decide +kernel) (by decide +kernel) (by decide) ?_
      refine zaload_n dX8_count_68 rfl ?_
      refine gf_X8_30 rfl dX8_count_69 ?_
      refine gf_X8_192 (t := 0) (by decide) rfl dX8_count_72 ?_
      rw [hT.1]
      exact zireturn dX8_count_75 rfl rfl ⟨_, rfl, qC_ok rfl rfl hR⟩
    · refine ziload_n dX8_count_0 rfl ?_
      refine zbipush (v := 11) dX8_count_1 (by decide) ?_
      refine zicmp_lt (tgt := 22) dX8_count_3 (by decide) (fun _ => ?_) (fun h => absurd (by decide) h)
      refine ziload_n dX8_count_22 rfl ?_
      refine ztableIn (off := 53) (tgt := 76) dX8_count_23 (by decide +kernel) (by decide +kernel) (by decide +kernel) (by decide) ?_
      refine zaload_n dX8_count_76 rfl ?_
      refine gf_X8_30 rfl dX8_count_77 ?_
      refine gf_X8_163 (t := 0) (by decide) rfl dX8_count_80 ?_
      rw [hR.2.1]
      exact zireturn dX8_count_83 rfl rfl ⟨_, rfl, qC_ok rfl rfl hR⟩
    · refine ziload_n dX8_count_0 rfl ?_
      refine zbipush (v := 11) dX8_count_1 (by decide) ?_
      refine zicmp_lt (tgt := 22) dX8_count_3 (by decide) (fun _ => ?_) (fun h => absurd (by decide) h)
      refine ziload_n dX8_count_22 rfl ?_
      refine ztableIn (off := 61) (tgt := 84) dX8_count_23 (by decide +kernel) (by decide +kernel) (by decide +kernel) (by decide) ?_
      refine zaload_n dX8_count_84 rfl ?_
      refine gf_X8_30 rfl dX8_count_85 ?_
      refine zcVf (ob_town (t := 0) (by decide)) gk_X8_138 dX8_count_88 (c_X7_lentFaces (by decide) hT) rfl (by decide) (Nat.le_of_ble_eq_true rfl) ?_ rfl
      exact zireturn dX8_count_91 rfl rfl ⟨_, rfl, qC_ok rfl rfl hR⟩
    · refine ziload_n dX8_count_0 rfl ?_
      refine zbipush (v := 11) dX8_count_1 (by decide) ?_
      refine zicmp_lt (tgt := 22) dX8_count_3 (by decide) (fun _ => ?_) (fun h => absurd (by decide) h)
      refine ziload_n dX8_count_22 rfl ?_
      refine ztableIn (off := 69) (tgt := 92) dX8_count_23 (by decide +kernel) (by decide +kernel) (by decide +kernel) (by decide) ?_
      refine zaload_n dX8_count_92 rfl ?_
      refine gf_X8_30 rfl dX8_count_93 ?_
      refine zcVf (ob_town (t := 0) (by decide)) gk_X8_260 dX8_count_96 (c_X7_allFame (by decide) hT) rfl (by decide) (Nat.le_of_ble_eq_true rfl) ?_ rfl
      exact zireturn dX8_count_99 rfl rfl ⟨_, rfl, qC_ok rfl rfl hR⟩
    · refine ziload_n dX8_count_0 rfl ?_
      refine zbipush (v := 11) dX8_count_1 (by decide) ?_
      refine zicmp_lt (tgt := 22) dX8_count_3 (by decide) (fun _ => ?_) (fun h => absurd (by decide) h)
      refine ziload_n dX8_count_22 rfl ?_
      refine ztableIn (off := 77) (tgt := 100) dX8_count_23 (by decide +kernel) (by decide +kernel) (by decide +kernel) (by decide) ?_
      refine zaload_n dX8_count_100 rfl ?_
      refine gf_X8_30 rfl dX8_count_101 ?_
      refine zcVf (ob_town (t := 0) (by decide)) gk_X8_288 dX8_count_104 (c_X7_allScars (by decide) hT) rfl (by decide) (Nat.le_of_ble_eq_true rfl) ?_ rfl
      exact zireturn dX8_count_107 rfl rfl ⟨_, rfl, qC_ok rfl rfl hR⟩
    · refine ziload_n dX8_count_0 rfl ?_
      refine zbipush (v := 11) dX8_count_1 (by decide) ?_
      refine zicmp_lt (tgt := 22) dX8_count_3 (by decide) (fun _ => ?_) (fun h => absurd (by decide) h)
      refine ziload_n dX8_count_22 rfl ?_
      refine ztableIn (off := 85) (tgt := 108) dX8_count_23 (by decide +kernel) (by decide +kernel) (by decide +kernel) (by decide) ?_
      refine zaload_n dX8_count_108 rfl ?_
      refine gf_X8_30 rfl dX8_count_109 ?_
      refine zcVf (ob_town (t := 0) (by decide)) gk_X8_198 dX8_count_112 (c_X7_plainWearers (by decide) hT) rfl (by decide) (Nat.le_of_ble_eq_true rfl) ?_ rfl
      exact zireturn dX8_count_115 rfl rfl ⟨_, rfl, qC_ok rfl rfl hR⟩
    · refine ziload_n dX8_count_0 rfl ?_
      refine zbipush (v := 11) dX8_count_1 (by decide) ?_
      refine zicmp_lt (tgt := 22) dX8_count_3 (by decide) (fun _ => ?_) (fun h => absurd (by decide) h)
      refine ziload_n dX8_count_22 rfl ?_
      refine ztableIn (off := 93) (tgt := 116) dX8_count_23 (by decide +kernel) (by decide +kernel) (by decide +kernel) (by decide) ?_
      refine zaload_n dX8_count_116 rfl ?_
      refine gf_X8_65 rfl dX8_count_117 ?_
      rw [hR.2.2.2.2.1.1]
      exact zireturn dX8_count_120 rfl rfl ⟨_, rfl, qC_ok rfl rfl hR⟩
    · refine ziload_n dX8_count_0 rfl ?_
      refine zbipush (v := 11) dX8_count_1 (by decide) ?_
      refine zicmp_lt (tgt := 22) dX8_count_3 (by decide) (fun _ => ?_) (fun h => absurd (by decide) h)
      refine ziload_n dX8_count_22 rfl ?_
      refine ztableIn (off := 98) (tgt := 121) dX8_count_23 (by decide +kernel) (by decide +kernel) (by decide +kernel) (by decide) ?_
      refine zaload_n dX8_count_121 rfl ?_
      refine gf_X8_45 rfl dX8_count_122 ?_
      refine gf_X8_85 rfl dX8_count_125 ?_
      rw [hR.2.2.2.1.1]
      exact zireturn dX8_count_128 rfl rfl ⟨_, rfl, qC_ok rfl rfl hR⟩
  · rw [cnt_rf h0 h7]
    refine ziload_n dX8_count_0 rfl ?_
    refine zbipush (v := 11) dX8_count_1 (by decide) ?_
    refine zicmp_lt (tgt := 22) dX8_count_3 (by decide) (fun h => absurd h (nI_nlt (b := 11) (by omega) (by omega))) (fun _ => ?_)
    refine ziload_n dX8_count_6 rfl ?_
    refine zbipush (v := 16) dX8_count_7 (by decide) ?_
    refine zicmp_gt (tgt := 22) dX8_count_9 (by decide) (fun h => absurd h (nI_nlt (a := 16) (by omega) (by omega))) (fun _ => ?_)
    refine zaload_n dX8_count_12 rfl ?_
    refine gf_X8_53 rfl dX8_count_13 ?_
    refine ziload_n dX8_count_16 rfl ?_
    refine zbipush (v := 10) dX8_count_17 (by decide) ?_
    refine zisub dX8_count_19 ?_
    rw [show nI (10 + j) - 10 = nI j by (rcases (show j = 1 ∨ j = 2 ∨ j = 3 ∨ j = 4 ∨ j = 5 ∨ j = 6 by omega) with rfl | rfl | rfl | rfl | rfl | rfl <;> decide)]
    refine ziald dX8_count_20 (by decide) rfl (by decide) (by omega) ?_
    rw [hR.2.2.2.2.2 j h7]
    exact zireturn dX8_count_21 rfl rfl ⟨_, rfl, qC_ok rfl rfl hR⟩
  · rw [cnt_no h1 h2]
    by_cases h11 : w < 11
    · refine ziload_n dX8_count_0 rfl ?_
      refine zbipush (v := 11) dX8_count_1 (by decide) ?_
      refine zicmp_lt (tgt := 22) dX8_count_3 (by decide) (fun _ => ?_) (fun h => absurd h11 h)
      refine ziload_n dX8_count_22 rfl ?_
      refine ztableOut (tgt := 129) dX8_count_23 h2 (by decide) ?_
      refine zbipush (v := -9) dX8_count_129 (by decide) ?_
      exact zireturn dX8_count_131 rfl rfl ⟨_, rfl, qC_ok rfl rfl hR⟩
    · have h16 : 16 < w := Int32.not_le.mp (fun z => h1 ⟨Int32.not_lt.mp h11, z⟩)
      refine ziload_n dX8_count_0 rfl ?_
      refine zbipush (v := 11) dX8_count_1 (by decide) ?_
      refine zicmp_lt (tgt := 22) dX8_count_3 (by decide) (fun h => absurd h h11) (fun _ => ?_)
      refine ziload_n dX8_count_6 rfl ?_
      refine zbipush (v := 16) dX8_count_7 (by decide) ?_
      refine zicmp_gt (tgt := 22) dX8_count_9 (by decide) (fun _ => ?_) (fun h => absurd h16 h)
      refine ziload_n dX8_count_22 rfl ?_
      refine ztableOut (tgt := 129) dX8_count_23 h2 (by decide) ?_
      refine zbipush (v := -9) dX8_count_129 (by decide) ?_
      exact zireturn dX8_count_131 rfl rfl ⟨_, rfl, qC_ok rfl rfl hR⟩
set_option maxRecDepth 100000 in
set_option maxHeartbeats 4000000 in
theorem c_X9_count (hR : RepM σ S) (hW : WS σ) (w : Int32) : zR x false mX9_count [.ref (zad x 0), .int w] S (qM (0) (cntF σ w) σ (σ)) := by
  have hM := hR.1
  have hn8 : sN σ ≤ 8 := hM.2.1
  refine zC_of (by decide +kernel) (Nat.le_of_ble_eq_true rfl) ?_
  rcases cnt_cases w with ⟨j, hj, rfl⟩ | ⟨j, h0, h7, rfl⟩ | ⟨h1, h2⟩
  · rcases (show j = 0 ∨ j = 1 ∨ j = 2 ∨ j = 3 ∨ j = 4 ∨ j = 5 ∨ j = 6 ∨ j = 7 by omega) with rfl | rfl | rfl | rfl | rfl | rfl | rfl | rfl
    · refine ziload_n dX9_count_0 rfl ?_
      refine zbipush (v := 11) dX9_count_1 (by decide) ?_
      refine zbipush (v := 16) dX9_count_3 (by decide) ?_
      refine zcSf  gk_X9_44 dX9_count_5 c_X9_isIn rfl (by decide) (Nat.le_of_ble_eq_true rfl) ?_ rfl
      refine zifb_eq (tgt := 21) dX9_count_8 (by decide) (fun _ => ?_) (fun h => absurd (h.symm.trans (show decide ((11 : Int32) ≤ nI 0 ∧ nI 0 ≤ 16) = false by decide)) (by decide))
      refine ziload_n dX9_count_21 rfl ?_
      refine ztableIn (off := 46) (tgt := 68) dX9_count_22 (by decide +kernel) (by decide +kernel) (by decide +kernel) (by decide) ?_
      refine zaload_n dX9_count_68 rfl ?_
      refine gf_X9_9 rfl dX9_count_69 ?_
      refine ziload_n dX9_count_72 rfl ?_
      refine ziald dX9_count_73 (mrk hr1.2) (mrl hr1.1 hr1.2) (by decide) (by decide) ?_
      rw [hM.1]
      exact zireturn dX9_count_74 rfl rfl ⟨_, rfl, qM_ok rfl rfl hR⟩
    · refine ziload_n dX9_count_0 rfl ?_
      refine zbipush (v := 11) dX9_count_1 (by decide) ?_
      refine zbipush (v := 16) dX9_count_3 (by decide) ?_
      refine zcSf  gk_X9_44 dX9_count_5 c_X9_isIn rfl (by decide) (Nat.le_of_ble_eq_true rfl) ?_ rfl
      refine zifb_eq (tgt := 21) dX9_count_8 (by decide) (fun _ => ?_) (fun h => absurd (h.symm.trans (show decide ((11 : Int32) ≤ nI 1 ∧ nI 1 ≤ 16) = false by decide)) (by decide))
      refine ziload_n dX9_count_21 rfl ?_
      refine ztableIn (off := 46) (tgt := 68) dX9_count_22 (by decide +kernel) (by decide +kernel) (by decide +kernel) (by decide) ?_
      refine zaload_n dX9_count_68 rfl ?_
      refine gf_X9_9 rfl dX9_count_69 ?_
      refine ziload_n dX9_count_72 rfl ?_
      refine ziald dX9_count_73 (mrk hr1.2) (mrl hr1.1 hr1.2) (by decide) (by decide) ?_
      rw [hR.2.1]
      exact zireturn dX9_count_74 rfl rfl ⟨_, rfl, qM_ok rfl rfl hR⟩
    · refine ziload_n dX9_count_0 rfl ?_
      refine zbipush (v := 11) dX9_count_1 (by decide) ?_
      refine zbipush (v := 16) dX9_count_3 (by decide) ?_
      refine zcSf  gk_X9_44 dX9_count_5 c_X9_isIn rfl (by decide) (Nat.le_of_ble_eq_true rfl) ?_ rfl
      refine zifb_eq (tgt := 21) dX9_count_8 (by decide) (fun _ => ?_) (fun h => absurd (h.symm.trans (show decide ((11 : Int32) ≤ nI 2 ∧ nI 2 ≤ 16) = false by decide)) (by decide))
      refine ziload_n dX9_count_21 rfl ?_
      refine ztableIn (off := 53) (tgt := 75) dX9_count_22 (by decide +kernel) (by decide +kernel) (by decide +kernel) (by decide) ?_
      refine zaload_n dX9_count_75 rfl ?_
      refine gf_X9_9 rfl dX9_count_76 ?_
      refine zcSf  gk_X9_146 dX9_count_79 (c_X9_lentIn hr1 hM) rfl (by decide) (Nat.le_of_ble_eq_true rfl) ?_ rfl
      exact zireturn dX9_count_82 rfl rfl ⟨_, rfl, qM_ok rfl rfl hR⟩
    · refine ziload_n dX9_count_0 rfl ?_
      refine zbipush (v := 11) dX9_count_1 (by decide) ?_
      refine zbipush (v := 16) dX9_count_3 (by decide) ?_
      refine zcSf  gk_X9_44 dX9_count_5 c_X9_isIn rfl (by decide) (Nat.le_of_ble_eq_true rfl) ?_ rfl
      refine zifb_eq (tgt := 21) dX9_count_8 (by decide) (fun _ => ?_) (fun h => absurd (h.symm.trans (show decide ((11 : Int32) ≤ nI 3 ∧ nI 3 ≤ 16) = false by decide)) (by decide))
      refine ziload_n dX9_count_21 rfl ?_
      refine ztableIn (off := 61) (tgt := 83) dX9_count_22 (by decide +kernel) (by decide +kernel) (by decide +kernel) (by decide) ?_
      refine zaload_n dX9_count_83 rfl ?_
      refine gf_X9_9 rfl dX9_count_84 ?_
      refine ziconst (v := nI 4) dX9_count_87 (by decide) ?_
      refine zcSf  gk_X9_208 dX9_count_88 (c_X9_allOf (j := 4) hr1 hM (by decide)) rfl (by decide) (Nat.le_of_ble_eq_true rfl) ?_ rfl
      exact zireturn dX9_count_91 rfl rfl ⟨_, rfl, qM_ok rfl rfl hR⟩
    · refine ziload_n dX9_count_0 rfl ?_
      refine zbipush (v := 11) dX9_count_1 (by decide) ?_
      refine zbipush (v := 16) dX9_count_3 (by decide) ?_
      refine zcSf  gk_X9_44 dX9_count_5 c_X9_isIn rfl (by decide) (Nat.le_of_ble_eq_true rfl) ?_ rfl
      refine zifb_eq (tgt := 21) dX9_count_8 (by decide) (fun _ => ?_) (fun h => absurd (h.symm.trans (show decide ((11 : Int32) ≤ nI 4 ∧ nI 4 ≤ 16) = false by decide)) (by decide))
      refine ziload_n dX9_count_21 rfl ?_
      refine ztableIn (off := 70) (tgt := 92) dX9_count_22 (by decide +kernel) (by decide +kernel) (by decide +kernel) (by decide) ?_
      refine zaload_n dX9_count_92 rfl ?_
      refine gf_X9_9 rfl dX9_count_93 ?_
      refine ziconst (v := nI 5) dX9_count_96 (by decide) ?_
      refine zcSf  gk_X9_208 dX9_count_97 (c_X9_allOf (j := 5) hr1 hM (by decide)) rfl (by decide) (Nat.le_of_ble_eq_true rfl) ?_ rfl
      exact zireturn dX9_count_100 rfl rfl ⟨_, rfl, qM_ok rfl rfl hR⟩
    · refine ziload_n dX9_count_0 rfl ?_
      refine zbipush (v := 11) dX9_count_1 (by decide) ?_
      refine zbipush (v := 16) dX9_count_3 (by decide) ?_
      refine zcSf  gk_X9_44 dX9_count_5 c_X9_isIn rfl (by decide) (Nat.le_of_ble_eq_true rfl) ?_ rfl
      refine zifb_eq (tgt := 21) dX9_count_8 (by decide) (fun _ => ?_) (fun h => absurd (h.symm.trans (show decide ((11 : Int32) ≤ nI 5 ∧ nI 5 ≤ 16) = false by decide)) (by decide))
      refine ziload_n dX9_count_21 rfl ?_
      refine ztableIn (off := 79) (tgt := 101) dX9_count_22 (by decide +kernel) (by decide +kernel) (by decide +kernel) (by decide) ?_
      refine zaload_n dX9_count_101 rfl ?_
      refine gf_X9_9 rfl dX9_count_102 ?_
      refine zcSf  gk_X9_172 dX9_count_105 (c_X9_plainSet hr1 hM) rfl (by decide) (Nat.le_of_ble_eq_true rfl) ?_ rfl
      exact zireturn dX9_count_108 rfl rfl ⟨_, rfl, qM_ok rfl rfl hR⟩
    · refine ziload_n dX9_count_0 rfl ?_
      refine zbipush (v := 11) dX9_count_1 (by decide) ?_
      refine zbipush (v := 16) dX9_count_3 (by decide) ?_
      refine zcSf  gk_X9_44 dX9_count_5 c_X9_isIn rfl (by decide) (Nat.le_of_ble_eq_true rfl) ?_ rfl
      refine zifb_eq (tgt := 21) dX9_count_8 (by decide) (fun _ => ?_) (fun h => absurd (h.symm.trans (show decide ((11 : Int32) ≤ nI 6 ∧ nI 6 ≤ 16) = false by decide)) (by decide))
      refine ziload_n dX9_count_21 rfl ?_
      refine ztableIn (off := 87) (tgt := 109) dX9_count_22 (by decide +kernel) (by decide +kernel) (by decide +kernel) (by decide) ?_
      refine zaload_n dX9_count_109 rfl ?_
      refine gf_X9_189 rfl dX9_count_110 ?_
      rw [hR.2.2.2.2.1.1]
      exact zireturn dX9_count_113 rfl rfl ⟨_, rfl, qM_ok rfl rfl hR⟩
    · refine ziload_n dX9_count_0 rfl ?_
      refine zbipush (v := 11) dX9_count_1 (by decide) ?_
      refine zbipush (v := 16) dX9_count_3 (by decide) ?_
      refine zcSf  gk_X9_44 dX9_count_5 c_X9_isIn rfl (by decide) (Nat.le_of_ble_eq_true rfl) ?_ rfl
      refine zifb_eq (tgt := 21) dX9_count_8 (by decide) (fun _ => ?_) (fun h => absurd (h.symm.trans (show decide ((11 : Int32) ≤ nI 7 ∧ nI 7 ≤ 16) = false by decide)) (by decide))
      refine ziload_n dX9_count_21 rfl ?_
      refine ztableIn (off := 92) (tgt := 114) dX9_count_22 (by decide +kernel) (by decide +kernel) (by decide +kernel) (by decide) ?_
      refine zaload_n dX9_count_114 rfl ?_
      refine gf_X9_91 rfl dX9_count_115 ?_
      rw [hR.2.2.2.1.1]
      exact zireturn dX9_count_118 rfl rfl ⟨_, rfl, qM_ok rfl rfl hR⟩
  · rw [cnt_rf h0 h7]
    refine ziload_n dX9_count_0 rfl ?_
    refine zbipush (v := 11) dX9_count_1 (by decide) ?_
    refine zbipush (v := 16) dX9_count_3 (by decide) ?_
    refine zcSf  gk_X9_44 dX9_count_5 c_X9_isIn rfl (by decide) (Nat.le_of_ble_eq_true rfl) ?_ rfl
    refine zifb_eq (tgt := 21) dX9_count_8 (by decide) (fun h => absurd (h.symm.trans (decide_eq_true ⟨nI_le (a := 11) (by omega) (by omega), nI_le (b := 16) (by omega) (by omega)⟩)) (by decide)) (fun _ => ?_)
    refine zaload_n dX9_count_11 rfl ?_
    refine gf_X9_31 rfl dX9_count_12 ?_
    refine ziload_n dX9_count_15 rfl ?_
    refine zbipush (v := 10) dX9_count_16 (by decide) ?_
    refine zisub dX9_count_18 ?_
    rw [show nI (10 + j) - 10 = nI j by (rcases (show j = 1 ∨ j = 2 ∨ j = 3 ∨ j = 4 ∨ j = 5 ∨ j = 6 by omega) with rfl | rfl | rfl | rfl | rfl | rfl <;> decide)]
    refine ziald dX9_count_19 (by decide) rfl (by decide) (by omega) ?_
    rw [hR.2.2.2.2.2 j h7]
    exact zireturn dX9_count_20 rfl rfl ⟨_, rfl, qM_ok rfl rfl hR⟩
  · rw [cnt_no h1 h2]
    refine ziload_n dX9_count_0 rfl ?_
    refine zbipush (v := 11) dX9_count_1 (by decide) ?_
    refine zbipush (v := 16) dX9_count_3 (by decide) ?_
    refine zcSf  gk_X9_44 dX9_count_5 c_X9_isIn rfl (by decide) (Nat.le_of_ble_eq_true rfl) ?_ rfl
    refine zifb_eq (tgt := 21) dX9_count_8 (by decide) (fun _ => ?_) (fun h => absurd (h.symm.trans (decide_eq_false h1)) (by decide))
    refine ziload_n dX9_count_21 rfl ?_
    refine ztableOut (tgt := 119) dX9_count_22 h2 (by decide) ?_
    refine zbipush (v := -9) dX9_count_119 (by decide) ?_
    exact zireturn dX9_count_121 rfl rfl ⟨_, rfl, qM_ok rfl rfl hR⟩
end PUB5
