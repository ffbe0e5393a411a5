/-! The public methods, fourth part: row, letters, image, counts -/
section PUB4
variable {x : zCx} {S : zSt} {σ σ' : Sig}
def setR (σ : Sig) (r : Nat × (Nat → Int32)) : Sig := (σ.1, σ.2.1, σ.2.2.1, σ.2.2.2.1, σ.2.2.2.2.1, r, σ.2.2.2.2.2.2)
def setL (σ : Sig) (r : Nat × (Nat → Int32)) : Sig := (σ.1, σ.2.1, σ.2.2.1, σ.2.2.2.1, r, σ.2.2.2.2.2)
def setK (σ : Sig) (q : Nat × Tw × Int32) : Sig := (σ.1, σ.2.1, σ.2.2.1, some q, σ.2.2.2.2)
theorem RepC.row {S' : zSt} {r : Nat × (Nat → Int32)} (h : RepC σ S) (h1 : ∀ k, ¬ k = 34 → S'.1 k = S.1 k) (h2 : ∀ k j, ¬ (k = 0 ∧ j = 9) → S'.2 k j = S.2 k j) (h3 : S'.2 0 9 = nI r.1) (h4 : ∀ i, i < r.1 → S'.1 34 i = r.2 i) : RepC (setR σ r) S' := by
  obtain ⟨a1, a2, a3, a4, a5, a6⟩ := h
  refine ⟨⟨by rw [h2 _ _ (by decide)]; exact a1.1, a1.2.1, fun w p b1 b2 b3 => by rw [h1 _ (by unfold tp; omega)]; exact a1.2.2 w p b1 b2 b3⟩, by rw [h2 _ _ (by decide)]; exact a2, ?_, ⟨by rw [h2 _ _ (by decide)]; exact a4.1, fun i hi => by rw [h1 _ (by decide)]; exact a4.2 i hi⟩, ⟨h3, h4⟩, fun i hi => by rw [h1 _ (by decide)]; exact a6 i hi⟩
  show keptC (sK σ) S'
  unfold keptC at a3 ⊢
  cases hk : sK σ with
  | none => rw [hk] at a3; rw [h2 _ _ (by decide)]; exact a3
  | some q => rw [hk] at a3; rw [h2 _ _ (by decide), h2 _ _ (by decide)]; exact ⟨a3.1, ⟨by rw [h2 _ _ (by decide)]; exact a3.2.1.1, a3.2.1.2.1, fun w p b1 b2 b3 => by rw [h1 _ (by unfold tp; omega)]; exact a3.2.1.2.2 w p b1 b2 b3⟩, a3.2.2⟩
theorem RepM.row {S' : zSt} {r : Nat × (Nat → Int32)} (h : RepM σ S) (h1 : ∀ k, ¬ k = 7 → S'.1 k = S.1 k) (h2 : ∀ k j, ¬ (k = 0 ∧ j = 10) → S'.2 k j = S.2 k j) (h3 : S'.2 0 10 = nI r.1) (h4 : ∀ i, i < r.1 → S'.1 7 i = r.2 i) : RepM (setR σ r) S' := by
  obtain ⟨a1, a2, a3, a4, a5, a6⟩ := h
  refine ⟨⟨by rw [h1 _ (by decide)]; exact a1.1, a1.2.1, fun w p b1 b2 b3 => by rw [h1 _ (by decide)]; exact a1.2.2 w p b1 b2 b3⟩, by rw [h1 _ (by decide)]; exact a2, ?_, ⟨by rw [h2 _ _ (by decide)]; exact a4.1, fun i hi => by rw [h1 _ (by decide)]; exact a4.2 i hi⟩, ⟨h3, h4⟩, fun i hi => by rw [h1 _ (by decide)]; exact a6 i hi⟩
  show keptM (sK σ) S'
  unfold keptM at a3 ⊢
  cases hk : sK σ with
  | none => rw [hk] at a3; rw [h2 _ _ (by decide)]; exact a3
  | some q => rw [hk] at a3; rw [h2 _ _ (by decide), h1 _ (by decide)]; exact ⟨a3.1, ⟨by rw [h1 _ (by decide)]; exact a3.2.1.1, a3.2.1.2.1, fun w p b1 b2 b3 => by rw [h1 _ (by decide)]; exact a3.2.1.2.2 w p b1 b2 b3⟩, a3.2.2⟩
theorem RepC.let {S' : zSt} {r : Nat × (Nat → Int32)} (h : RepC σ S) (h1 : ∀ k, ¬ k = 33 → S'.1 k = S.1 k) (h2 : ∀ k j, ¬ (k = 32 ∧ j = 1) → S'.2 k j = S.2 k j) (h3 : S'.2 32 1 = nI r.1) (h4 : ∀ i, i < r.1 → S'.1 33 i = r.2 i) : RepC (setL σ r) S' := by
  obtain ⟨a1, a2, a3, a4, a5, a6⟩ := h
  refine ⟨⟨by rw [h2 _ _ (by decide)]; exact a1.1, a1.2.1, fun w p b1 b2 b3 => by rw [h1 _ (by unfold tp; omega)]; exact a1.2.2 w p b1 b2 b3⟩, by rw [h2 _ _ (by decide)]; exact a2, ?_, ⟨h3, h4⟩, ⟨by rw [h2 _ _ (by decide)]; exact a5.1, fun i hi => by rw [h1 _ (by decide)]; exact a5.2 i hi⟩, fun i hi => by rw [h1 _ (by decide)]; exact a6 i hi⟩
  show keptC (sK σ) S'
  unfold keptC at a3 ⊢
  cases hk : sK σ with
  | none => rw [hk] at a3; rw [h2 _ _ (by decide)]; exact a3
  | some q => rw [hk] at a3; rw [h2 _ _ (by decide), h2 _ _ (by decide)]; exact ⟨a3.1, ⟨by rw [h2 _ _ (by decide)]; exact a3.2.1.1, a3.2.1.2.1, fun w p b1 b2 b3 => by rw [h1 _ (by unfold tp; omega)]; exact a3.2.1.2.2 w p b1 b2 b3⟩, a3.2.2⟩
theorem RepM.let {S' : zSt} {r : Nat × (Nat → Int32)} (h : RepM σ S) (h1 : ∀ k, ¬ k = 6 → S'.1 k = S.1 k) (h2 : ∀ k j, ¬ (k = 0 ∧ j = 9) → S'.2 k j = S.2 k j) (h3 : S'.2 0 9 = nI r.1) (h4 : ∀ i, i < r.1 → S'.1 6 i = r.2 i) : RepM (setL σ r) S' := by
  obtain ⟨a1, a2, a3, a4, a5, a6⟩ := h
  refine ⟨⟨by rw [h1 _ (by decide)]; exact a1.1, a1.2.1, fun w p b1 b2 b3 => by rw [h1 _ (by decide)]; exact a1.2.2 w p b1 b2 b3⟩, by rw [h1 _ (by decide)]; exact a2, ?_, ⟨h3, h4⟩, ⟨by rw [h2 _ _ (by decide)]; exact a5.1, fun i hi => by rw [h1 _ (by decide)]; exact a5.2 i hi⟩, fun i hi => by rw [h1 _ (by decide)]; exact a6 i hi⟩
  show keptM (sK σ) S'
  unfold keptM at a3 ⊢
  cases hk : sK σ with
  | none => rw [hk] at a3; rw [h2 _ _ (by decide)]; exact a3
  | some q => rw [hk] at a3; rw [h2 _ _ (by decide), h1 _ (by decide)]; exact ⟨a3.1, ⟨by rw [h1 _ (by decide)]; exact a3.2.1.1, a3.2.1.2.1, fun w p b1 b2 b3 => by rw [h1 _ (by decide)]; exact a3.2.1.2.2 w p b1 b2 b3⟩, a3.2.2⟩
def fullF (n m : Nat) : Int32 := if n = m then -6 else 0
theorem okE_fullF (n m : Nat) : okE (fullF n m) := by unfold fullF; split; exact Or.inr isE_6; exact Or.inl rfl
def snoc (r : Nat × (Nat → Int32)) (v : Int32) : Nat × (Nat → Int32) := (r.1 + 1, fun i => if i = r.1 then v else r.2 i)
theorem snoc_get {A : Nat → Nat → Int32} {k : Nat} {r : Nat × (Nat → Int32)} {v : Int32} (h : ∀ i, i < r.1 → A k i = r.2 i) : ∀ i, i < (snoc r v).1 → u2 A k r.1 v k i = (snoc r v).2 i := by
  intro i hi
  show u2 A k r.1 v k i = if i = r.1 then v else r.2 i
  by_cases e : i = r.1
  · subst e; rw [u2_self, if_pos rfl]
  · rw [u2_ne (fun z => e z.2), if_neg e]; exact h i (by have : i < r.1 + 1 := hi; omega)

set_option maxRecDepth 100000 in
set_option maxHeartbeats 4000000 in
theorem c_X8_row (hR : RepC σ S) (hW : WS σ) (v : Int32) : zR x true mX8_row [.ref (zad x 0), .int v] S (qC (fO (rgF v 0 99) (fullF (sR σ).1 16)) (nI ((sR σ).1 + 1)) σ (setR σ (snoc (sR σ) v))) := by
  have hT := hR.1
  have hn8 : sN σ ≤ 8 := hT.2.1
  refine zC_of (by decide +kernel) (Nat.le_of_ble_eq_true rfl) ?_
  have hr16 := hW.2.2.2.1
  by_cases he1 : rgF v 0 99 = 0
  · by_cases hc : (sR σ).1 = 16
    · refine ziload_n dX8_row_0 rfl ?_
      refine ziconst (v := 0) dX8_row_1 (by decide) ?_
      refine zbipush (v := 99) dX8_row_2 (by decide) ?_
      refine zcSf  gk_X8_73 dX8_row_4 c_X8_rangeFault rfl (by decide) (Nat.le_of_ble_eq_true rfl) ?_ rfl
      refine zistore_n dX8_row_7 (by decide) rfl ?_
      refine ziload_n dX8_row_8 rfl ?_
      refine zif_eq (tgt := 18) dX8_row_9 (by decide) (fun _ => ?_) (fun h => absurd he1 h)
      refine zaload_n dX8_row_18 rfl ?_
      refine gf_X8_65 rfl dX8_row_19 ?_
      rw [hR.2.2.2.2.1.1]
      refine zbipush (v := 16) dX8_row_22 (by decide) ?_
      refine zicmp_lt (tgt := 34) dX8_row_24 (by decide) (fun h => absurd h (nI_nlt (b := 16) (by omega) (by omega))) (fun _ => ?_)
      refine zaload_n dX8_row_27 rfl ?_
      refine zbipush (v := -6) dX8_row_28 (by decide) ?_
      refine zcVf ob_X gk_X8_77 dX8_row_30 (c_X8_refuse isE_6) rfl (by decide) (Nat.le_of_ble_eq_true rfl) ?_ rfl
      exact zireturn dX8_row_33 rfl rfl ⟨_, rfl, qC_no (by rw [he1]; unfold fullF; rw [if_pos hc]; rfl) isE_6 hR⟩
    · have he : fO (rgF v 0 99) (fullF (sR σ).1 16) = 0 := by rw [he1]; unfold fullF; rw [if_neg hc]; rfl
      refine ziload_n dX8_row_0 rfl ?_
      refine ziconst (v := 0) dX8_row_1 (by decide) ?_
      refine zbipush (v := 99) dX8_row_2 (by decide) ?_
      refine zcSf  gk_X8_73 dX8_row_4 c_X8_rangeFault rfl (by decide) (Nat.le_of_ble_eq_true rfl) ?_ rfl
      refine zistore_n dX8_row_7 (by decide) rfl ?_
      refine ziload_n dX8_row_8 rfl ?_
      refine zif_eq (tgt := 18) dX8_row_9 (by decide) (fun _ => ?_) (fun h => absurd he1 h)
      refine zaload_n dX8_row_18 rfl ?_
      refine gf_X8_65 rfl dX8_row_19 ?_
      rw [hR.2.2.2.2.1.1]
      refine zbipush (v := 16) dX8_row_22 (by decide) ?_
      refine zicmp_lt (tgt := 34) dX8_row_24 (by decide) (fun _ => ?_) (fun h => absurd (nI_lt (b := 16) (by omega) (by omega)) h)
      refine zaload_n dX8_row_34 rfl ?_
      refine gf_X8_49 rfl dX8_row_35 ?_
      refine zaload_n dX8_row_38 rfl ?_
      refine gf_X8_65 rfl dX8_row_39 ?_
      rw [hR.2.2.2.2.1.1]
      refine ziload_n dX8_row_42 rfl ?_
      refine ziast dX8_row_43 (by decide) rfl (by decide) (by omega) ?_
      refine zaload_n dX8_row_44 rfl ?_
      refine zdup dX8_row_45 rfl ?_
      refine gf_X8_65 rfl dX8_row_46 ?_
      dsimp only
      rw [hR.2.2.2.2.1.1]
      refine ziconst (v := 1) dX8_row_49 (by decide) ?_
      refine ziadd dX8_row_50 ?_
      refine pf_X8_65 rfl dX8_row_51 ?_
      refine zaload_n dX8_row_54 rfl ?_
      refine gf_X8_65 rfl dX8_row_55 ?_
      dsimp only
      rw [u2_self, nI_1]
      exact zireturn dX8_row_58 rfl rfl ⟨_, rfl, qC_ok he rfl (hR.row (fun k hk => funext (fun i => u2_w hk)) (fun k j hk => u2_ne hk) (by dsimp only; rw [u2_self]; rfl) (snoc_get hR.2.2.2.2.1.2))⟩
  · refine ziload_n dX8_row_0 rfl ?_
    refine ziconst (v := 0) dX8_row_1 (by decide) ?_
    refine zbipush (v := 99) dX8_row_2 (by decide) ?_
    refine zcSf  gk_X8_73 dX8_row_4 c_X8_rangeFault rfl (by decide) (Nat.le_of_ble_eq_true rfl) ?_ rfl
    refine zistore_n dX8_row_7 (by decide) rfl ?_
    refine ziload_n dX8_row_8 rfl ?_
    refine zif_eq (tgt := 18) dX8_row_9 (by decide) (fun h => absurd h he1) (fun _ => ?_)
    refine zaload_n dX8_row_12 rfl ?_
    refine ziload_n dX8_row_13 rfl ?_
    refine zcVf ob_X gk_X8_77 dX8_row_14 (c_X8_refuse (okE.e (okE_rgF _ _ _) he1)) rfl (by decide) (Nat.le_of_ble_eq_true rfl) ?_ rfl
    exact zireturn dX8_row_17 rfl rfl ⟨_, rfl, qC_no (by rw [fO_n he1]) (okE.e (okE_rgF _ _ _) he1) hR⟩
set_option maxRecDepth 100000 in
set_option maxHeartbeats 4000000 in
theorem c_X9_row (hR : RepM σ S) (hW : WS σ) (v : Int32) : zR x false mX9_row [.ref (zad x 0), .int v] S (qM (fO (rgF v 0 99) (fullF (sR σ).1 16)) (nI ((sR σ).1 + 1)) σ (setR σ (snoc (sR σ) v))) := by
  have hM := hR.1
  have hn8 : sN σ ≤ 8 := hM.2.1
  refine zC_of (by decide +kernel) (Nat.le_of_ble_eq_true rfl) ?_
  have hr16 := hW.2.2.2.1
  by_cases he1 : rgF v 0 99 = 0
  · by_cases hc : (sR σ).1 = 16
    · refine ziload_n dX9_row_0 rfl ?_
      refine zbipush (v := 99) dX9_row_1 (by decide) ?_
      refine zcSf  gk_X9_150 dX9_row_3 c_wrongBy rfl (by decide) (Nat.le_of_ble_eq_true rfl) ?_ rfl
      refine zistore_n dX9_row_6 (by decide) rfl ?_
      refine ziload_n dX9_row_7 rfl ?_
      refine zif_ne (tgt := 23) dX9_row_8 (by decide) (fun h => absurd he1 h) (fun _ => ?_)
      refine zaload_n dX9_row_11 rfl ?_
      refine gf_X9_189 rfl dX9_row_12 ?_
      rw [hR.2.2.2.2.1.1]
      refine zbipush (v := 16) dX9_row_15 (by decide) ?_
      refine zicmp_ne (tgt := 23) dX9_row_17 (by decide) (fun h => absurd (by rw [hc]; rfl) h) (fun _ => ?_)
      refine zbipush (v := -6) dX9_row_20 (by decide) ?_
      refine zistore_n dX9_row_22 (by decide) rfl ?_
      refine ziload_n dX9_row_23 rfl ?_
      refine zif_eq (tgt := 33) dX9_row_24 (by decide) (fun h => absurd h (by decide)) (fun _ => ?_)
      refine zaload_n dX9_row_27 rfl ?_
      refine ziload_n dX9_row_28 rfl ?_
      refine zcVf ob_Mo gk_X9_38 dX9_row_29 (c_X9_no isE_6) rfl (by decide) (Nat.le_of_ble_eq_true rfl) ?_ rfl
      exact zireturn dX9_row_32 rfl rfl ⟨_, rfl, qM_no (by rw [he1]; unfold fullF; rw [if_pos hc]; rfl) isE_6 hR⟩
    · have he : fO (rgF v 0 99) (fullF (sR σ).1 16) = 0 := by rw [he1]; unfold fullF; rw [if_neg hc]; rfl
      refine ziload_n dX9_row_0 rfl ?_
      refine zbipush (v := 99) dX9_row_1 (by decide) ?_
      refine zcSf  gk_X9_150 dX9_row_3 c_wrongBy rfl (by decide) (Nat.le_of_ble_eq_true rfl) ?_ rfl
      refine zistore_n dX9_row_6 (by decide) rfl ?_
      refine ziload_n dX9_row_7 rfl ?_
      refine zif_ne (tgt := 23) dX9_row_8 (by decide) (fun h => absurd he1 h) (fun _ => ?_)
      refine zaload_n dX9_row_11 rfl ?_
      refine gf_X9_189 rfl dX9_row_12 ?_
      rw [hR.2.2.2.2.1.1]
      refine zbipush (v := 16) dX9_row_15 (by decide) ?_
      refine zicmp_ne (tgt := 23) dX9_row_17 (by decide) (fun _ => ?_) (fun h => absurd h (fun z => hc ((nI_eq (b := 16) (by omega) (by omega)).mp z)))
      refine ziload_n dX9_row_23 rfl ?_
      refine zif_eq (tgt := 33) dX9_row_24 (by decide) (fun _ => ?_) (fun h => absurd he1 h)
      refine zaload_n dX9_row_33 rfl ?_
      refine gf_X9_28 rfl dX9_row_34 ?_
      refine zaload_n dX9_row_37 rfl ?_
      refine gf_X9_189 rfl dX9_row_38 ?_
      rw [hR.2.2.2.2.1.1]
      refine ziload_n dX9_row_41 rfl ?_
      refine ziast dX9_row_42 (by decide) rfl (by decide) (by omega) ?_
      refine zaload_n dX9_row_43 rfl ?_
      refine zdup dX9_row_44 rfl ?_
      refine gf_X9_189 rfl dX9_row_45 ?_
      dsimp only
      rw [hR.2.2.2.2.1.1]
      refine ziconst (v := 1) dX9_row_48 (by decide) ?_
      refine ziadd dX9_row_49 ?_
      refine pf_X9_189 rfl dX9_row_50 ?_
      refine zaload_n dX9_row_53 rfl ?_
      refine gf_X9_189 rfl dX9_row_54 ?_
      dsimp only
      rw [u2_self, nI_1]
      exact zireturn dX9_row_57 rfl rfl ⟨_, rfl, qM_ok he rfl (hR.row (fun k hk => funext (fun i => u2_w hk)) (fun k j hk => u2_ne hk) (by dsimp only; rw [u2_self]; rfl) (snoc_get hR.2.2.2.2.1.2))⟩
  · refine ziload_n dX9_row_0 rfl ?_
    refine zbipush (v := 99) dX9_row_1 (by decide) ?_
    refine zcSf  gk_X9_150 dX9_row_3 c_wrongBy rfl (by decide) (Nat.le_of_ble_eq_true rfl) ?_ rfl
    refine zistore_n dX9_row_6 (by decide) rfl ?_
    refine ziload_n dX9_row_7 rfl ?_
    refine zif_ne (tgt := 23) dX9_row_8 (by decide) (fun _ => ?_) (fun h => absurd h he1)
    refine ziload_n dX9_row_23 rfl ?_
    refine zif_eq (tgt := 33) dX9_row_24 (by decide) (fun h => absurd h he1) (fun _ => ?_)
    refine zaload_n dX9_row_27 rfl ?_
    refine ziload_n dX9_row_28 rfl ?_
    refine zcVf ob_Mo gk_X9_38 dX9_row_29 (c_X9_no (okE.e (okE_rgF _ _ _) he1)) rfl (by decide) (Nat.le_of_ble_eq_true rfl) ?_ rfl
    exact zireturn dX9_row_32 rfl rfl ⟨_, rfl, qM_no (by rw [fO_n he1]) (okE.e (okE_rgF _ _ _) he1) hR⟩
set_option maxRecDepth 100000 in
set_option maxHeartbeats 4000000 in
theorem c_X8_clear (hR : RepC σ S) (hW : WS σ) : zR x true mX8_clear [.ref (zad x 0)] S (qC (0) (nI (sR σ).1) σ (setR σ (0, (sR σ).2))) := by
  have hT := hR.1
  have hn8 : sN σ ≤ 8 := hT.2.1
  refine zC_of (by decide +kernel) (Nat.le_of_ble_eq_true rfl) ?_
  refine zaload_n dX8_clear_0 rfl ?_
  refine gf_X8_65 rfl dX8_clear_1 ?_
  rw [hR.2.2.2.2.1.1]
  refine zistore_n dX8_clear_4 (by decide) rfl ?_
  refine zaload_n dX8_clear_5 rfl ?_
  refine ziconst (v := 0) dX8_clear_6 (by decide) ?_
  refine pf_X8_65 rfl dX8_clear_7 ?_
  refine ziload_n dX8_clear_10 rfl ?_
  exact zireturn dX8_clear_11 rfl rfl ⟨_, rfl, qC_ok rfl rfl (hR.row (fun _ _ => rfl) (fun k j hk => u2_ne hk) (by dsimp only; rw [u2_self]; rfl) (fun i hi => absurd hi (Nat.not_lt_zero i)))⟩
set_option maxRecDepth 100000 in
set_option maxHeartbeats 4000000 in
theorem c_X9_clear (hR : RepM σ S) (hW : WS σ) : zR x false mX9_clear [.ref (zad x 0)] S (qM (0) (nI (sR σ).1) σ (setR σ (0, (sR σ).2))) := by
  have hM := hR.1
  have hn8 : sN σ ≤ 8 := hM.2.1
  refine zC_of (by decide +kernel) (Nat.le_of_ble_eq_true rfl) ?_
  refine zaload_n dX9_clear_0 rfl ?_
  refine gf_X9_189 rfl dX9_clear_1 ?_
  rw [hR.2.2.2.2.1.1]
  refine zistore_n dX9_clear_4 (by decide) rfl ?_
  refine zaload_n dX9_clear_5 rfl ?_
  refine ziconst (v := 0) dX9_clear_6 (by decide) ?_
  refine pf_X9_189 rfl dX9_clear_7 ?_
  refine ziload_n dX9_clear_10 rfl ?_
  exact zireturn dX9_clear_11 rfl rfl ⟨_, rfl, qM_ok rfl rfl (hR.row (fun _ _ => rfl) (fun k j hk => u2_ne hk) (by dsimp only; rw [u2_self]; rfl) (fun i hi => absurd hi (Nat.not_lt_zero i)))⟩
def fF (P : Nat → Bool) : Nat → Nat → Int32
  | 0, _ => -9
  | k + 1, i => if P i = true then nI i else fF P k (i + 1)
def jP (n : Nat) (T : Tw) (r : Nat → Int32) (f : Nat) : Bool := decide (n ≤ f ∨ ¬ T 6 f = r f)
set_option maxRecDepth 100000 in
set_option maxHeartbeats 4000000 in
theorem l_X8_judge (hR : RepC σ S) (hW : WS σ) : ∀ (k i : Nat), i + k = (sR σ).1 → fF (jP (sN σ) (sT σ) (sR σ).2) k i = fF (jP (sN σ) (sT σ) (sR σ).2) (sR σ).1 0 → zZ x true mX8_judge (fun q T => ∃ v : Int32, q = some (.int v) ∧ qC 0 (fF (jP (sN σ) (sT σ) (sR σ).2) (sR σ).1 0) σ (setR σ (0, (sR σ).2)) v T) 5 [(0, .ref (zad x 0)), (1, .int (-9)), (2, .int (nI i))] [] S := by
  have hT := hR.1
  have hn8 : sN σ ≤ 8 := hT.2.1
  have hr16 := hW.2.2.2.1
  intro k
  induction k with
  | zero =>
    intro i hi hr
    refine ziload_n dX8_judge_5 rfl ?_
    refine zaload_n dX8_judge_6 rfl ?_
    refine gf_X8_65 rfl dX8_judge_7 ?_
    rw [hR.2.2.2.2.1.1]
    refine zicmp_ge (tgt := 56) dX8_judge_10 (by decide) (fun _ => ?_) (fun h => absurd (nI_le (by omega) (by omega)) h)
    refine zaload_n dX8_judge_56 rfl ?_
    refine ziconst (v := 0) dX8_judge_57 (by decide) ?_
    refine pf_X8_65 rfl dX8_judge_58 ?_
    refine ziload_n dX8_judge_61 rfl ?_
    exact zireturn dX8_judge_62 rfl rfl ⟨_, rfl, qC_ok rfl (by exact hr) (hR.row (fun _ _ => rfl) (fun k j hk => u2_ne hk) (by dsimp only; rw [u2_self]; rfl) (fun i hi => absurd hi (Nat.not_lt_zero i)))⟩
  | succ k ih =>
    intro i hi hr
    have fin : ∀ S9 : zSt, S9 = S → fF (jP (sN σ) (sT σ) (sR σ).2) (k + 1) i = nI i → zZ x true mX8_judge (fun q T => ∃ v : Int32, q = some (.int v) ∧ qC 0 (fF (jP (sN σ) (sT σ) (sR σ).2) (sR σ).1 0) σ (setR σ (0, (sR σ).2)) v T) 5 [(0, .ref (zad x 0)), (1, .int (nI i)), (2, .int (nI (i + 1)))] [] S9 := by
      rintro _ rfl hf
      rw [hf] at hr
      by_cases hk0 : k = 0
      · refine ziload_n dX8_judge_5 rfl ?_
        refine zaload_n dX8_judge_6 rfl ?_
        refine gf_X8_65 rfl dX8_judge_7 ?_
        rw [hR.2.2.2.2.1.1]
        refine zicmp_ge (tgt := 56) dX8_judge_10 (by decide) (fun _ => ?_) (fun h => absurd (nI_le (by omega) (by omega)) h)
        refine zaload_n dX8_judge_56 rfl ?_
        refine ziconst (v := 0) dX8_judge_57 (by decide) ?_
        refine pf_X8_65 rfl dX8_judge_58 ?_
        refine ziload_n dX8_judge_61 rfl ?_
        exact zireturn dX8_judge_62 rfl rfl ⟨_, rfl, qC_ok rfl (by exact hr) (hR.row (fun _ _ => rfl) (fun k j hk => u2_ne hk) (by dsimp only; rw [u2_self]; rfl) (fun i hi => absurd hi (Nat.not_lt_zero i)))⟩
      · refine ziload_n dX8_judge_5 rfl ?_
        refine zaload_n dX8_judge_6 rfl ?_
        refine gf_X8_65 rfl dX8_judge_7 ?_
        rw [hR.2.2.2.2.1.1]
        refine zicmp_ge (tgt := 56) dX8_judge_10 (by decide) (fun h => absurd h (nI_ge (by omega) (by omega))) (fun _ => ?_)
        refine ziload_n dX8_judge_13 rfl ?_
        refine zbipush (v := -9) dX8_judge_14 (by decide) ?_
        refine zicmp_ne (tgt := 56) dX8_judge_16 (by decide) (fun _ => ?_) (fun h => absurd h (nI_neN (by omega)))
        refine zaload_n dX8_judge_56 rfl ?_
        refine ziconst (v := 0) dX8_judge_57 (by decide) ?_
        refine pf_X8_65 rfl dX8_judge_58 ?_
        refine ziload_n dX8_judge_61 rfl ?_
        exact zireturn dX8_judge_62 rfl rfl ⟨_, rfl, qC_ok rfl (by exact hr) (hR.row (fun _ _ => rfl) (fun k j hk => u2_ne hk) (by dsimp only; rw [u2_self]; rfl) (fun i hi => absurd hi (Nat.not_lt_zero i)))⟩
    by_cases hin : sN σ ≤ i
    · have hj : jP (sN σ) (sT σ) (sR σ).2 i = true := decide_eq_true (Or.inl hin)
      refine ziload_n dX8_judge_5 rfl ?_
      refine zaload_n dX8_judge_6 rfl ?_
      refine gf_X8_65 rfl dX8_judge_7 ?_
      rw [hR.2.2.2.2.1.1]
      refine zicmp_ge (tgt := 56) dX8_judge_10 (by decide) (fun h => absurd h (nI_ge (by omega) (by omega))) (fun _ => ?_)
      refine ziload_n dX8_judge_13 rfl ?_
      refine zbipush (v := -9) dX8_judge_14 (by decide) ?_
      refine zicmp_ne (tgt := 56) dX8_judge_16 (by decide) (fun h => absurd rfl h) (fun _ => ?_)
      refine ziload_n dX8_judge_19 rfl ?_
      refine zaload_n dX8_judge_20 rfl ?_
      refine gf_X8_30 rfl dX8_judge_21 ?_
      refine gf_X8_192 (t := 0) (by decide) rfl dX8_judge_24 ?_
      rw [hT.1]
      refine zicmp_ge (tgt := 48) dX8_judge_27 (by decide) (fun _ => ?_) (fun h => absurd (nI_le hin (by omega)) h)
      refine ziload_n dX8_judge_48 rfl ?_
      refine zistore_n dX8_judge_49 (by decide) rfl ?_
      refine ziinc dX8_judge_50 rfl rfl (by decide) rfl ?_
      refine zgoto (tgt := 5) dX8_judge_53 (by decide) ?_
      refine zlvs (lv' := [(0, .ref (zad x 0)), (1, .int (nI i)), (2, .int (nI (i + 1)))]) ⟨rfl, rfl, by rw [← nI_1]; rfl, trivial⟩ ?_
      exact fin S rfl (by rw [fF, if_pos hj])
    · by_cases hq : (sT σ) 6 i = (sR σ).2 i
      · have hj : ¬ jP (sN σ) (sT σ) (sR σ).2 i = true := fun z => (of_decide_eq_true z).elim hin (fun y => y hq)
        refine ziload_n dX8_judge_5 rfl ?_
        refine zaload_n dX8_judge_6 rfl ?_
        refine gf_X8_65 rfl dX8_judge_7 ?_
        rw [hR.2.2.2.2.1.1]
        refine zicmp_ge (tgt := 56) dX8_judge_10 (by decide) (fun h => absurd h (nI_ge (by omega) (by omega))) (fun _ => ?_)
        refine ziload_n dX8_judge_13 rfl ?_
        refine zbipush (v := -9) dX8_judge_14 (by decide) ?_
        refine zicmp_ne (tgt := 56) dX8_judge_16 (by decide) (fun h => absurd rfl h) (fun _ => ?_)
        refine ziload_n dX8_judge_19 rfl ?_
        refine zaload_n dX8_judge_20 rfl ?_
        refine gf_X8_30 rfl dX8_judge_21 ?_
        refine gf_X8_192 (t := 0) (by decide) rfl dX8_judge_24 ?_
        rw [hT.1]
        refine zicmp_ge (tgt := 48) dX8_judge_27 (by decide) (fun h => absurd h (nI_ge (by omega) (by omega))) (fun _ => ?_)
        refine zaload_n dX8_judge_30 rfl ?_
        refine gf_X8_30 rfl dX8_judge_31 ?_
        refine gf_X8_160 (t := 0) (by decide) rfl dX8_judge_34 ?_
        refine ziload_n dX8_judge_37 rfl ?_
        refine zialT (t := 0) (w := 6) dX8_judge_38 (by decide) hT (by decide) (by decide) (by omega) ?_
        refine zaload_n dX8_judge_39 rfl ?_
        refine gf_X8_49 rfl dX8_judge_40 ?_
        refine ziload_n dX8_judge_43 rfl ?_
        refine ziald dX8_judge_44 (by decide) rfl (by decide) (by omega) ?_
        rw [hR.2.2.2.2.1.2 i (by omega)]
        refine zicmp_eq (tgt := 50) dX8_judge_45 (by decide) (fun _ => ?_) (fun h => absurd hq h)
        refine ziinc dX8_judge_50 rfl rfl (by decide) rfl ?_
        refine zgoto (tgt := 5) dX8_judge_53 (by decide) ?_
        refine zlvs (lv' := [(0, .ref (zad x 0)), (1, .int (-9)), (2, .int (nI (i + 1)))]) ⟨rfl, rfl, by rw [← nI_1]; rfl, trivial⟩ ?_
        exact ih (i + 1) (by omega) (by rw [← hr, fF, if_neg hj])
      · have hj : jP (sN σ) (sT σ) (sR σ).2 i = true := decide_eq_true (Or.inr hq)
        refine ziload_n dX8_judge_5 rfl ?_
        refine zaload_n dX8_judge_6 rfl ?_
        refine gf_X8_65 rfl dX8_judge_7 ?_
        rw [hR.2.2.2.2.1.1]
        refine zicmp_ge (tgt := 56) dX8_judge_10 (by decide) (fun h => absurd h (nI_ge (by omega) (by omega))) (fun _ => ?_)
        refine ziload_n dX8_judge_13 rfl ?_
        refine zbipush (v := -9) dX8_judge_14 (by decide) ?_
        refine zicmp_ne (tgt := 56) dX8_judge_16 (by decide) (fun h => absurd rfl h) (fun _ => ?_)
        refine ziload_n dX8_judge_19 rfl ?_
        refine zaload_n dX8_judge_20 rfl ?_
        refine gf_X8_30 rfl dX8_judge_21 ?_
        refine gf_X8_192 (t := 0) (by decide) rfl dX8_judge_24 ?_
        rw [hT.1]
        refine zicmp_ge (tgt := 48) dX8_judge_27 (by decide) (fun h => absurd h (nI_ge (by omega) (by omega))) (fun _ => ?_)
        refine zaload_n dX8_judge_30 rfl ?_
        refine gf_X8_30 rfl dX8_judge_31 ?_
        refine gf_X8_160 (t := 0) (by decide) rfl dX8_judge_34 ?_
        refine ziload_n dX8_judge_37 rfl ?_
        refine zialT (t := 0) (w := 6) dX8_judge_38 (by decide) hT (by decide) (by decide) (by omega) ?_
        refine zaload_n dX8_judge_39 rfl ?_
        refine gf_X8_49 rfl dX8_judge_40 ?_
        refine ziload_n dX8_judge_43 rfl ?_
        refine ziald dX8_judge_44 (by decide) rfl (by decide) (by omega) ?_
        rw [hR.2.2.2.2.1.2 i (by omega)]
        refine zicmp_eq (tgt := 50) dX8_judge_45 (by decide) (fun h => absurd h hq) (fun _ => ?_)
        refine ziload_n dX8_judge_48 rfl ?_
        refine zistore_n dX8_judge_49 (by decide) rfl ?_
        refine ziinc dX8_judge_50 rfl rfl (by decide) rfl ?_
        refine zgoto (tgt := 5) dX8_judge_53 (by decide) ?_
        refine zlvs (lv' := [(0, .ref (zad x 0)), (1, .int (nI i)), (2, .int (nI (i + 1)))]) ⟨rfl, rfl, by rw [← nI_1]; rfl, trivial⟩ ?_
        exact fin S rfl (by rw [fF, if_pos hj])
set_option maxRecDepth 100000 in
set_option maxHeartbeats 4000000 in
theorem c_X8_judge (hR : RepC σ S) (hW : WS σ) : zR x true mX8_judge [.ref (zad x 0)] S (qC (0) (fF (jP (sN σ) (sT σ) (sR σ).2) (sR σ).1 0) σ (setR σ (0, (sR σ).2))) := by
  have hT := hR.1
  have hn8 : sN σ ≤ 8 := hT.2.1
  refine zC_of (by decide +kernel) (Nat.le_of_ble_eq_true rfl) ?_
  refine zbipush (v := -9) dX8_judge_0 (by decide) ?_
  refine zistore_n dX8_judge_2 (by decide) rfl ?_
  refine ziconst (v := 0) dX8_judge_3 (by decide) ?_
  refine zistore_n dX8_judge_4 (by decide) rfl ?_
  refine zlvs (lv' := [(0, .ref (zad x 0)), (1, .int (-9)), (2, .int (nI 0))]) ⟨rfl, rfl, rfl, trivial⟩ ?_
  exact l_X8_judge hR hW (sR σ).1 0 (by omega) rfl
set_option maxRecDepth 100000 in
set_option maxHeartbeats 4000000 in
theorem l_X9_judge (hR : RepM σ S) (hW : WS σ) : ∀ (k i : Nat), i + k = (sR σ).1 → zZ x false mX9_judge (fun q T => ∃ v : Int32, q = some (.int v) ∧ qM 0 (fF (jP (sN σ) (sT σ) (sR σ).2) k i) σ (setR σ (0, (sR σ).2)) v T) 12 [(0, .ref (zad x 0)), (1, .int (nI (sR σ).1)), (2, .int (nI i))] [] (S.1, u2 S.2 0 10 0) := by
  have hn8 : sN σ ≤ 8 := hR.1.2.1
  have hr16 := hW.2.2.2.1
  have hR9 : RepM (setR σ (0, (sR σ).2)) (S.1, u2 S.2 0 10 0) := hR.row (fun _ _ => rfl) (fun k j hk => u2_ne hk) (by dsimp only; rw [u2_self]; rfl) (fun i hi => absurd hi (Nat.not_lt_zero i))
  have hM : isM (S.1, u2 S.2 0 10 0) 1 (sN σ) (sT σ) := hR9.1
  intro k
  induction k with
  | zero =>
    intro i hi
    refine ziload_n dX9_judge_12 rfl ?_
    refine ziload_n dX9_judge_13 rfl ?_
    refine zicmp_ge (tgt := 52) dX9_judge_14 (by decide) (fun _ => ?_) (fun h => absurd (nI_le (by omega) (by omega)) h)
    refine zbipush (v := -9) dX9_judge_52 (by decide) ?_
    exact zireturn dX9_judge_54 rfl rfl ⟨_, rfl, qM_ok rfl rfl hR9⟩
  | succ k ih =>
    intro i hi
    by_cases hin : sN σ ≤ i
    · have hj : jP (sN σ) (sT σ) (sR σ).2 i = true := decide_eq_true (Or.inl hin)
      have hP : isP (sN σ) (nI i) = false := decide_eq_false (fun z => absurd ((nI_ltI (by omega) (by omega)).mp z.2) (by omega))
      refine ziload_n dX9_judge_12 rfl ?_
      refine ziload_n dX9_judge_13 rfl ?_
      refine zicmp_ge (tgt := 52) dX9_judge_14 (by decide) (fun h => absurd h (nI_ge (by omega) (by omega))) (fun _ => ?_)
      refine zaload_n dX9_judge_17 rfl ?_
      refine ziload_n dX9_judge_18 rfl ?_
      refine zcVf ob_Mo gk_X9_48 dX9_judge_19 (c_X9_isOne hM) rfl (by decide) (Nat.le_of_ble_eq_true rfl) ?_ rfl
      refine zifb_eq (tgt := 44) dX9_judge_22 (by decide) (fun _ => ?_) (fun h => absurd (h.symm.trans hP) (by decide))
      refine ziload_n dX9_judge_44 rfl ?_
      exact zireturn dX9_judge_45 rfl rfl ⟨_, rfl, qM_ok rfl (by rw [fF, if_pos hj]) hR9⟩
    · have hP : isP (sN σ) (nI i) = true := isP_nI (by omega) (by omega)
      by_cases hq : (sT σ) 6 i = (sR σ).2 i
      · have hj : ¬ jP (sN σ) (sT σ) (sR σ).2 i = true := fun z => (of_decide_eq_true z).elim hin (fun y => y hq)
        rw [fF, if_neg hj]
        refine ziload_n dX9_judge_12 rfl ?_
        refine ziload_n dX9_judge_13 rfl ?_
        refine zicmp_ge (tgt := 52) dX9_judge_14 (by decide) (fun h => absurd h (nI_ge (by omega) (by omega))) (fun _ => ?_)
        refine zaload_n dX9_judge_17 rfl ?_
        refine ziload_n dX9_judge_18 rfl ?_
        refine zcVf ob_Mo gk_X9_48 dX9_judge_19 (c_X9_isOne hM) rfl (by decide) (Nat.le_of_ble_eq_true rfl) ?_ rfl
        refine zifb_eq (tgt := 44) dX9_judge_22 (by decide) (fun h => absurd (h.symm.trans hP) (by decide)) (fun _ => ?_)
        refine zaload_n dX9_judge_25 rfl ?_
        refine gf_X9_9 rfl dX9_judge_26 ?_
        refine ziload_n dX9_judge_29 rfl ?_
        refine ziconst (v := nI 5) dX9_judge_30 (by decide) ?_
        refine zcSf gk_X9_52 dX9_judge_31 (c_X9_of (j := 5)) rfl (by decide) (Nat.le_of_ble_eq_true rfl) ?_ rfl
        refine zialM (k := 1) (j := 5) (w := 6) dX9_judge_34 hr1 hM rfl (by decide) (by omega) ?_
        refine zaload_n dX9_judge_35 rfl ?_
        refine gf_X9_28 rfl dX9_judge_36 ?_
        refine ziload_n dX9_judge_39 rfl ?_
        refine ziald dX9_judge_40 (by decide) rfl (by decide) (by omega) ?_
        rw [hR.2.2.2.2.1.2 i (by omega)]
        refine zicmp_eq (tgt := 46) dX9_judge_41 (by decide) (fun _ => ?_) (fun h => absurd hq h)
        refine ziinc dX9_judge_46 rfl rfl (by decide) rfl ?_
        refine zgoto (tgt := 12) dX9_judge_49 (by decide) ?_
        refine zlvs (lv' := [(0, .ref (zad x 0)), (1, .int (nI (sR σ).1)), (2, .int (nI (i + 1)))]) ⟨rfl, rfl, by rw [← nI_1]; rfl, trivial⟩ ?_
        exact ih (i + 1) (by omega)
      · have hj : jP (sN σ) (sT σ) (sR σ).2 i = true := decide_eq_true (Or.inr hq)
        refine ziload_n dX9_judge_12 rfl ?_
        refine ziload_n dX9_judge_13 rfl ?_
        refine zicmp_ge (tgt := 52) dX9_judge_14 (by decide) (fun h => absurd h (nI_ge (by omega) (by omega))) (fun _ => ?_)
        refine zaload_n dX9_judge_17 rfl ?_
        refine ziload_n dX9_judge_18 rfl ?_
        refine zcVf ob_Mo gk_X9_48 dX9_judge_19 (c_X9_isOne hM) rfl (by decide) (Nat.le_of_ble_eq_true rfl) ?_ rfl
        refine zifb_eq (tgt := 44) dX9_judge_22 (by decide) (fun h => absurd (h.symm.trans hP) (by decide)) (fun _ => ?_)
        refine zaload_n dX9_judge_25 rfl ?_
        refine gf_X9_9 rfl dX9_judge_26 ?_
        refine ziload_n dX9_judge_29 rfl ?_
        refine ziconst (v := nI 5) dX9_judge_30 (by decide) ?_
        refine zcSf gk_X9_52 dX9_judge_31 (c_X9_of (j := 5)) rfl (by decide) (Nat.le_of_ble_eq_true rfl) ?_ rfl
        refine zialM (k := 1) (j := 5) (w := 6) dX9_judge_34 hr1 hM rfl (by decide) (by omega) ?_
        refine zaload_n dX9_judge_35 rfl ?_
        refine gf_X9_28 rfl dX9_judge_36 ?_
        refine ziload_n dX9_judge_39 rfl ?_
        refine ziald dX9_judge_40 (by decide) rfl (by decide) (by omega) ?_
        rw [hR.2.2.2.2.1.2 i (by omega)]
        refine zicmp_eq (tgt := 46) dX9_judge_41 (by decide) (fun h => absurd h hq) (fun _ => ?_)
        refine ziload_n dX9_judge_44 rfl ?_
        exact zireturn dX9_judge_45 rfl rfl ⟨_, rfl, qM_ok rfl (by rw [fF, if_pos hj]) hR9⟩
set_option maxRecDepth 100000 in
set_option maxHeartbeats 4000000 in
theorem c_X9_judge (hR : RepM σ S) (hW : WS σ) : zR x false mX9_judge [.ref (zad x 0)] S (qM (0) (fF (jP (sN σ) (sT σ) (sR σ).2) (sR σ).1 0) σ (setR σ (0, (sR σ).2))) := by
  have hM := hR.1
  have hn8 : sN σ ≤ 8 := hM.2.1
  refine zC_of (by decide +kernel) (Nat.le_of_ble_eq_true rfl) ?_
  refine zaload_n dX9_judge_0 rfl ?_
  refine gf_X9_189 rfl dX9_judge_1 ?_
  rw [hR.2.2.2.2.1.1]
  refine zistore_n dX9_judge_4 (by decide) rfl ?_
  refine zaload_n dX9_judge_5 rfl ?_
  refine ziconst (v := 0) dX9_judge_6 (by decide) ?_
  refine pf_X9_189 rfl dX9_judge_7 ?_
  refine ziconst (v := 0) dX9_judge_10 (by decide) ?_
  refine zistore_n dX9_judge_11 (by decide) rfl ?_
  refine zlvs (lv' := [(0, .ref (zad x 0)), (1, .int (nI (sR σ).1)), (2, .int (nI 0))]) ⟨rfl, rfl, rfl, trivial⟩ ?_
  exact l_X9_judge hR hW (sR σ).1 0 (by omega)
set_option maxRecDepth 100000 in
set_option maxHeartbeats 4000000 in
theorem c_X6_takes {c : Int32} {r : Nat × (Nat → Int32)} (h : S.2 32 1 = nI r.1) (h96 : r.1 < 96) : zF x true mX6_takes [.ref (zad x 32), .int c] S (some (.int (bI true))) (u2 S.1 33 r.1 c, u2 S.2 32 1 (nI r.1 + 1)) := by
  refine zC_of (by decide +kernel) (Nat.le_of_ble_eq_true rfl) ?_
  refine zaload_n dX6_takes_0 rfl ?_
  refine gf_X6_15 rfl dX6_takes_1 ?_
  rw [h]
  refine zbipush (v := 96) dX6_takes_4 (by decide) ?_
  refine zicmp_lt (tgt := 11) dX6_takes_6 (by decide) (fun _ => ?_) (fun h => absurd (nI_lt (b := 96) (by omega) (by omega)) h)
  refine zaload_n dX6_takes_11 rfl ?_
  refine gf_X6_9 rfl dX6_takes_12 ?_
  refine zaload_n dX6_takes_15 rfl ?_
  refine gf_X6_15 rfl dX6_takes_16 ?_
  rw [h]
  refine ziload_n dX6_takes_19 rfl ?_
  refine ziast dX6_takes_20 (by decide) rfl (by decide) (by omega) ?_
  refine zaload_n dX6_takes_21 rfl ?_
  refine zdup dX6_takes_22 rfl ?_
  refine gf_X6_15 rfl dX6_takes_23 ?_
  dsimp only
  rw [h]
  refine ziconst (v := 1) dX6_takes_26 (by decide) ?_
  refine ziadd dX6_takes_27 ?_
  refine pf_X6_15 rfl dX6_takes_28 ?_
  refine ziconst (v := 1) dX6_takes_31 (by decide) ?_
  exact zbret (q := true) dX6_takes_32 rfl rfl ⟨rfl, rfl⟩
set_option maxRecDepth 100000 in
set_option maxHeartbeats 4000000 in
theorem c_X6_takesNot {c : Int32} {r : Nat × (Nat → Int32)} (h : S.2 32 1 = nI r.1) (h96 : r.1 = 96) : zF x true mX6_takes [.ref (zad x 32), .int c] S (some (.int (bI false))) S := by
  refine zC_of (by decide +kernel) (Nat.le_of_ble_eq_true rfl) ?_
  refine zaload_n dX6_takes_0 rfl ?_
  refine gf_X6_15 rfl dX6_takes_1 ?_
  rw [h]
  refine zbipush (v := 96) dX6_takes_4 (by decide) ?_
  refine zicmp_lt (tgt := 11) dX6_takes_6 (by decide) (fun h => absurd h (nI_nlt (b := 96) (by omega) (by omega))) (fun _ => ?_)
  refine ziconst (v := 0) dX6_takes_9 (by decide) ?_
  exact zbret (q := false) dX6_takes_10 rfl rfl ⟨rfl, rfl⟩
set_option maxRecDepth 100000 in
set_option maxHeartbeats 4000000 in
theorem c_X8_letter (hR : RepC σ S) (hW : WS σ) (c : Int32) : zR x true mX8_letter [.ref (zad x 0), .int c] S (qC (fO (rgF c 0 255) (fullF (sL σ).1 96)) (nI ((sL σ).1 + 1)) σ (setL σ (snoc (sL σ) c))) := by
  have hT := hR.1
  have hn8 : sN σ ≤ 8 := hT.2.1
  refine zC_of (by decide +kernel) (Nat.le_of_ble_eq_true rfl) ?_
  have hr96 := hW.2.2.1.1
  by_cases he1 : rgF c 0 255 = 0
  · by_cases hc : (sL σ).1 = 96
    · refine ziload_n dX8_letter_0 rfl ?_
      refine ziconst (v := 0) dX8_letter_1 (by decide) ?_
      refine zsipush (v := 255) dX8_letter_2 (by decide) ?_
      refine zcSf  gk_X8_73 dX8_letter_5 c_X8_rangeFault rfl (by decide) (Nat.le_of_ble_eq_true rfl) ?_ rfl
      refine zistore_n dX8_letter_8 (by decide) rfl ?_
      refine ziload_n dX8_letter_9 rfl ?_
      refine zif_eq (tgt := 19) dX8_letter_10 (by decide) (fun _ => ?_) (fun h => absurd he1 h)
      refine zaload_n dX8_letter_19 rfl ?_
      refine gf_X8_45 rfl dX8_letter_20 ?_
      refine ziload_n dX8_letter_23 rfl ?_
      refine zcVf ob_Te gk_X8_81 dX8_letter_24 (c_X6_takesNot hR.2.2.2.1.1 hc) rfl (by decide) (Nat.le_of_ble_eq_true rfl) ?_ rfl
      refine zifb_ne (tgt := 37) dX8_letter_27 (by decide) (fun h => absurd (h.symm.trans rfl) (by decide)) (fun _ => ?_)
      refine zaload_n dX8_letter_30 rfl ?_
      refine zbipush (v := -6) dX8_letter_31 (by decide) ?_
      refine zcVf ob_X gk_X8_77 dX8_letter_33 (c_X8_refuse isE_6) rfl (by decide) (Nat.le_of_ble_eq_true rfl) ?_ rfl
      exact zireturn dX8_letter_36 rfl rfl ⟨_, rfl, qC_no (by rw [he1]; unfold fullF; rw [if_pos hc]; rfl) isE_6 hR⟩
    · have he : fO (rgF c 0 255) (fullF (sL σ).1 96) = 0 := by rw [he1]; unfold fullF; rw [if_neg hc]; rfl
      refine ziload_n dX8_letter_0 rfl ?_
      refine ziconst (v := 0) dX8_letter_1 (by decide) ?_
      refine zsipush (v := 255) dX8_letter_2 (by decide) ?_
      refine zcSf  gk_X8_73 dX8_letter_5 c_X8_rangeFault rfl (by decide) (Nat.le_of_ble_eq_true rfl) ?_ rfl
      refine zistore_n dX8_letter_8 (by decide) rfl ?_
      refine ziload_n dX8_letter_9 rfl ?_
      refine zif_eq (tgt := 19) dX8_letter_10 (by decide) (fun _ => ?_) (fun h => absurd he1 h)
      refine zaload_n dX8_letter_19 rfl ?_
      refine gf_X8_45 rfl dX8_letter_20 ?_
      refine ziload_n dX8_letter_23 rfl ?_
      refine zcVf ob_Te gk_X8_81 dX8_letter_24 (c_X6_takes hR.2.2.2.1.1 (by omega)) rfl (by decide) (Nat.le_of_ble_eq_true rfl) ?_ rfl
      refine zifb_ne (tgt := 37) dX8_letter_27 (by decide) (fun _ => ?_) (fun h => absurd (h.symm.trans rfl) (by decide))
      refine zaload_n dX8_letter_37 rfl ?_
      refine gf_X8_45 rfl dX8_letter_38 ?_
      refine gf_X8_85 rfl dX8_letter_41 ?_
      dsimp only
      rw [u2_self, nI_1]
      exact zireturn dX8_letter_44 rfl rfl ⟨_, rfl, qC_ok he rfl (hR.let (fun k hk => funext (fun i => u2_w hk)) (fun k j hk => u2_ne hk) (by dsimp only; rw [u2_self]; rfl) (snoc_get hR.2.2.2.1.2))⟩
  · refine ziload_n dX8_letter_0 rfl ?_
    refine ziconst (v := 0) dX8_letter_1 (by decide) ?_
    refine zsipush (v := 255) dX8_letter_2 (by decide) ?_
    refine zcSf  gk_X8_73 dX8_letter_5 c_X8_rangeFault rfl (by decide) (Nat.le_of_ble_eq_true rfl) ?_ rfl
    refine zistore_n dX8_letter_8 (by decide) rfl ?_
    refine ziload_n dX8_letter_9 rfl ?_
    refine zif_eq (tgt := 19) dX8_letter_10 (by decide) (fun h => absurd h he1) (fun _ => ?_)
    refine zaload_n dX8_letter_13 rfl ?_
    refine ziload_n dX8_letter_14 rfl ?_
    refine zcVf ob_X gk_X8_77 dX8_letter_15 (c_X8_refuse (okE.e (okE_rgF _ _ _) he1)) rfl (by decide) (Nat.le_of_ble_eq_true rfl) ?_ rfl
    exact zireturn dX8_letter_18 rfl rfl ⟨_, rfl, qC_no (by rw [fO_n he1]) (okE.e (okE_rgF _ _ _) he1) hR⟩
set_option maxRecDepth 100000 in
set_option maxHeartbeats 4000000 in
theorem c_X9_letter (hR : RepM σ S) (hW : WS σ) (c : Int32) : zR x false mX9_letter [.ref (zad x 0), .int c] S (qM (fO (rgF c 0 255) (fullF (sL σ).1 96)) (nI ((sL σ).1 + 1)) σ (setL σ (snoc (sL σ) c))) := by
  have hM := hR.1
  have hn8 : sN σ ≤ 8 := hM.2.1
  refine zC_of (by decide +kernel) (Nat.le_of_ble_eq_true rfl) ?_
  have hr96 := hW.2.2.1.1
  refine ziload_n dX9_letter_0 rfl ?_
  refine zif_ge (tgt := 11) dX9_letter_1 (by decide) (fun h1 => ?_) (fun h1 => ?_)
  · refine ziload_n dX9_letter_11 rfl ?_
    refine zsipush (v := 255) dX9_letter_12 (by decide) ?_
    refine zicmp_gt (tgt := 27) dX9_letter_15 (by decide) (fun h15 => ?_) (fun h15 => ?_)
    · refine zaload_n dX9_letter_27 rfl ?_
      refine zbipush (v := -6) dX9_letter_28 (by decide) ?_
      refine zcVf ob_Mo gk_X9_38 dX9_letter_30 (c_X9_no isE_6) rfl (by decide) (Nat.le_of_ble_eq_true rfl) ?_ rfl
      first
      | exact zireturn dX9_letter_33 rfl rfl ⟨_, rfl, qM_no (by rw [rgF_hi (Int32.not_lt.mpr h1) h15]; rfl) isE_6 hR⟩
      | exact zireturn dX9_letter_33 rfl rfl ⟨_, rfl, qM_no (by rw [rgF_in (Int32.not_lt.mpr h1) h15]; unfold fullF; rw [if_pos ((nI_eq (b := 96) (by omega) (by omega)).mp h24)]; rfl) isE_6 hR⟩
    · refine zaload_n dX9_letter_18 rfl ?_
      refine gf_X9_91 rfl dX9_letter_19 ?_
      rw [hR.2.2.2.1.1]
      refine zbipush (v := 96) dX9_letter_22 (by decide) ?_
      refine zicmp_ne (tgt := 34) dX9_letter_24 (by decide) (fun h24 => ?_) (fun h24 => ?_)
      · have hc : ¬ (sL σ).1 = 96 := fun z => h24 (by rw [z]; rfl)
        have he : fO (rgF c 0 255) (fullF (sL σ).1 96) = 0 := by rw [rgF_in (Int32.not_lt.mpr h1) h15]; unfold fullF; rw [if_neg hc]; rfl
        refine zaload_n dX9_letter_34 rfl ?_
        refine gf_X9_25 rfl dX9_letter_35 ?_
        refine zaload_n dX9_letter_38 rfl ?_
        refine gf_X9_91 rfl dX9_letter_39 ?_
        rw [hR.2.2.2.1.1]
        refine ziload_n dX9_letter_42 rfl ?_
        refine ziast dX9_letter_43 (by decide) rfl (by decide) (by omega) ?_
        refine zaload_n dX9_letter_44 rfl ?_
        refine zdup dX9_letter_45 rfl ?_
        refine gf_X9_91 rfl dX9_letter_46 ?_
        dsimp only
        rw [hR.2.2.2.1.1]
        refine ziconst (v := 1) dX9_letter_49 (by decide) ?_
        refine ziadd dX9_letter_50 ?_
        refine pf_X9_91 rfl dX9_letter_51 ?_
        refine zaload_n dX9_letter_54 rfl ?_
        refine gf_X9_91 rfl dX9_letter_55 ?_
        dsimp only
        rw [u2_self, nI_1]
        exact zireturn dX9_letter_58 rfl rfl ⟨_, rfl, qM_ok he rfl (hR.let (fun k hk => funext (fun i => u2_w hk)) (fun k j hk => u2_ne hk) (by dsimp only; rw [u2_self]; rfl) (snoc_get hR.2.2.2.1.2))⟩
      · refine zaload_n dX9_letter_27 rfl ?_
        refine zbipush (v := -6) dX9_letter_28 (by decide) ?_
        refine zcVf ob_Mo gk_X9_38 dX9_letter_30 (c_X9_no isE_6) rfl (by decide) (Nat.le_of_ble_eq_true rfl) ?_ rfl
        first
        | exact zireturn dX9_letter_33 rfl rfl ⟨_, rfl, qM_no (by rw [rgF_hi (Int32.not_lt.mpr h1) h15]; rfl) isE_6 hR⟩
        | exact zireturn dX9_letter_33 rfl rfl ⟨_, rfl, qM_no (by rw [rgF_in (Int32.not_lt.mpr h1) h15]; unfold fullF; rw [if_pos ((nI_eq (b := 96) (by omega) (by omega)).mp h24)]; rfl) isE_6 hR⟩
  · refine zaload_n dX9_letter_4 rfl ?_
    refine zbipush (v := -4) dX9_letter_5 (by decide) ?_
    refine zcVf ob_Mo gk_X9_38 dX9_letter_7 (c_X9_no isE_4) rfl (by decide) (Nat.le_of_ble_eq_true rfl) ?_ rfl
    exact zireturn dX9_letter_10 rfl rfl ⟨_, rfl, qM_no (by rw [rgF_lo (Int32.not_le.mp h1)]; rfl) isE_4 hR⟩
end PUB4
