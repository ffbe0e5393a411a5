/-! The public methods, second part -/
section PUB2
variable {x : zCx} {S : zSt} {σ σ' : Sig}
def zRl (x : zCx) (b : Bool) (M : zM) (as : List Value) (S : zSt) (P : Int64 → zSt → Prop) : Prop := zC x b M as S (fun q T => ∃ v : Int64, q = some (.long v) ∧ P v T)
/-- refusals told far off -/
def qCf (e A : Int32) (σ σ' : Sig) : Int32 → zSt → Prop := fun r S' => r = (if e = 0 then A else 1000000000 - e) ∧ RepC (if e = 0 then σ' else rfS σ e) S'
def qMf (e A : Int32) (σ σ' : Sig) : Int32 → zSt → Prop := fun r S' => r = (if e = 0 then A else 1000000000 - e) ∧ RepM (if e = 0 then σ' else rfS σ e) S'
theorem qCf_ok {e A r : Int32} {S' : zSt} (he : e = 0) (hA : r = A) (h : RepC σ' S') : qCf e A σ σ' r S' := by unfold qCf; rw [if_pos he, if_pos he]; exact ⟨hA, h⟩
theorem qMf_ok {e A r : Int32} {S' : zSt} (he : e = 0) (hA : r = A) (h : RepM σ' S') : qMf e A σ σ' r S' := by unfold qMf; rw [if_pos he, if_pos he]; exact ⟨hA, h⟩
theorem qCf_no {e A c : Int32} (hc : e = c) (hE : isE c) (h : RepC σ S) : qCf e A σ σ' (1000000000 - c) (u2 S.1 35 (-c).toNatClampNeg (S.1 35 (-c).toNatClampNeg + 1), S.2) := by
  subst hc; unfold qCf; rw [if_neg hE.ne, if_neg hE.ne]; exact ⟨rfl, h.ref hE⟩
theorem qMf_no {e A c : Int32} (hc : e = c) (hE : isE c) (h : RepM σ S) : qMf e A σ σ' (1000000000 - c) (u2 S.1 8 (-c).toNatClampNeg (S.1 8 (-c).toNatClampNeg + 1), S.2) := by
  subst hc; unfold qMf; rw [if_neg hE.ne, if_neg hE.ne]; exact ⟨rfl, h.ref hE⟩
/-- the town of now becomes another -/
def setT (σ : Sig) (T : Tw) : Sig := (σ.1, T, σ.2.2)
def setTM (σ : Sig) (T : Tw) (mo : Int32) : Sig := (σ.1, T, mo, σ.2.2.2)
theorem RepC.now {S' : zSt} {n : Nat} {T : Tw} {mo : Int32} (h : RepC σ S) (hT : isT S' 0 n T) (hm : S'.2 (tp 0) 9 = mo) (hf : frT 0 S S') : RepC (n, T, mo, σ.2.2.2) S' := by
  obtain ⟨h1, h2, h3, h4, h5, h6⟩ := h
  have g : ∀ k, (k < 9 ∨ 16 ≤ k) → S'.1 k = S.1 k := fun k hk => hf.1 k (by unfold tp; omega)
  have g2 : ∀ k, ¬ k = 8 → S'.2 k = S.2 k := fun k hk => hf.2 k hk
  refine ⟨hT, hm, ?_, by rw [g2 _ (by decide), g _ (by decide)]; exact h4, by rw [g2 _ (by decide), g _ (by decide)]; exact h5, by rw [g _ (by decide)]; exact h6⟩
  show keptC (sK σ) S'
  unfold keptC at h3 ⊢
  cases hk : sK σ with
  | none => rw [hk] at h3; rw [g2 _ (by decide)]; exact h3
  | some q => rw [hk] at h3; rw [g2 _ (by decide), g2 _ (by decide)]; exact ⟨h3.1, isT_frT h3.2.1 (by decide) hf, h3.2.2⟩
theorem RepM.now {S' : zSt} {n : Nat} {T : Tw} {mo : Int32} (h : RepM σ S) (hT : isM S' 1 n T) (hm : S'.1 1 1 = mo) (hf : frM 1 S S') : RepM (n, T, mo, σ.2.2.2) S' := by
  obtain ⟨h1, h2, h3, h4, h5, h6⟩ := h
  have g : ∀ k', ¬ k' = 1 → S'.1 k' = S.1 k' := hf.1
  refine ⟨hT, hm, ?_, by rw [hf.2, g _ (by omega)]; exact h4, by rw [hf.2, g _ (by omega)]; exact h5, by rw [g _ (by omega)]; exact h6⟩
  show keptM (sK σ) S'
  unfold keptM at h3 ⊢
  cases hk : sK σ with
  | none => rw [hk] at h3; rw [hf.2]; exact h3
  | some q => rw [hk] at h3; rw [hf.2, g _ (by omega)]; exact ⟨h3.1, isM_frM h3.2.1 hf (by omega), h3.2.2⟩
theorem pF_no {n : Nat} {p : Int32} (h : ¬ pF n p = 0) : isP n p = false := by
  unfold pF at h
  cases h1 : isP n p
  · rfl
  · rw [h1] at h; exact absurd rfl h
theorem pF_1 {n : Nat} {p : Int32} (h : isP n p = false) : pF n p = -1 := by unfold pF; rw [h]; rfl
theorem pF_yes {n : Nat} {p : Int32} (h : isP n p = true) : pF n p = 0 := by unfold pF; rw [h]; rfl
theorem fO_n {a b : Int32} (h : ¬ a = 0) : fO a b = a := by unfold fO; rw [if_neg h]
theorem fO_z (b : Int32) : fO 0 b = b := rfl
theorem fO_1 (b : Int32) : fO (-1) b = -1 := fO_n (by decide)
theorem fO_2 (b : Int32) : fO (-2) b = -2 := fO_n (by decide)
theorem fO_3 (b : Int32) : fO (-3) b = -3 := fO_n (by decide)
theorem fO_4 (b : Int32) : fO (-4) b = -4 := fO_n (by decide)
theorem fO_6 (b : Int32) : fO (-6) b = -6 := fO_n (by decide)
theorem whF_2 {w k : Int32} (h : ¬ whF w k = 0) : whF w k = -2 := by
  unfold whF at h ⊢
  split
  · rename_i q; rw [if_pos q] at h; exact absurd rfl h
  · rfl
def lentN (n : Nat) (T : Tw) : Int32 := sF (fun p => bI (decide (0 < T 7 p))) n 0 0
def clF (T : Tw) (a b : Int32) : Int32 := if T 4 a.toNatClampNeg = a ∧ T 4 b.toNatClampNeg = b then 0 else -3
def ltF (T : Tw) (a : Int32) : Int32 := if 0 < T 7 a.toNatClampNeg then 0 else -3
def moF (mo k : Int32) : Int32 := if 999 < mo + k then -6 else 0
theorem okE_clF (T : Tw) (a b : Int32) : okE (clF T a b) := by unfold clF; split; exact Or.inl rfl; exact Or.inr isE_3
theorem okE_ltF (T : Tw) (a : Int32) : okE (ltF T a) := by unfold ltF; split; exact Or.inl rfl; exact Or.inr isE_3
theorem okE_moF (a b : Int32) : okE (moF a b) := by unfold moF; split; exact Or.inr isE_6; exact Or.inl rfl
theorem clF_nI {T : Tw} {i j : Nat} (hi : i < 2 ^ 31) (hj : j < 2 ^ 31) : clF T (nI i) (nI j) = if T 4 i = nI i ∧ T 4 j = nI j then 0 else -3 := by unfold clF; rw [nI_clamp hi, nI_clamp hj]

set_option maxRecDepth 100000 in
set_option maxHeartbeats 4000000 in
theorem c_X8_face (hR : RepC σ S) (hW : WS σ) (f w : Int32) : zR x true mX8_face [.ref (zad x 0), .int f, .int w] S (qC (fO (pF (sN σ) f) (whF w 4)) (ofF (sN σ) (sT σ) f.toNatClampNeg w) σ (σ)) := by
  have hT := hR.1
  have hn8 : sN σ ≤ 8 := hT.2.1
  refine zC_of (by decide +kernel) (Nat.le_of_ble_eq_true rfl) ?_
  by_cases he : fO (pF (sN σ) f) (whF w 4) = 0
  · obtain ⟨h1, h2⟩ := fO_0 he
    obtain ⟨i, hi, rfl⟩ := pF_of (by omega) h1
    obtain ⟨j, hj, rfl⟩ := whF_of (k := 4) (by decide) h2
    refine zaload_n dX8_face_0 rfl ?_
    refine ziload_n dX8_face_1 rfl ?_
    refine zcVf ob_X gk_X8_96 dX8_face_2 (c_X8_personFault hT) rfl (by decide) (Nat.le_of_ble_eq_true rfl) ?_ rfl
    refine ziload_n dX8_face_5 rfl ?_
    refine ziconst (v := 4) dX8_face_6 (by decide) ?_
    refine zcSf  gk_X8_99 dX8_face_7 c_X8_whatFault rfl (by decide) (Nat.le_of_ble_eq_true rfl) ?_ rfl
    refine zcSf  gk_X8_103 dX8_face_10 c_X8_firstOf rfl (by decide) (Nat.le_of_ble_eq_true rfl) ?_ rfl
    refine zistore_n dX8_face_13 (by decide) rfl ?_
    refine ziload_n dX8_face_14 rfl ?_
    refine zif_eq (tgt := 24) dX8_face_15 (by decide) (fun _ => ?_) (fun h => absurd he h)
    refine zaload_n dX8_face_24 rfl ?_
    refine gf_X8_30 rfl dX8_face_25 ?_
    refine ziload_n dX8_face_28 rfl ?_
    refine ziload_n dX8_face_29 rfl ?_
    refine zcVf (ob_town (t := 0) (by decide)) gk_X8_118 dX8_face_30 (c_X7_ofFace (by decide) hT (by omega) (by omega)) rfl (by decide) (Nat.le_of_ble_eq_true rfl) ?_ rfl
    exact zireturn dX8_face_33 rfl rfl ⟨_, rfl, qC_ok he (by rw [nI_clamp (n := i) (by omega)]) hR⟩
  · refine zaload_n dX8_face_0 rfl ?_
    refine ziload_n dX8_face_1 rfl ?_
    refine zcVf ob_X gk_X8_96 dX8_face_2 (c_X8_personFault hT) rfl (by decide) (Nat.le_of_ble_eq_true rfl) ?_ rfl
    refine ziload_n dX8_face_5 rfl ?_
    refine ziconst (v := 4) dX8_face_6 (by decide) ?_
    refine zcSf  gk_X8_99 dX8_face_7 c_X8_whatFault rfl (by decide) (Nat.le_of_ble_eq_true rfl) ?_ rfl
    refine zcSf  gk_X8_103 dX8_face_10 c_X8_firstOf rfl (by decide) (Nat.le_of_ble_eq_true rfl) ?_ rfl
    refine zistore_n dX8_face_13 (by decide) rfl ?_
    refine ziload_n dX8_face_14 rfl ?_
    refine zif_eq (tgt := 24) dX8_face_15 (by decide) (fun h => absurd h he) (fun _ => ?_)
    refine zaload_n dX8_face_18 rfl ?_
    refine ziload_n dX8_face_19 rfl ?_
    refine zcVf ob_X gk_X8_77 dX8_face_20 (c_X8_refuse (okE.e (okE_fO (okE_pF _ _) (okE_whF _ _)) he)) rfl (by decide) (Nat.le_of_ble_eq_true rfl) ?_ rfl
    exact zireturn dX8_face_23 rfl rfl ⟨_, rfl, qC_no rfl (okE.e (okE_fO (okE_pF _ _) (okE_whF _ _)) he) hR⟩
set_option maxRecDepth 100000 in
set_option maxHeartbeats 4000000 in
theorem c_X9_face (hR : RepM σ S) (hW : WS σ) (f w : Int32) : zR x false mX9_face [.ref (zad x 0), .int f, .int w] S (qM (fO (pF (sN σ) f) (whF w 4)) (ofF (sN σ) (sT σ) f.toNatClampNeg w) σ (σ)) := by
  have hM := hR.1
  have hn8 : sN σ ≤ 8 := hM.2.1
  refine zC_of (by decide +kernel) (Nat.le_of_ble_eq_true rfl) ?_
  refine zaload_n dX9_face_0 rfl ?_
  refine ziload_n dX9_face_1 rfl ?_
  refine zcVf ob_Mo gk_X9_48 dX9_face_2 (c_X9_isOne hM) rfl (by decide) (Nat.le_of_ble_eq_true rfl) ?_ rfl
  refine zifb_ne (tgt := 14) dX9_face_5 (by decide) (fun h5 => ?_) (fun h5 => ?_)
  · refine ziload_n dX9_face_14 rfl ?_
    refine ziconst (v := 0) dX9_face_15 (by decide) ?_
    refine ziconst (v := 3) dX9_face_16 (by decide) ?_
    refine zcSf  gk_X9_44 dX9_face_17 c_isIn_3 rfl (by decide) (Nat.le_of_ble_eq_true rfl) ?_ rfl
    refine zifb_eq (tgt := 35) dX9_face_20 (by decide) (fun h20 => ?_) (fun h20 => ?_)
    · refine zaload_n dX9_face_35 rfl ?_
      refine zbipush (v := -2) dX9_face_36 (by decide) ?_
      refine zcVf ob_Mo gk_X9_38 dX9_face_38 (c_X9_no isE_2) rfl (by decide) (Nat.le_of_ble_eq_true rfl) ?_ rfl
      first
      | exact zireturn dX9_face_41 rfl rfl ⟨_, rfl, qM_ok he (by rw [nI_clamp (n := i) (by omega)]) hR⟩
      | exact zireturn dX9_face_41 rfl rfl ⟨_, rfl, qM_no (by unfold fO pF; unfold whF at *; simp_all) isE_2 hR⟩
    · have he : fO (pF (sN σ) f) (whF w 4) = 0 := by unfold fO pF; simp_all
      obtain ⟨h1, h2⟩ := fO_0 he
      obtain ⟨i, hi, rfl⟩ := pF_of (by omega) h1
      obtain ⟨j, hj, rfl⟩ := whF_of (k := 4) (by decide) h2
      refine zaload_n dX9_face_23 rfl ?_
      refine gf_X9_9 rfl dX9_face_24 ?_
      refine ziload_n dX9_face_27 rfl ?_
      refine ziload_n dX9_face_28 rfl ?_
      refine zcSf  gk_X9_140 dX9_face_29 (c_X9_faceIn hr1 hM (by omega) (by omega)) rfl (by decide) (Nat.le_of_ble_eq_true rfl) ?_ rfl
      refine zgoto (tgt := 41) dX9_face_32 (by decide) ?_
      first
      | exact zireturn dX9_face_41 rfl rfl ⟨_, rfl, qM_ok he (by rw [nI_clamp (n := i) (by omega)]) hR⟩
      | exact zireturn dX9_face_41 rfl rfl ⟨_, rfl, qM_no (by unfold fO pF; unfold whF at *; simp_all) isE_2 hR⟩
  · refine zaload_n dX9_face_8 rfl ?_
    refine ziconst (v := -1) dX9_face_9 (by decide) ?_
    refine zcVf ob_Mo gk_X9_38 dX9_face_10 (c_X9_no isE_1) rfl (by decide) (Nat.le_of_ble_eq_true rfl) ?_ rfl
    exact zireturn dX9_face_13 rfl rfl ⟨_, rfl, qM_no (by unfold fO pF; simp_all) isE_1 hR⟩
set_option maxRecDepth 100000 in
set_option maxHeartbeats 4000000 in
theorem c_X8_worth (hR : RepC σ S) (hW : WS σ) (f : Int32) : zR x true mX8_worth [.ref (zad x 0), .int f] S (qCf (pF (sN σ) f) ((sT σ) 5 f.toNatClampNeg - (sT σ) 6 f.toNatClampNeg) σ (σ)) := by
  have hT := hR.1
  have hn8 : sN σ ≤ 8 := hT.2.1
  refine zC_of (by decide +kernel) (Nat.le_of_ble_eq_true rfl) ?_
  by_cases he : pF (sN σ) f = 0
  · obtain ⟨i, hi, rfl⟩ := pF_of (by omega) he
    refine zaload_n dX8_worth_0 rfl ?_
    refine ziload_n dX8_worth_1 rfl ?_
    refine zcVf ob_X gk_X8_96 dX8_worth_2 (c_X8_personFault hT) rfl (by decide) (Nat.le_of_ble_eq_true rfl) ?_ rfl
    refine zistore_n dX8_worth_5 (by decide) rfl ?_
    refine ziload_n dX8_worth_6 rfl ?_
    refine zif_eq (tgt := 16) dX8_worth_7 (by decide) (fun _ => ?_) (fun h => absurd he h)
    refine zaload_n dX8_worth_16 rfl ?_
    refine gf_X8_30 rfl dX8_worth_17 ?_
    refine ziload_n dX8_worth_20 rfl ?_
    refine zcVf (ob_town (t := 0) (by decide)) gk_X8_124 dX8_worth_21 (c_X7_worthOf (by decide) hT (by omega)) rfl (by decide) (Nat.le_of_ble_eq_true rfl) ?_ rfl
    exact zireturn dX8_worth_24 rfl rfl ⟨_, rfl, qCf_ok he (by rw [nI_clamp (n := i) (by omega)]) hR⟩
  · refine zaload_n dX8_worth_0 rfl ?_
    refine ziload_n dX8_worth_1 rfl ?_
    refine zcVf ob_X gk_X8_96 dX8_worth_2 (c_X8_personFault hT) rfl (by decide) (Nat.le_of_ble_eq_true rfl) ?_ rfl
    refine zistore_n dX8_worth_5 (by decide) rfl ?_
    refine ziload_n dX8_worth_6 rfl ?_
    refine zif_eq (tgt := 16) dX8_worth_7 (by decide) (fun h => absurd h he) (fun _ => ?_)
    refine zaload_n dX8_worth_10 rfl ?_
    refine ziload_n dX8_worth_11 rfl ?_
    refine zcVf ob_X gk_X8_121 dX8_worth_12 (c_X8_refuseFarOff (okE.e (okE_pF _ _) he)) rfl (by decide) (Nat.le_of_ble_eq_true rfl) ?_ rfl
    exact zireturn dX8_worth_15 rfl rfl ⟨_, rfl, qCf_no rfl (okE.e (okE_pF _ _) he) hR⟩
set_option maxRecDepth 100000 in
set_option maxHeartbeats 4000000 in
theorem c_X9_worth (hR : RepM σ S) (hW : WS σ) (f : Int32) : zR x false mX9_worth [.ref (zad x 0), .int f] S (qMf (pF (sN σ) f) ((sT σ) 5 f.toNatClampNeg - (sT σ) 6 f.toNatClampNeg) σ (σ)) := by
  have hM := hR.1
  have hn8 : sN σ ≤ 8 := hM.2.1
  refine zC_of (by decide +kernel) (Nat.le_of_ble_eq_true rfl) ?_
  refine zaload_n dX9_worth_0 rfl ?_
  refine ziload_n dX9_worth_1 rfl ?_
  refine zcVf ob_Mo gk_X9_48 dX9_worth_2 (c_X9_isOne hM) rfl (by decide) (Nat.le_of_ble_eq_true rfl) ?_ rfl
  refine zifb_eq (tgt := 19) dX9_worth_5 (by decide) (fun h5 => ?_) (fun h5 => ?_)
  · refine zaload_n dX9_worth_19 rfl ?_
    refine ziconst (v := -1) dX9_worth_20 (by decide) ?_
    refine zcVf ob_Mo gk_X9_143 dX9_worth_21 (c_X9_noFar isE_1) rfl (by decide) (Nat.le_of_ble_eq_true rfl) ?_ rfl
    first
    | exact zireturn dX9_worth_24 rfl rfl ⟨_, rfl, qMf_ok he (by rw [nI_clamp (n := i) (by omega)]) hR⟩
    | exact zireturn dX9_worth_24 rfl rfl ⟨_, rfl, qMf_no (by unfold pF; simp_all) isE_1 hR⟩
  · have he : pF (sN σ) f = 0 := by unfold pF; simp_all
    obtain ⟨i, hi, rfl⟩ := pF_of (by omega) he
    refine zaload_n dX9_worth_8 rfl ?_
    refine gf_X9_9 rfl dX9_worth_9 ?_
    refine ziload_n dX9_worth_12 rfl ?_
    refine zcSf  gk_X9_88 dX9_worth_13 (c_X9_worthIn hr1 hM (by omega)) rfl (by decide) (Nat.le_of_ble_eq_true rfl) ?_ rfl
    refine zgoto (tgt := 24) dX9_worth_16 (by decide) ?_
    first
    | exact zireturn dX9_worth_24 rfl rfl ⟨_, rfl, qMf_ok he (by rw [nI_clamp (n := i) (by omega)]) hR⟩
    | exact zireturn dX9_worth_24 rfl rfl ⟨_, rfl, qMf_no (by unfold pF; simp_all) isE_1 hR⟩
set_option maxRecDepth 100000 in
set_option maxHeartbeats 4000000 in
theorem c_X8_lends (hR : RepC σ S) (hW : WS σ) (a b : Int32) : zR x true mX8_lends [.ref (zad x 0), .int a, .int b] S (qC (fO (twF (sN σ) a b) (clF (sT σ) a b)) (lentN (sN σ) (handT (sT σ) a.toNatClampNeg b.toNatClampNeg)) σ (setT σ (handT (sT σ) a.toNatClampNeg b.toNatClampNeg))) := by
  have hT := hR.1
  have hn8 : sN σ ≤ 8 := hT.2.1
  refine zC_of (by decide +kernel) (Nat.le_of_ble_eq_true rfl) ?_
  by_cases he : twF (sN σ) a b = 0
  · obtain ⟨i, j, hi, hj, hij, rfl, rfl⟩ := twF_of (by omega) he
    have hcl := clF_nI (T := sT σ) (i := i) (j := j) (by omega) (by omega)
    by_cases hc : (sT σ) 4 i = nI i ∧ (sT σ) 4 j = nI j
    · rw [if_pos hc] at hcl
      have he2 : fO (twF (sN σ) (nI i) (nI j)) (clF (sT σ) (nI i) (nI j)) = 0 := by rw [he, hcl]; rfl
      refine zaload_n dX8_lends_0 rfl ?_
      refine ziload_n dX8_lends_1 rfl ?_
      refine ziload_n dX8_lends_2 rfl ?_
      refine zcVf ob_X gk_X8_127 dX8_lends_3 (c_X8_twoFault hT) rfl (by decide) (Nat.le_of_ble_eq_true rfl) ?_ rfl
      refine zistore_n dX8_lends_6 (by decide) rfl ?_
      refine ziload_n dX8_lends_7 rfl ?_
      refine zif_eq (tgt := 17) dX8_lends_8 (by decide) (fun _ => ?_) (fun h => absurd he h)
      refine zaload_n dX8_lends_17 rfl ?_
      refine gf_X8_30 rfl dX8_lends_18 ?_
      refine ziload_n dX8_lends_21 rfl ?_
      refine ziload_n dX8_lends_22 rfl ?_
      refine zcVf (ob_town (t := 0) (by decide)) gk_X8_130 dX8_lends_23 (c_X7_canLend (by decide) hT (by omega) (by omega)) rfl (by decide) (Nat.le_of_ble_eq_true rfl) ?_ rfl
      refine zifb_ne (tgt := 36) dX8_lends_26 (by decide) (fun _ => ?_) (fun h => absurd (h.symm.trans (decide_eq_true ⟨hij, hc⟩)) (by decide))
      refine zaload_n dX8_lends_36 rfl ?_
      refine gf_X8_30 rfl dX8_lends_37 ?_
      refine ziload_n dX8_lends_40 rfl ?_
      refine ziload_n dX8_lends_41 rfl ?_
      refine zcVv (ob_town (t := 0) (by decide)) gk_X8_134 dX8_lends_42 (c_X7_handOver (by decide) hT hi hj) rfl (by decide) (Nat.le_of_ble_eq_true rfl) ?_ rfl
      have hT1 := isT_hand (p := i) (q := j) hT
      refine zaload_n dX8_lends_45 rfl ?_
      refine gf_X8_30 rfl dX8_lends_46 ?_
      refine zcVf (ob_town (t := 0) (by decide)) gk_X8_138 dX8_lends_49 (c_X7_lentFaces (by decide) hT1) rfl (by decide) (Nat.le_of_ble_eq_true rfl) ?_ rfl
      exact zireturn dX8_lends_52 rfl rfl ⟨_, rfl, qC_ok he2 (by rw [nI_clamp (n := i) (by omega), nI_clamp (n := j) (by omega)]; rfl) (by unfold setT; rw [nI_clamp (n := i) (by omega), nI_clamp (n := j) (by omega)]; exact hR.now hT1 hR.2.1 (fr_hand frT.rf))⟩
    · rw [if_neg hc] at hcl
      refine zaload_n dX8_lends_0 rfl ?_
      refine ziload_n dX8_lends_1 rfl ?_
      refine ziload_n dX8_lends_2 rfl ?_
      refine zcVf ob_X gk_X8_127 dX8_lends_3 (c_X8_twoFault hT) rfl (by decide) (Nat.le_of_ble_eq_true rfl) ?_ rfl
      refine zistore_n dX8_lends_6 (by decide) rfl ?_
      refine ziload_n dX8_lends_7 rfl ?_
      refine zif_eq (tgt := 17) dX8_lends_8 (by decide) (fun _ => ?_) (fun h => absurd he h)
      refine zaload_n dX8_lends_17 rfl ?_
      refine gf_X8_30 rfl dX8_lends_18 ?_
      refine ziload_n dX8_lends_21 rfl ?_
      refine ziload_n dX8_lends_22 rfl ?_
      refine zcVf (ob_town (t := 0) (by decide)) gk_X8_130 dX8_lends_23 (c_X7_canLend (by decide) hT (by omega) (by omega)) rfl (by decide) (Nat.le_of_ble_eq_true rfl) ?_ rfl
      refine zifb_ne (tgt := 36) dX8_lends_26 (by decide) (fun h => absurd (h.symm.trans (decide_eq_false (fun z => hc z.2))) (by decide)) (fun _ => ?_)
      refine zaload_n dX8_lends_29 rfl ?_
      refine zbipush (v := -3) dX8_lends_30 (by decide) ?_
      refine zcVf ob_X gk_X8_77 dX8_lends_32 (c_X8_refuse isE_3) rfl (by decide) (Nat.le_of_ble_eq_true rfl) ?_ rfl
      exact zireturn dX8_lends_35 rfl rfl ⟨_, rfl, qC_no (by rw [he, hcl]; rfl) isE_3 hR⟩
  · refine zaload_n dX8_lends_0 rfl ?_
    refine ziload_n dX8_lends_1 rfl ?_
    refine ziload_n dX8_lends_2 rfl ?_
    refine zcVf ob_X gk_X8_127 dX8_lends_3 (c_X8_twoFault hT) rfl (by decide) (Nat.le_of_ble_eq_true rfl) ?_ rfl
    refine zistore_n dX8_lends_6 (by decide) rfl ?_
    refine ziload_n dX8_lends_7 rfl ?_
    refine zif_eq (tgt := 17) dX8_lends_8 (by decide) (fun h => absurd h he) (fun _ => ?_)
    refine zaload_n dX8_lends_11 rfl ?_
    refine ziload_n dX8_lends_12 rfl ?_
    refine zcVf ob_X gk_X8_77 dX8_lends_13 (c_X8_refuse (okE.e (okE_twF _ _ _) he)) rfl (by decide) (Nat.le_of_ble_eq_true rfl) ?_ rfl
    exact zireturn dX8_lends_16 rfl rfl ⟨_, rfl, qC_no (by unfold fO; rw [if_neg he]) (okE.e (okE_twF _ _ _) he) hR⟩
theorem twF_1 {n : Nat} {a b : Int32} (h : ¬ twF n a b = 0) : twF n a b = -1 := by
  by_cases hne : a = b
  · unfold twF; rw [if_pos hne]
  · unfold twF at h ⊢
    rw [if_neg hne] at h ⊢
    unfold fO pF at h ⊢
    cases h1 : isP n a <;> cases h2 : isP n b <;> simp_all
set_option maxRecDepth 100000 in
set_option maxHeartbeats 4000000 in
theorem c_X9_lends (hR : RepM σ S) (hW : WS σ) (a b : Int32) : zR x false mX9_lends [.ref (zad x 0), .int a, .int b] S (qM (fO (twF (sN σ) a b) (clF (sT σ) a b)) (lentN (sN σ) (handT (sT σ) a.toNatClampNeg b.toNatClampNeg)) σ (setT σ (handT (sT σ) a.toNatClampNeg b.toNatClampNeg))) := by
  have hM := hR.1
  have hn8 : sN σ ≤ 8 := hM.2.1
  refine zC_of (by decide +kernel) (Nat.le_of_ble_eq_true rfl) ?_
  by_cases he : twF (sN σ) a b = 0
  · obtain ⟨i, j, hi, hj, hij, rfl, rfl⟩ := twF_of (by omega) he
    have hcl := clF_nI (T := sT σ) (i := i) (j := j) (by omega) (by omega)
    by_cases hc : (sT σ) 4 i = nI i ∧ (sT σ) 4 j = nI j
    · rw [if_pos hc] at hcl
      have he2 : fO (twF (sN σ) (nI i) (nI j)) (clF (sT σ) (nI i) (nI j)) = 0 := by rw [he, hcl]; rfl
      refine zaload_n dX9_lends_0 rfl ?_
      refine ziload_n dX9_lends_1 rfl ?_
      refine ziload_n dX9_lends_2 rfl ?_
      refine zcVf ob_Mo gk_X9_115 dX9_lends_3 (c_X9_areTwo hM) rfl (by decide) (Nat.le_of_ble_eq_true rfl) ?_ rfl
      refine zifb_ne (tgt := 15) dX9_lends_6 (by decide) (fun _ => ?_) (fun h => absurd (h.symm.trans (decide_eq_true he)) (by decide))
      refine zaload_n dX9_lends_15 rfl ?_
      refine gf_X9_9 rfl dX9_lends_16 ?_
      refine ziload_n dX9_lends_19 rfl ?_
      refine ziload_n dX9_lends_20 rfl ?_
      refine zcSf  gk_X9_118 dX9_lends_21 (c_X9_canLend hr1 hM (by omega) (by omega)) rfl (by decide) (Nat.le_of_ble_eq_true rfl) ?_ rfl
      refine zifb_ne (tgt := 34) dX9_lends_24 (by decide) (fun _ => ?_) (fun h => absurd (h.symm.trans (decide_eq_true ⟨hij, hc⟩)) (by decide))
      refine zaload_n dX9_lends_34 rfl ?_
      refine gf_X9_9 rfl dX9_lends_35 ?_
      refine ziload_n dX9_lends_38 rfl ?_
      refine ziload_n dX9_lends_39 rfl ?_
      refine zcSv  gk_X9_122 dX9_lends_40 (c_X9_lendsIn hr1 hM hi hj) rfl (by decide) (Nat.le_of_ble_eq_true rfl) ?_ rfl
      have hM1 := isM_hand (p := i) (q := j) hM
      refine zaload_n dX9_lends_43 rfl ?_
      refine gf_X9_9 rfl dX9_lends_44 ?_
      refine zcSf  gk_X9_146 dX9_lends_47 (c_X9_lentIn hr1 hM1) rfl (by decide) (Nat.le_of_ble_eq_true rfl) ?_ rfl
      exact zireturn dX9_lends_50 rfl rfl ⟨_, rfl, qM_ok he2 (by rw [nI_clamp (n := i) (by omega), nI_clamp (n := j) (by omega)]; rfl) (by unfold setT; rw [nI_clamp (n := i) (by omega), nI_clamp (n := j) (by omega)]; exact hR.now hM1 (by dsimp only; rw [u2_ne (by omega), u2_ne (by omega), u2_ne (by omega)]; exact hR.2.1) (frM_hand frM.rf))⟩
    · rw [if_neg hc] at hcl
      refine zaload_n dX9_lends_0 rfl ?_
      refine ziload_n dX9_lends_1 rfl ?_
      refine ziload_n dX9_lends_2 rfl ?_
      refine zcVf ob_Mo gk_X9_115 dX9_lends_3 (c_X9_areTwo hM) rfl (by decide) (Nat.le_of_ble_eq_true rfl) ?_ rfl
      refine zifb_ne (tgt := 15) dX9_lends_6 (by decide) (fun _ => ?_) (fun h => absurd (h.symm.trans (decide_eq_true he)) (by decide))
      refine zaload_n dX9_lends_15 rfl ?_
      refine gf_X9_9 rfl dX9_lends_16 ?_
      refine ziload_n dX9_lends_19 rfl ?_
      refine ziload_n dX9_lends_20 rfl ?_
      refine zcSf  gk_X9_118 dX9_lends_21 (c_X9_canLend hr1 hM (by omega) (by omega)) rfl (by decide) (Nat.le_of_ble_eq_true rfl) ?_ rfl
      refine zifb_ne (tgt := 34) dX9_lends_24 (by decide) (fun h => absurd (h.symm.trans (decide_eq_false (fun z => hc z.2))) (by decide)) (fun _ => ?_)
      refine zaload_n dX9_lends_27 rfl ?_
      refine zbipush (v := -3) dX9_lends_28 (by decide) ?_
      refine zcVf ob_Mo gk_X9_38 dX9_lends_30 (c_X9_no isE_3) rfl (by decide) (Nat.le_of_ble_eq_true rfl) ?_ rfl
      exact zireturn dX9_lends_33 rfl rfl ⟨_, rfl, qM_no (by rw [he, hcl]; rfl) isE_3 hR⟩
  · refine zaload_n dX9_lends_0 rfl ?_
    refine ziload_n dX9_lends_1 rfl ?_
    refine ziload_n dX9_lends_2 rfl ?_
    refine zcVf ob_Mo gk_X9_115 dX9_lends_3 (c_X9_areTwo hM) rfl (by decide) (Nat.le_of_ble_eq_true rfl) ?_ rfl
    refine zifb_ne (tgt := 15) dX9_lends_6 (by decide) (fun h => absurd (h.symm.trans (decide_eq_false he)) (by decide)) (fun _ => ?_)
    refine zaload_n dX9_lends_9 rfl ?_
    refine ziconst (v := -1) dX9_lends_10 (by decide) ?_
    refine zcVf ob_Mo gk_X9_38 dX9_lends_11 (c_X9_no isE_1) rfl (by decide) (Nat.le_of_ble_eq_true rfl) ?_ rfl
    exact zireturn dX9_lends_14 rfl rfl ⟨_, rfl, qM_no (by unfold fO; rw [if_neg he]; exact twF_1 he) isE_1 hR⟩
set_option maxRecDepth 100000 in
set_option maxHeartbeats 4000000 in
theorem c_X8_back (hR : RepC σ S) (hW : WS σ) (a : Int32) : zR x true mX8_back [.ref (zad x 0), .int a] S (qC (fO (pF (sN σ) a) (ltF (sT σ) a)) (wF ((sT σ) 4) a (sN σ) 0) σ (setT σ (backT (sN σ) (sT σ) a.toNatClampNeg))) := by
  have hT := hR.1
  have hn8 : sN σ ≤ 8 := hT.2.1
  refine zC_of (by decide +kernel) (Nat.le_of_ble_eq_true rfl) ?_
  by_cases he : pF (sN σ) a = 0
  · obtain ⟨i, hi, rfl⟩ := pF_of (by omega) he
    have hlt : ltF (sT σ) (nI i) = if 0 < (sT σ) 7 i then 0 else -3 := by unfold ltF; rw [nI_clamp (by omega)]
    by_cases hc : 0 < (sT σ) 7 i
    · rw [if_pos hc] at hlt
      have he2 : fO (pF (sN σ) (nI i)) (ltF (sT σ) (nI i)) = 0 := by rw [he, hlt]; rfl
      refine zaload_n dX8_back_0 rfl ?_
      refine ziload_n dX8_back_1 rfl ?_
      refine zcVf ob_X gk_X8_96 dX8_back_2 (c_X8_personFault hT) rfl (by decide) (Nat.le_of_ble_eq_true rfl) ?_ rfl
      refine zistore_n dX8_back_5 (by decide) rfl ?_
      refine ziload_n dX8_back_6 rfl ?_
      refine zif_eq (tgt := 16) dX8_back_7 (by decide) (fun _ => ?_) (fun h => absurd he h)
      refine zaload_n dX8_back_16 rfl ?_
      refine gf_X8_30 rfl dX8_back_17 ?_
      refine ziload_n dX8_back_20 rfl ?_
      refine zcVf (ob_town (t := 0) (by decide)) gk_X8_142 dX8_back_21 (c_X7_isLent (by decide) hT (by omega)) rfl (by decide) (Nat.le_of_ble_eq_true rfl) ?_ rfl
      refine zifb_ne (tgt := 34) dX8_back_24 (by decide) (fun _ => ?_) (fun h => absurd (h.symm.trans (decide_eq_true hc)) (by decide))
      refine zaload_n dX8_back_34 rfl ?_
      refine gf_X8_30 rfl dX8_back_35 ?_
      refine ziload_n dX8_back_38 rfl ?_
      refine zcVr (ob_town (t := 0) (by decide)) gk_X8_145 dX8_back_39 (c_X7_bringBack (by decide) hT hi) rfl (by decide) (Nat.le_of_ble_eq_true rfl) (fun r S2 hp2 => ?_) rfl
      obtain ⟨rfl, hT2, hg2, hf2⟩ := hp2
      exact zireturn dX8_back_42 rfl rfl ⟨_, rfl, qC_ok he2 rfl (by unfold setT; rw [nI_clamp (n := i) (by omega)]; exact hR.now hT2 (by rw [hg2]; exact hR.2.1) hf2)⟩
    · rw [if_neg hc] at hlt
      refine zaload_n dX8_back_0 rfl ?_
      refine ziload_n dX8_back_1 rfl ?_
      refine zcVf ob_X gk_X8_96 dX8_back_2 (c_X8_personFault hT) rfl (by decide) (Nat.le_of_ble_eq_true rfl) ?_ rfl
      refine zistore_n dX8_back_5 (by decide) rfl ?_
      refine ziload_n dX8_back_6 rfl ?_
      refine zif_eq (tgt := 16) dX8_back_7 (by decide) (fun _ => ?_) (fun h => absurd he h)
      refine zaload_n dX8_back_16 rfl ?_
      refine gf_X8_30 rfl dX8_back_17 ?_
      refine ziload_n dX8_back_20 rfl ?_
      refine zcVf (ob_town (t := 0) (by decide)) gk_X8_142 dX8_back_21 (c_X7_isLent (by decide) hT (by omega)) rfl (by decide) (Nat.le_of_ble_eq_true rfl) ?_ rfl
      refine zifb_ne (tgt := 34) dX8_back_24 (by decide) (fun h => absurd (h.symm.trans (decide_eq_false hc)) (by decide)) (fun _ => ?_)
      refine zaload_n dX8_back_27 rfl ?_
      refine zbipush (v := -3) dX8_back_28 (by decide) ?_
      refine zcVf ob_X gk_X8_77 dX8_back_30 (c_X8_refuse isE_3) rfl (by decide) (Nat.le_of_ble_eq_true rfl) ?_ rfl
      exact zireturn dX8_back_33 rfl rfl ⟨_, rfl, qC_no (by rw [he, hlt]; rfl) isE_3 hR⟩
  · refine zaload_n dX8_back_0 rfl ?_
    refine ziload_n dX8_back_1 rfl ?_
    refine zcVf ob_X gk_X8_96 dX8_back_2 (c_X8_personFault hT) rfl (by decide) (Nat.le_of_ble_eq_true rfl) ?_ rfl
    refine zistore_n dX8_back_5 (by decide) rfl ?_
    refine ziload_n dX8_back_6 rfl ?_
    refine zif_eq (tgt := 16) dX8_back_7 (by decide) (fun h => absurd h he) (fun _ => ?_)
    refine zaload_n dX8_back_10 rfl ?_
    refine ziload_n dX8_back_11 rfl ?_
    refine zcVf ob_X gk_X8_77 dX8_back_12 (c_X8_refuse (okE.e (okE_pF _ _) he)) rfl (by decide) (Nat.le_of_ble_eq_true rfl) ?_ rfl
    exact zireturn dX8_back_15 rfl rfl ⟨_, rfl, qC_no (by unfold fO; rw [if_neg he]) (okE.e (okE_pF _ _) he) hR⟩
set_option maxRecDepth 100000 in
set_option maxHeartbeats 4000000 in
theorem c_X9_back (hR : RepM σ S) (hW : WS σ) (a : Int32) : zR x false mX9_back [.ref (zad x 0), .int a] S (qM (fO (pF (sN σ) a) (ltF (sT σ) a)) (wF ((sT σ) 4) a (sN σ) 0) σ (setT σ (backT (sN σ) (sT σ) a.toNatClampNeg))) := by
  have hM := hR.1
  have hn8 : sN σ ≤ 8 := hM.2.1
  refine zC_of (by decide +kernel) (Nat.le_of_ble_eq_true rfl) ?_
  by_cases he : pF (sN σ) a = 0
  · obtain ⟨i, hi, rfl⟩ := pF_of (by omega) he
    have hlt : ltF (sT σ) (nI i) = if 0 < (sT σ) 7 i then 0 else -3 := by unfold ltF; rw [nI_clamp (by omega)]
    obtain ⟨m, h1, h2, h3⟩ := hW.1.2.1.2 i hi
    obtain ⟨e1, e2, e3, e4⟩ := nI_12 h1
    by_cases hc : m = 0
    · rw [h2, if_neg (by rw [e2]; omega)] at hlt
      refine zaload_n dX9_back_0 rfl ?_
      refine ziload_n dX9_back_1 rfl ?_
      refine zcVf ob_Mo gk_X9_48 dX9_back_2 (c_X9_isOne hM) rfl (by decide) (Nat.le_of_ble_eq_true rfl) ?_ rfl
      refine zifb_ne (tgt := 14) dX9_back_5 (by decide) (fun _ => ?_) (fun h => absurd (h.symm.trans (isP_nI (by omega) hi)) (by decide))
      refine zaload_n dX9_back_14 rfl ?_
      refine gf_X9_9 rfl dX9_back_15 ?_
      refine ziload_n dX9_back_18 rfl ?_
      refine zbipush (v := nI 6) dX9_back_19 (by decide) ?_
      refine zcSf gk_X9_52 dX9_back_21 (c_X9_of (j := 6)) rfl (by decide) (Nat.le_of_ble_eq_true rfl) ?_ rfl
      refine zialM (k := 1) (j := 6) (w := 7) dX9_back_24 hr1 hM rfl (by decide) (by omega) ?_
      refine zif_ne (tgt := 37) dX9_back_25 (by decide) (fun h => absurd (by rw [h2, e4]; exact hc) h) (fun _ => ?_)
      refine zaload_n dX9_back_28 rfl ?_
      refine zbipush (v := -3) dX9_back_29 (by decide) ?_
      refine zcVf ob_Mo gk_X9_38 dX9_back_31 (c_X9_no isE_3) rfl (by decide) (Nat.le_of_ble_eq_true rfl) ?_ rfl
      refine zgoto (tgt := 45) dX9_back_34 (by decide) ?_
      exact zireturn dX9_back_45 rfl rfl ⟨_, rfl, qM_no (by rw [he, hlt]; rfl) isE_3 hR⟩
    · rw [h2, if_pos (by rw [e2]; omega)] at hlt
      have he2 : fO (pF (sN σ) (nI i)) (ltF (sT σ) (nI i)) = 0 := by rw [he, hlt]; rfl
      obtain ⟨r, a1, a2, a3, a4, a5⟩ := h3 hc
      have hw := MW.wearer a1 a3 a5
      refine zaload_n dX9_back_0 rfl ?_
      refine ziload_n dX9_back_1 rfl ?_
      refine zcVf ob_Mo gk_X9_48 dX9_back_2 (c_X9_isOne hM) rfl (by decide) (Nat.le_of_ble_eq_true rfl) ?_ rfl
      refine zifb_ne (tgt := 14) dX9_back_5 (by decide) (fun _ => ?_) (fun h => absurd (h.symm.trans (isP_nI (by omega) hi)) (by decide))
      refine zaload_n dX9_back_14 rfl ?_
      refine gf_X9_9 rfl dX9_back_15 ?_
      refine ziload_n dX9_back_18 rfl ?_
      refine zbipush (v := nI 6) dX9_back_19 (by decide) ?_
      refine zcSf gk_X9_52 dX9_back_21 (c_X9_of (j := 6)) rfl (by decide) (Nat.le_of_ble_eq_true rfl) ?_ rfl
      refine zialM (k := 1) (j := 6) (w := 7) dX9_back_24 hr1 hM rfl (by decide) (by omega) ?_
      refine zif_ne (tgt := 37) dX9_back_25 (by decide) (fun _ => ?_) (fun h => absurd h (by rw [h2, e4]; exact hc))
      refine zaload_n dX9_back_37 rfl ?_
      refine gf_X9_9 rfl dX9_back_38 ?_
      refine ziload_n dX9_back_41 rfl ?_
      refine zcSf  gk_X9_81 dX9_back_42 (c_X9_comesBack hr1 hM hi a1 hw) rfl (by decide) (Nat.le_of_ble_eq_true rfl) ?_ rfl
      exact zireturn dX9_back_45 rfl rfl ⟨_, rfl, qM_ok he2 hw.symm (by unfold setT; rw [nI_clamp (n := i) (by omega)]; exact hR.now (isM_back hM a1 hw) (by dsimp only; rw [u2_ne (by omega), u2_ne (by omega), u2_ne (by omega)]; exact hR.2.1) (frM_back frM.rf))⟩
  · refine zaload_n dX9_back_0 rfl ?_
    refine ziload_n dX9_back_1 rfl ?_
    refine zcVf ob_Mo gk_X9_48 dX9_back_2 (c_X9_isOne hM) rfl (by decide) (Nat.le_of_ble_eq_true rfl) ?_ rfl
    refine zifb_ne (tgt := 14) dX9_back_5 (by decide) (fun h => absurd (h.symm.trans (pF_no he)) (by decide)) (fun _ => ?_)
    refine zaload_n dX9_back_8 rfl ?_
    refine ziconst (v := -1) dX9_back_9 (by decide) ?_
    refine zcVf ob_Mo gk_X9_38 dX9_back_10 (c_X9_no isE_1) rfl (by decide) (Nat.le_of_ble_eq_true rfl) ?_ rfl
    exact zireturn dX9_back_13 rfl rfl ⟨_, rfl, qM_no (by unfold fO; rw [if_neg he]; unfold pF at he ⊢; split; simp_all; rfl) isE_1 hR⟩
end PUB2
