/-! The public methods of both sides, first part -/
section PUB1
variable {x : zCx} {S : zSt} {σ : Sig}
/-- what holds of a face: 0 FAME, 1 SCARS, 2 LENT, 3 who wears it -/
def ofF (n : Nat) (T : Tw) (f : Nat) (w : Int32) : Int32 := if w = 3 then wF (T 4) (nI f) n 0 else T (w.toNatClampNeg + 5) f
theorem tp0 : tp 0 = 8 := rfl

set_option maxRecDepth 100000 in
set_option maxHeartbeats 4000000 in
theorem c_X7_ofFace {t n j f : Nat} {T : Tw} (ht : t < 3) (hT : isT S t n T) (hj : j < 4) (hf : f < n) : zF x true mX7_ofFace [.ref (zad x (tp t)), .int (nI f), .int (nI j)] S (some (.int (ofF n T f (nI j)))) S := by
  have hn8 := hT.2.1
  refine zC_of (by decide +kernel) (Nat.le_of_ble_eq_true rfl) ?_
  rcases (show j = 0 ∨ j = 1 ∨ j = 2 ∨ j = 3 by omega) with rfl | rfl | rfl | rfl
  · refine ziload_n dX7_ofFace_0 rfl ?_
    refine ztableIn (off := 27) (tgt := 28) dX7_ofFace_1 (by decide +kernel) (by decide +kernel) (by decide +kernel) (by decide) ?_
    refine zaload_n dX7_ofFace_28 rfl ?_
    refine gf_X7_28 (t := t) ht rfl dX7_ofFace_29 ?_
    refine ziload_n dX7_ofFace_32 rfl ?_
    refine zialT (t := t) (w := 5) dX7_ofFace_33 ht hT (by decide) (by decide) (by omega) ?_
    exact zireturn dX7_ofFace_34 rfl rfl ⟨rfl, rfl⟩
  · refine ziload_n dX7_ofFace_0 rfl ?_
    refine ztableIn (off := 34) (tgt := 35) dX7_ofFace_1 (by decide +kernel) (by decide +kernel) (by decide +kernel) (by decide) ?_
    refine zaload_n dX7_ofFace_35 rfl ?_
    refine gf_X7_31 (t := t) ht rfl dX7_ofFace_36 ?_
    refine ziload_n dX7_ofFace_39 rfl ?_
    refine zialT (t := t) (w := 6) dX7_ofFace_40 ht hT (by decide) (by decide) (by omega) ?_
    exact zireturn dX7_ofFace_41 rfl rfl ⟨rfl, rfl⟩
  · refine ziload_n dX7_ofFace_0 rfl ?_
    refine ztableIn (off := 41) (tgt := 42) dX7_ofFace_1 (by decide +kernel) (by decide +kernel) (by decide +kernel) (by decide) ?_
    refine zaload_n dX7_ofFace_42 rfl ?_
    refine gf_X7_34 (t := t) ht rfl dX7_ofFace_43 ?_
    refine ziload_n dX7_ofFace_46 rfl ?_
    refine zialT (t := t) (w := 7) dX7_ofFace_47 ht hT (by decide) (by decide) (by omega) ?_
    exact zireturn dX7_ofFace_48 rfl rfl ⟨rfl, rfl⟩
  · refine ziload_n dX7_ofFace_0 rfl ?_
    refine ztableOut (tgt := 49) dX7_ofFace_1 (by decide +kernel) (by decide) ?_
    refine zaload_n dX7_ofFace_49 rfl ?_
    refine ziload_n dX7_ofFace_50 rfl ?_
    refine zcVf (ob_town (t := t) ht) gk_X7_48 dX7_ofFace_51 (c_X7_wearerOf ht hT _) rfl (by decide) (Nat.le_of_ble_eq_true rfl) ?_ rfl
    exact zireturn dX7_ofFace_54 rfl rfl ⟨rfl, rfl⟩
set_option maxRecDepth 100000 in
set_option maxHeartbeats 4000000 in
theorem c_X9_faceIn {k n j f : Nat} {T : Tw} (hk : 0 < k ∧ k < 6) (hM : isM S k n T) (hj : j < 4) (hf : f < n) : zF x false mX9_faceIn [.ref (zad x k), .int (nI f), .int (nI j)] S (some (.int (ofF n T f (nI j)))) S := by
  have hn8 := hM.2.1
  refine zC_of (by decide +kernel) (Nat.le_of_ble_eq_true rfl) ?_
  rcases (show j = 0 ∨ j = 1 ∨ j = 2 ∨ j = 3 by omega) with rfl | rfl | rfl | rfl
  · refine ziload_n dX9_faceIn_0 rfl ?_
    refine ziconst (v := 3) dX9_faceIn_1 (by decide) ?_
    refine zicmp_ne (tgt := 13) dX9_faceIn_2 (by decide) (fun _ => ?_) (fun h => absurd h (by decide))
    refine zaload_n dX9_faceIn_13 rfl ?_
    refine ziload_n dX9_faceIn_14 rfl ?_
    refine ziconst (v := 4) dX9_faceIn_15 (by decide) ?_
    refine ziload_n dX9_faceIn_16 rfl ?_
    refine ziadd dX9_faceIn_17 ?_
    rw [show (4 : Int32) + nI 0 = nI 4 from rfl]
    refine zcSf  gk_X9_52 dX9_faceIn_18 (c_X9_of (j := 4)) rfl (by decide) (Nat.le_of_ble_eq_true rfl) ?_ rfl
    refine zialM (k := k) (j := 4) (w := 5) dX9_faceIn_21 hk hM rfl (by decide) (by omega) ?_
    exact zireturn dX9_faceIn_22 rfl rfl ⟨rfl, rfl⟩
  · refine ziload_n dX9_faceIn_0 rfl ?_
    refine ziconst (v := 3) dX9_faceIn_1 (by decide) ?_
    refine zicmp_ne (tgt := 13) dX9_faceIn_2 (by decide) (fun _ => ?_) (fun h => absurd h (by decide))
    refine zaload_n dX9_faceIn_13 rfl ?_
    refine ziload_n dX9_faceIn_14 rfl ?_
    refine ziconst (v := 4) dX9_faceIn_15 (by decide) ?_
    refine ziload_n dX9_faceIn_16 rfl ?_
    refine ziadd dX9_faceIn_17 ?_
    rw [show (4 : Int32) + nI 1 = nI 5 from rfl]
    refine zcSf  gk_X9_52 dX9_faceIn_18 (c_X9_of (j := 5)) rfl (by decide) (Nat.le_of_ble_eq_true rfl) ?_ rfl
    refine zialM (k := k) (j := 5) (w := 6) dX9_faceIn_21 hk hM rfl (by decide) (by omega) ?_
    exact zireturn dX9_faceIn_22 rfl rfl ⟨rfl, rfl⟩
  · refine ziload_n dX9_faceIn_0 rfl ?_
    refine ziconst (v := 3) dX9_faceIn_1 (by decide) ?_
    refine zicmp_ne (tgt := 13) dX9_faceIn_2 (by decide) (fun _ => ?_) (fun h => absurd h (by decide))
    refine zaload_n dX9_faceIn_13 rfl ?_
    refine ziload_n dX9_faceIn_14 rfl ?_
    refine ziconst (v := 4) dX9_faceIn_15 (by decide) ?_
    refine ziload_n dX9_faceIn_16 rfl ?_
    refine ziadd dX9_faceIn_17 ?_
    rw [show (4 : Int32) + nI 2 = nI 6 from rfl]
    refine zcSf  gk_X9_52 dX9_faceIn_18 (c_X9_of (j := 6)) rfl (by decide) (Nat.le_of_ble_eq_true rfl) ?_ rfl
    refine zialM (k := k) (j := 6) (w := 7) dX9_faceIn_21 hk hM rfl (by decide) (by omega) ?_
    exact zireturn dX9_faceIn_22 rfl rfl ⟨rfl, rfl⟩
  · refine ziload_n dX9_faceIn_0 rfl ?_
    refine ziconst (v := 3) dX9_faceIn_1 (by decide) ?_
    refine zicmp_ne (tgt := 13) dX9_faceIn_2 (by decide) (fun h => absurd rfl h) (fun _ => ?_)
    refine zaload_n dX9_faceIn_5 rfl ?_
    refine ziload_n dX9_faceIn_6 rfl ?_
    refine zcSf  gk_X9_68 dX9_faceIn_7 (c_X9_wearerOf hk hM _) rfl (by decide) (Nat.le_of_ble_eq_true rfl) ?_ rfl
    refine zgoto (tgt := 22) dX9_faceIn_10 (by decide) ?_
    exact zireturn dX9_faceIn_22 rfl rfl ⟨rfl, rfl⟩
set_option maxRecDepth 100000 in
set_option maxHeartbeats 4000000 in
theorem c_X8_person (hR : RepC σ S) (hW : WS σ) (p w : Int32) : zR x true mX8_person [.ref (zad x 0), .int p, .int w] S (qC (fO (pF (sN σ) p) (whF w 4)) ((sT σ) (w.toNatClampNeg + 1) p.toNatClampNeg) σ (σ)) := by
  have hT := hR.1
  have hn8 : sN σ ≤ 8 := hT.2.1
  refine zC_of (by decide +kernel) (Nat.le_of_ble_eq_true rfl) ?_
  by_cases he : fO (pF (sN σ) p) (whF w 4) = 0
  · obtain ⟨h1, h2⟩ := fO_0 he
    obtain ⟨i, hi, rfl⟩ := pF_of (by omega) h1
    obtain ⟨j, hj, rfl⟩ := whF_of (k := 4) (by decide) h2
    rcases (show j = 0 ∨ j = 1 ∨ j = 2 ∨ j = 3 by omega) with rfl | rfl | rfl | rfl
    · refine zaload_n dX8_person_0 rfl ?_
      refine ziload_n dX8_person_1 rfl ?_
      refine zcVf ob_X gk_X8_96 dX8_person_2 (c_X8_personFault hT) rfl (by decide) (Nat.le_of_ble_eq_true rfl) ?_ rfl
      refine ziload_n dX8_person_5 rfl ?_
      refine ziconst (v := 4) dX8_person_6 (by decide) ?_
      refine zcSf  gk_X8_99 dX8_person_7 c_X8_whatFault rfl (by decide) (Nat.le_of_ble_eq_true rfl) ?_ rfl
      refine zcSf  gk_X8_103 dX8_person_10 c_X8_firstOf rfl (by decide) (Nat.le_of_ble_eq_true rfl) ?_ rfl
      refine zistore_n dX8_person_13 (by decide) rfl ?_
      refine ziload_n dX8_person_14 rfl ?_
      refine zif_eq (tgt := 24) dX8_person_15 (by decide) (fun _ => ?_) (fun h => absurd he h)
      refine ziload_n dX8_person_24 rfl ?_
      refine ztableIn (off := 27) (tgt := 52) dX8_person_25 (by decide +kernel) (by decide +kernel) (by decide +kernel) (by decide) ?_
      refine zaload_n dX8_person_52 rfl ?_
      refine gf_X8_30 rfl dX8_person_53 ?_
      refine gf_X8_106 (t := 0) (by decide) rfl dX8_person_56 ?_
      refine ziload_n dX8_person_59 rfl ?_
      refine zialT (t := 0) (w := 1) dX8_person_60 (by decide) hT (by decide) (by decide) (by omega) ?_
      exact zireturn dX8_person_61 rfl rfl ⟨_, rfl, qC_ok he (by rw [nI_clamp (n := i) (by omega)]; rfl) hR⟩
    · refine zaload_n dX8_person_0 rfl ?_
      refine ziload_n dX8_person_1 rfl ?_
      refine zcVf ob_X gk_X8_96 dX8_person_2 (c_X8_personFault hT) rfl (by decide) (Nat.le_of_ble_eq_true rfl) ?_ rfl
      refine ziload_n dX8_person_5 rfl ?_
      refine ziconst (v := 4) dX8_person_6 (by decide) ?_
      refine zcSf  gk_X8_99 dX8_person_7 c_X8_whatFault rfl (by decide) (Nat.le_of_ble_eq_true rfl) ?_ rfl
      refine zcSf  gk_X8_103 dX8_person_10 c_X8_firstOf rfl (by decide) (Nat.le_of_ble_eq_true rfl) ?_ rfl
      refine zistore_n dX8_person_13 (by decide) rfl ?_
      refine ziload_n dX8_person_14 rfl ?_
      refine zif_eq (tgt := 24) dX8_person_15 (by decide) (fun _ => ?_) (fun h => absurd he h)
      refine ziload_n dX8_person_24 rfl ?_
      refine ztableIn (off := 37) (tgt := 62) dX8_person_25 (by decide +kernel) (by decide +kernel) (by decide +kernel) (by decide) ?_
      refine zaload_n dX8_person_62 rfl ?_
      refine gf_X8_30 rfl dX8_person_63 ?_
      refine gf_X8_109 (t := 0) (by decide) rfl dX8_person_66 ?_
      refine ziload_n dX8_person_69 rfl ?_
      refine zialT (t := 0) (w := 2) dX8_person_70 (by decide) hT (by decide) (by decide) (by omega) ?_
      exact zireturn dX8_person_71 rfl rfl ⟨_, rfl, qC_ok he (by rw [nI_clamp (n := i) (by omega)]; rfl) hR⟩
    · refine zaload_n dX8_person_0 rfl ?_
      refine ziload_n dX8_person_1 rfl ?_
      refine zcVf ob_X gk_X8_96 dX8_person_2 (c_X8_personFault hT) rfl (by decide) (Nat.le_of_ble_eq_true rfl) ?_ rfl
      refine ziload_n dX8_person_5 rfl ?_
      refine ziconst (v := 4) dX8_person_6 (by decide) ?_
      refine zcSf  gk_X8_99 dX8_person_7 c_X8_whatFault rfl (by decide) (Nat.le_of_ble_eq_true rfl) ?_ rfl
      refine zcSf  gk_X8_103 dX8_person_10 c_X8_firstOf rfl (by decide) (Nat.le_of_ble_eq_true rfl) ?_ rfl
      refine zistore_n dX8_person_13 (by decide) rfl ?_
      refine ziload_n dX8_person_14 rfl ?_
      refine zif_eq (tgt := 24) dX8_person_15 (by decide) (fun _ => ?_) (fun h => absurd he h)
      refine ziload_n dX8_person_24 rfl ?_
      refine ztableIn (off := 47) (tgt := 72) dX8_person_25 (by decide +kernel) (by decide +kernel) (by decide +kernel) (by decide) ?_
      refine zaload_n dX8_person_72 rfl ?_
      refine gf_X8_30 rfl dX8_person_73 ?_
      refine gf_X8_112 (t := 0) (by decide) rfl dX8_person_76 ?_
      refine ziload_n dX8_person_79 rfl ?_
      refine zialT (t := 0) (w := 3) dX8_person_80 (by decide) hT (by decide) (by decide) (by omega) ?_
      exact zireturn dX8_person_81 rfl rfl ⟨_, rfl, qC_ok he (by rw [nI_clamp (n := i) (by omega)]; rfl) hR⟩
    · refine zaload_n dX8_person_0 rfl ?_
      refine ziload_n dX8_person_1 rfl ?_
      refine zcVf ob_X gk_X8_96 dX8_person_2 (c_X8_personFault hT) rfl (by decide) (Nat.le_of_ble_eq_true rfl) ?_ rfl
      refine ziload_n dX8_person_5 rfl ?_
      refine ziconst (v := 4) dX8_person_6 (by decide) ?_
      refine zcSf  gk_X8_99 dX8_person_7 c_X8_whatFault rfl (by decide) (Nat.le_of_ble_eq_true rfl) ?_ rfl
      refine zcSf  gk_X8_103 dX8_person_10 c_X8_firstOf rfl (by decide) (Nat.le_of_ble_eq_true rfl) ?_ rfl
      refine zistore_n dX8_person_13 (by decide) rfl ?_
      refine ziload_n dX8_person_14 rfl ?_
      refine zif_eq (tgt := 24) dX8_person_15 (by decide) (fun _ => ?_) (fun h => absurd he h)
      refine ziload_n dX8_person_24 rfl ?_
      refine ztableOut (tgt := 82) dX8_person_25 (by decide +kernel) (by decide) ?_
      refine zaload_n dX8_person_82 rfl ?_
      refine gf_X8_30 rfl dX8_person_83 ?_
      refine gf_X8_115 (t := 0) (by decide) rfl dX8_person_86 ?_
      refine ziload_n dX8_person_89 rfl ?_
      refine zialT (t := 0) (w := 4) dX8_person_90 (by decide) hT (by decide) (by decide) (by omega) ?_
      exact zireturn dX8_person_91 rfl rfl ⟨_, rfl, qC_ok he (by rw [nI_clamp (n := i) (by omega)]; rfl) hR⟩
  · refine zaload_n dX8_person_0 rfl ?_
    refine ziload_n dX8_person_1 rfl ?_
    refine zcVf ob_X gk_X8_96 dX8_person_2 (c_X8_personFault hT) rfl (by decide) (Nat.le_of_ble_eq_true rfl) ?_ rfl
    refine ziload_n dX8_person_5 rfl ?_
    refine ziconst (v := 4) dX8_person_6 (by decide) ?_
    refine zcSf  gk_X8_99 dX8_person_7 c_X8_whatFault rfl (by decide) (Nat.le_of_ble_eq_true rfl) ?_ rfl
    refine zcSf  gk_X8_103 dX8_person_10 c_X8_firstOf rfl (by decide) (Nat.le_of_ble_eq_true rfl) ?_ rfl
    refine zistore_n dX8_person_13 (by decide) rfl ?_
    refine ziload_n dX8_person_14 rfl ?_
    refine zif_eq (tgt := 24) dX8_person_15 (by decide) (fun h => absurd h he) (fun _ => ?_)
    refine zaload_n dX8_person_18 rfl ?_
    refine ziload_n dX8_person_19 rfl ?_
    refine zcVf ob_X gk_X8_77 dX8_person_20 (c_X8_refuse (okE.e (okE_fO (okE_pF _ _) (okE_whF _ _)) he)) rfl (by decide) (Nat.le_of_ble_eq_true rfl) ?_ rfl
    exact zireturn dX8_person_23 rfl rfl ⟨_, rfl, qC_no rfl (okE.e (okE_fO (okE_pF _ _) (okE_whF _ _)) he) hR⟩
set_option maxRecDepth 100000 in
set_option maxHeartbeats 4000000 in
theorem c_X9_person (hR : RepM σ S) (hW : WS σ) (p w : Int32) : zR x false mX9_person [.ref (zad x 0), .int p, .int w] S (qM (fO (pF (sN σ) p) (whF w 4)) ((sT σ) (w.toNatClampNeg + 1) p.toNatClampNeg) σ (σ)) := by
  have hM := hR.1
  have hn8 : sN σ ≤ 8 := hM.2.1
  refine zC_of (by decide +kernel) (Nat.le_of_ble_eq_true rfl) ?_
  refine zaload_n dX9_person_0 rfl ?_
  refine ziload_n dX9_person_1 rfl ?_
  refine zcVf ob_Mo gk_X9_48 dX9_person_2 (c_X9_isOne hM) rfl (by decide) (Nat.le_of_ble_eq_true rfl) ?_ rfl
  refine zifb_ne (tgt := 14) dX9_person_5 (by decide) (fun h5 => ?_) (fun h5 => ?_)
  · refine ziload_n dX9_person_14 rfl ?_
    refine ziconst (v := 0) dX9_person_15 (by decide) ?_
    refine ziconst (v := 3) dX9_person_16 (by decide) ?_
    refine zcSf  gk_X9_44 dX9_person_17 c_isIn_3 rfl (by decide) (Nat.le_of_ble_eq_true rfl) ?_ rfl
    refine zifb_eq (tgt := 36) dX9_person_20 (by decide) (fun h20 => ?_) (fun h20 => ?_)
    · refine zaload_n dX9_person_36 rfl ?_
      refine zbipush (v := -2) dX9_person_37 (by decide) ?_
      refine zcVf ob_Mo gk_X9_38 dX9_person_39 (c_X9_no isE_2) rfl (by decide) (Nat.le_of_ble_eq_true rfl) ?_ rfl
      first
      | exact zireturn dX9_person_42 rfl rfl ⟨_, rfl, qM_ok he (by rw [nI_clamp (n := i) (by omega), nI_clamp (n := j) (by omega)]) hR⟩
      | exact zireturn dX9_person_42 rfl rfl ⟨_, rfl, qM_no (by unfold fO pF; unfold whF at *; simp_all) isE_2 hR⟩
    · have he : fO (pF (sN σ) p) (whF w 4) = 0 := by unfold fO pF; simp_all
      obtain ⟨h1, h2⟩ := fO_0 he
      obtain ⟨i, hi, rfl⟩ := pF_of (by omega) h1
      obtain ⟨j, hj, rfl⟩ := whF_of (k := 4) (by decide) h2
      refine zaload_n dX9_person_23 rfl ?_
      refine gf_X9_9 rfl dX9_person_24 ?_
      refine ziload_n dX9_person_27 rfl ?_
      refine ziload_n dX9_person_28 rfl ?_
      refine zcSf  gk_X9_52 dX9_person_29 (c_X9_of (j := j)) rfl (by decide) (Nat.le_of_ble_eq_true rfl) ?_ rfl
      refine zialM (k := 1) (j := j) (w := j + 1) dX9_person_32 hr1 hM rfl (by omega) (by omega) ?_
      refine zgoto (tgt := 42) dX9_person_33 (by decide) ?_
      first
      | exact zireturn dX9_person_42 rfl rfl ⟨_, rfl, qM_ok he (by rw [nI_clamp (n := i) (by omega), nI_clamp (n := j) (by omega)]) hR⟩
      | exact zireturn dX9_person_42 rfl rfl ⟨_, rfl, qM_no (by unfold fO pF; unfold whF at *; simp_all) isE_2 hR⟩
  · refine zaload_n dX9_person_8 rfl ?_
    refine ziconst (v := -1) dX9_person_9 (by decide) ?_
    refine zcVf ob_Mo gk_X9_38 dX9_person_10 (c_X9_no isE_1) rfl (by decide) (Nat.le_of_ble_eq_true rfl) ?_ rfl
    exact zireturn dX9_person_13 rfl rfl ⟨_, rfl, qM_no (by unfold fO pF; simp_all) isE_1 hR⟩
end PUB1
