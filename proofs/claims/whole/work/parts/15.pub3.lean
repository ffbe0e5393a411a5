/-! The public methods, third part -/
section PUB3
variable {x : zCx} {S : zSt} {σ σ' : Sig}
theorem rgF_in {v lo hi : Int32} (h1 : ¬ v < lo) (h2 : ¬ hi < v) : rgF v lo hi = 0 := by unfold rgF; rw [if_neg h1, if_neg h2]
theorem rgF_lo {v lo hi : Int32} (h1 : v < lo) : rgF v lo hi = -4 := by unfold rgF; rw [if_pos h1]
theorem rgF_hi {v lo hi : Int32} (h1 : ¬ v < lo) (h2 : hi < v) : rgF v lo hi = -6 := by unfold rgF; rw [if_neg h1, if_pos h2]
theorem c_wrongBy {u v : Int32} : zF x false mX9_wrongBy [.int u, .int v] S (some (.int (rgF u 0 v))) S := c_X9_wrongBy

set_option maxRecDepth 100000 in
set_option maxHeartbeats 4000000 in
theorem c_X8_learns (hR : RepC σ S) (hW : WS σ) (a b : Int32) : zR x true mX8_learns [.ref (zad x 0), .int a, .int b] S (qC (fO (pF (sN σ) a) (pF (sN σ) b)) (kbit (u2 (sT σ) 3 a.toNatClampNeg ((sT σ) 3 a.toNatClampNeg ^^^ (1 <<< (b &&& 31)))) b a.toNatClampNeg) σ (setT σ (u2 (sT σ) 3 a.toNatClampNeg ((sT σ) 3 a.toNatClampNeg ^^^ (1 <<< (b &&& 31)))))) := by
  have hT := hR.1
  have hn8 : sN σ ≤ 8 := hT.2.1
  refine zC_of (by decide +kernel) (Nat.le_of_ble_eq_true rfl) ?_
  by_cases he : fO (pF (sN σ) a) (pF (sN σ) b) = 0
  · obtain ⟨h1, h2⟩ := fO_0 he
    obtain ⟨i, hi, rfl⟩ := pF_of (by omega) h1
    have hT1 := isT_put (w := 3) (p := i) (v := (sT σ) 3 i ^^^ (1 <<< (b &&& 31))) hT
    have hq := kbit_b (u2 (sT σ) 3 i ((sT σ) 3 i ^^^ (1 <<< (b &&& 31)))) b i
    refine zaload_n dX8_learns_0 rfl ?_
    refine ziload_n dX8_learns_1 rfl ?_
    refine zcVf ob_X gk_X8_96 dX8_learns_2 (c_X8_personFault hT) rfl (by decide) (Nat.le_of_ble_eq_true rfl) ?_ rfl
    refine zaload_n dX8_learns_5 rfl ?_
    refine ziload_n dX8_learns_6 rfl ?_
    refine zcVf ob_X gk_X8_96 dX8_learns_7 (c_X8_personFault hT) rfl (by decide) (Nat.le_of_ble_eq_true rfl) ?_ rfl
    refine zcSf  gk_X8_103 dX8_learns_10 c_X8_firstOf rfl (by decide) (Nat.le_of_ble_eq_true rfl) ?_ rfl
    refine zistore_n dX8_learns_13 (by decide) rfl ?_
    refine ziload_n dX8_learns_14 rfl ?_
    refine zif_eq (tgt := 24) dX8_learns_15 (by decide) (fun _ => ?_) (fun h => absurd he h)
    refine zaload_n dX8_learns_24 rfl ?_
    refine gf_X8_30 rfl dX8_learns_25 ?_
    refine ziload_n dX8_learns_28 rfl ?_
    refine ziload_n dX8_learns_29 rfl ?_
    refine zcVv (ob_town (t := 0) (by decide)) gk_X8_148 dX8_learns_30 (c_X7_turnKnowing (by decide) hT hi) rfl (by decide) (Nat.le_of_ble_eq_true rfl) ?_ rfl
    refine zaload_n dX8_learns_33 rfl ?_
    refine gf_X8_30 rfl dX8_learns_34 ?_
    refine ziload_n dX8_learns_37 rfl ?_
    refine ziload_n dX8_learns_38 rfl ?_
    refine zcVf (ob_town (t := 0) (by decide)) gk_X8_151 dX8_learns_39 (c_X7_knowsFace (by decide) hT1 hi) rfl (by decide) (Nat.le_of_ble_eq_true rfl) ?_ rfl
    refine zifb_eq (tgt := 49) dX8_learns_42 (by decide) (fun h42 => ?_) (fun h42 => ?_)
    · refine ziconst (v := 0) dX8_learns_49 (by decide) ?_
      exact zireturn dX8_learns_50 rfl rfl ⟨_, rfl, qC_ok he (by rw [nI_clamp (n := i) (by omega), ← hq]; first | (rw [h42]; rfl)) (by unfold setT; rw [nI_clamp (n := i) (by omega)]; exact hR.now hT1 hR.2.1 (frT.put frT.rf (by decide) (by decide)))⟩
    · refine ziconst (v := 1) dX8_learns_45 (by decide) ?_
      refine zgoto (tgt := 50) dX8_learns_46 (by decide) ?_
      exact zireturn dX8_learns_50 rfl rfl ⟨_, rfl, qC_ok he (by rw [nI_clamp (n := i) (by omega), ← hq]; first | (rw [h42]; rfl)) (by unfold setT; rw [nI_clamp (n := i) (by omega)]; exact hR.now hT1 hR.2.1 (frT.put frT.rf (by decide) (by decide)))⟩
  · refine zaload_n dX8_learns_0 rfl ?_
    refine ziload_n dX8_learns_1 rfl ?_
    refine zcVf ob_X gk_X8_96 dX8_learns_2 (c_X8_personFault hT) rfl (by decide) (Nat.le_of_ble_eq_true rfl) ?_ rfl
    refine zaload_n dX8_learns_5 rfl ?_
    refine ziload_n dX8_learns_6 rfl ?_
    refine zcVf ob_X gk_X8_96 dX8_learns_7 (c_X8_personFault hT) rfl (by decide) (Nat.le_of_ble_eq_true rfl) ?_ rfl
    refine zcSf  gk_X8_103 dX8_learns_10 c_X8_firstOf rfl (by decide) (Nat.le_of_ble_eq_true rfl) ?_ rfl
    refine zistore_n dX8_learns_13 (by decide) rfl ?_
    refine ziload_n dX8_learns_14 rfl ?_
    refine zif_eq (tgt := 24) dX8_learns_15 (by decide) (fun h => absurd h he) (fun _ => ?_)
    refine zaload_n dX8_learns_18 rfl ?_
    refine ziload_n dX8_learns_19 rfl ?_
    refine zcVf ob_X gk_X8_77 dX8_learns_20 (c_X8_refuse (okE.e (okE_fO (okE_pF _ _) (okE_pF _ _)) he)) rfl (by decide) (Nat.le_of_ble_eq_true rfl) ?_ rfl
    exact zireturn dX8_learns_23 rfl rfl ⟨_, rfl, qC_no rfl (okE.e (okE_fO (okE_pF _ _) (okE_pF _ _)) he) hR⟩
set_option maxRecDepth 100000 in
set_option maxHeartbeats 4000000 in
theorem c_X9_learns (hR : RepM σ S) (hW : WS σ) (a b : Int32) : zR x false mX9_learns [.ref (zad x 0), .int a, .int b] S (qM (fO (pF (sN σ) a) (pF (sN σ) b)) (kbit (u2 (sT σ) 3 a.toNatClampNeg ((sT σ) 3 a.toNatClampNeg ^^^ (1 <<< (b &&& 31)))) b a.toNatClampNeg) σ (setT σ (u2 (sT σ) 3 a.toNatClampNeg ((sT σ) 3 a.toNatClampNeg ^^^ (1 <<< (b &&& 31)))))) := by
  have hM := hR.1
  have hn8 : sN σ ≤ 8 := hM.2.1
  refine zC_of (by decide +kernel) (Nat.le_of_ble_eq_true rfl) ?_
  refine zaload_n dX9_learns_0 rfl ?_
  refine ziload_n dX9_learns_1 rfl ?_
  refine zcVf ob_Mo gk_X9_48 dX9_learns_2 (c_X9_isOne hM) rfl (by decide) (Nat.le_of_ble_eq_true rfl) ?_ rfl
  refine zifb_eq (tgt := 16) dX9_learns_5 (by decide) (fun h5 => ?_) (fun h5 => ?_)
  · refine zaload_n dX9_learns_16 rfl ?_
    refine ziconst (v := -1) dX9_learns_17 (by decide) ?_
    refine zcVf ob_Mo gk_X9_38 dX9_learns_18 (c_X9_no isE_1) rfl (by decide) (Nat.le_of_ble_eq_true rfl) ?_ rfl
    first
    | exact zireturn dX9_learns_21 rfl rfl ⟨_, rfl, qM_no (by rw [pF_yes h5, pF_1 h13]; rfl) isE_1 hR⟩
    | exact zireturn dX9_learns_21 rfl rfl ⟨_, rfl, qM_no (by rw [pF_1 h5, fO_1]) isE_1 hR⟩
  · refine zaload_n dX9_learns_8 rfl ?_
    refine ziload_n dX9_learns_9 rfl ?_
    refine zcVf ob_Mo gk_X9_48 dX9_learns_10 (c_X9_isOne hM) rfl (by decide) (Nat.le_of_ble_eq_true rfl) ?_ rfl
    refine zifb_ne (tgt := 22) dX9_learns_13 (by decide) (fun h13 => ?_) (fun h13 => ?_)
    · have he : fO (pF (sN σ) a) (pF (sN σ) b) = 0 := by rw [pF_yes h5, pF_yes h13]; rfl
      obtain ⟨h1, h2⟩ := fO_0 he
      obtain ⟨i, hi, rfl⟩ := pF_of (by omega) h1
      have hM1 := isM_put (j := 2) (p := i) (v := (sT σ) 3 i ^^^ (1 <<< (b &&& 31))) hM rfl (by decide)
      have hM0 := hM
      refine zaload_n dX9_learns_22 rfl ?_
      refine gf_X9_9 rfl dX9_learns_23 ?_
      refine ziload_n dX9_learns_26 rfl ?_
      refine ziconst (v := nI 2) dX9_learns_27 (by decide) ?_
      refine zcSf gk_X9_52 dX9_learns_28 (c_X9_of (j := 2)) rfl (by decide) (Nat.le_of_ble_eq_true rfl) ?_ rfl
      refine zdup2_11 dX9_learns_31 rfl rfl ?_
      refine zialM (k := 1) (j := 2) (w := 3) dX9_learns_32 hr1 hM rfl (by decide) (by omega) ?_
      refine ziconst (v := 1) dX9_learns_33 (by decide) ?_
      refine ziload_n dX9_learns_34 rfl ?_
      refine zishl dX9_learns_35 ?_
      refine zixor dX9_learns_36 ?_
      refine ziast dX9_learns_37 (mrk hr1.2) (mrl hr1.1 hr1.2) (by decide) (by omega) ?_
      have hM := hM1
      refine zaload_n dX9_learns_38 rfl ?_
      refine gf_X9_9 rfl dX9_learns_39 ?_
      refine ziload_n dX9_learns_42 rfl ?_
      refine ziconst (v := nI 2) dX9_learns_43 (by decide) ?_
      refine zcSf gk_X9_52 dX9_learns_44 (c_X9_of (j := 2)) rfl (by decide) (Nat.le_of_ble_eq_true rfl) ?_ rfl
      refine zialM (k := 1) (j := 2) (w := 3) dX9_learns_47 hr1 hM rfl (by decide) (by omega) ?_
      refine ziload_n dX9_learns_48 rfl ?_
      refine zishr dX9_learns_49 ?_
      refine ziconst (v := 1) dX9_learns_50 (by decide) ?_
      refine ziand dX9_learns_51 ?_
      exact zireturn dX9_learns_52 rfl rfl ⟨_, rfl, qM_ok he (by rw [nI_clamp (n := i) (by omega)]; rfl) (by unfold setT; rw [nI_clamp (n := i) (by omega)]; exact hR.now hM1 (by dsimp only; rw [u2_ne (by omega)]; exact hR.2.1) (frM.put frM.rf))⟩
    · refine zaload_n dX9_learns_16 rfl ?_
      refine ziconst (v := -1) dX9_learns_17 (by decide) ?_
      refine zcVf ob_Mo gk_X9_38 dX9_learns_18 (c_X9_no isE_1) rfl (by decide) (Nat.le_of_ble_eq_true rfl) ?_ rfl
      first
      | exact zireturn dX9_learns_21 rfl rfl ⟨_, rfl, qM_no (by rw [pF_yes h5, pF_1 h13]; rfl) isE_1 hR⟩
      | exact zireturn dX9_learns_21 rfl rfl ⟨_, rfl, qM_no (by rw [pF_1 h5, fO_1]) isE_1 hR⟩
set_option maxRecDepth 100000 in
set_option maxHeartbeats 4000000 in
theorem c_X8_becomes (hR : RepC σ S) (hW : WS σ) (f w v : Int32) : zR x true mX8_becomes [.ref (zad x 0), .int f, .int w, .int v] S (qC (fO (pF (sN σ) f) (fO (whF w 2) (rgF v 0 99))) ((sT σ) (w.toNatClampNeg + 5) f.toNatClampNeg) σ (setT σ (u2 (sT σ) (w.toNatClampNeg + 5) f.toNatClampNeg v))) := by
  have hT := hR.1
  have hn8 : sN σ ≤ 8 := hT.2.1
  refine zC_of (by decide +kernel) (Nat.le_of_ble_eq_true rfl) ?_
  by_cases he : fO (pF (sN σ) f) (fO (whF w 2) (rgF v 0 99)) = 0
  · obtain ⟨h1, h23⟩ := fO_0 he
    obtain ⟨h2, h3⟩ := fO_0 h23
    obtain ⟨i, hi, rfl⟩ := pF_of (by omega) h1
    obtain ⟨j, hj, rfl⟩ := whF_of (k := 2) (by decide) h2
    rcases (show j = 0 ∨ j = 1 by omega) with rfl | rfl
    · refine zaload_n dX8_becomes_0 rfl ?_
      refine ziload_n dX8_becomes_1 rfl ?_
      refine zcVf ob_X gk_X8_96 dX8_becomes_2 (c_X8_personFault hT) rfl (by decide) (Nat.le_of_ble_eq_true rfl) ?_ rfl
      refine ziload_n dX8_becomes_5 rfl ?_
      refine ziconst (v := 2) dX8_becomes_6 (by decide) ?_
      refine zcSf  gk_X8_99 dX8_becomes_7 c_X8_whatFault rfl (by decide) (Nat.le_of_ble_eq_true rfl) ?_ rfl
      refine ziload_n dX8_becomes_10 rfl ?_
      refine ziconst (v := 0) dX8_becomes_11 (by decide) ?_
      refine zbipush (v := 99) dX8_becomes_12 (by decide) ?_
      refine zcSf  gk_X8_73 dX8_becomes_14 c_X8_rangeFault rfl (by decide) (Nat.le_of_ble_eq_true rfl) ?_ rfl
      refine zcSf  gk_X8_154 dX8_becomes_17 c_X8_firstOfThree rfl (by decide) (Nat.le_of_ble_eq_true rfl) ?_ rfl
      refine zistore dX8_becomes_20 (by decide) rfl ?_
      refine ziload dX8_becomes_22 rfl ?_
      refine zif_eq (tgt := 34) dX8_becomes_24 (by decide) (fun _ => ?_) (fun h => absurd he h)
      refine ziload_n dX8_becomes_34 rfl ?_
      refine zif_ne (tgt := 48) dX8_becomes_35 (by decide) (fun h => absurd rfl h) (fun _ => ?_)
      refine zaload_n dX8_becomes_38 rfl ?_
      refine gf_X8_30 rfl dX8_becomes_39 ?_
      refine gf_X8_157 (t := 0) (by decide) rfl dX8_becomes_42 ?_
      refine zgoto (tgt := 55) dX8_becomes_45 (by decide) ?_
      refine zastore dX8_becomes_55 (by decide) rfl ?_
      refine zaload dX8_becomes_57 rfl ?_
      refine ziload_n dX8_becomes_59 rfl ?_
      refine zialT (t := 0) (w := 5) dX8_becomes_60 (by decide) hT (by decide) (by decide) (by omega) ?_
      refine zistore dX8_becomes_61 (by decide) rfl ?_
      refine zaload dX8_becomes_63 rfl ?_
      refine ziload_n dX8_becomes_65 rfl ?_
      refine ziload_n dX8_becomes_66 rfl ?_
      refine ziast dX8_becomes_67 (tpk (by decide) (by decide)) (tpa (by decide) (by decide) (by decide)) (by decide) (by omega) ?_
      refine ziload dX8_becomes_68 rfl ?_
      exact zireturn dX8_becomes_70 rfl rfl ⟨_, rfl, qC_ok he (by rw [nI_clamp (n := i) (by omega)]; rfl) (by unfold setT; rw [nI_clamp (n := i) (by omega)]; exact hR.now (isT_put (w := 5) hT) hR.2.1 (frT.put frT.rf (by decide) (by decide)))⟩
    · refine zaload_n dX8_becomes_0 rfl ?_
      refine ziload_n dX8_becomes_1 rfl ?_
      refine zcVf ob_X gk_X8_96 dX8_becomes_2 (c_X8_personFault hT) rfl (by decide) (Nat.le_of_ble_eq_true rfl) ?_ rfl
      refine ziload_n dX8_becomes_5 rfl ?_
      refine ziconst (v := 2) dX8_becomes_6 (by decide) ?_
      refine zcSf  gk_X8_99 dX8_becomes_7 c_X8_whatFault rfl (by decide) (Nat.le_of_ble_eq_true rfl) ?_ rfl
      refine ziload_n dX8_becomes_10 rfl ?_
      refine ziconst (v := 0) dX8_becomes_11 (by decide) ?_
      refine zbipush (v := 99) dX8_becomes_12 (by decide) ?_
      refine zcSf  gk_X8_73 dX8_becomes_14 c_X8_rangeFault rfl (by decide) (Nat.le_of_ble_eq_true rfl) ?_ rfl
      refine zcSf  gk_X8_154 dX8_becomes_17 c_X8_firstOfThree rfl (by decide) (Nat.le_of_ble_eq_true rfl) ?_ rfl
      refine zistore dX8_becomes_20 (by decide) rfl ?_
      refine ziload dX8_becomes_22 rfl ?_
      refine zif_eq (tgt := 34) dX8_becomes_24 (by decide) (fun _ => ?_) (fun h => absurd he h)
      refine ziload_n dX8_becomes_34 rfl ?_
      refine zif_ne (tgt := 48) dX8_becomes_35 (by decide) (fun _ => ?_) (fun h => absurd h (by decide))
      refine zaload_n dX8_becomes_48 rfl ?_
      refine gf_X8_30 rfl dX8_becomes_49 ?_
      refine gf_X8_160 (t := 0) (by decide) rfl dX8_becomes_52 ?_
      refine zastore dX8_becomes_55 (by decide) rfl ?_
      refine zaload dX8_becomes_57 rfl ?_
      refine ziload_n dX8_becomes_59 rfl ?_
      refine zialT (t := 0) (w := 6) dX8_becomes_60 (by decide) hT (by decide) (by decide) (by omega) ?_
      refine zistore dX8_becomes_61 (by decide) rfl ?_
      refine zaload dX8_becomes_63 rfl ?_
      refine ziload_n dX8_becomes_65 rfl ?_
      refine ziload_n dX8_becomes_66 rfl ?_
      refine ziast dX8_becomes_67 (tpk (by decide) (by decide)) (tpa (by decide) (by decide) (by decide)) (by decide) (by omega) ?_
      refine ziload dX8_becomes_68 rfl ?_
      exact zireturn dX8_becomes_70 rfl rfl ⟨_, rfl, qC_ok he (by rw [nI_clamp (n := i) (by omega)]; rfl) (by unfold setT; rw [nI_clamp (n := i) (by omega)]; exact hR.now (isT_put (w := 6) hT) hR.2.1 (frT.put frT.rf (by decide) (by decide)))⟩
  · refine zaload_n dX8_becomes_0 rfl ?_
    refine ziload_n dX8_becomes_1 rfl ?_
    refine zcVf ob_X gk_X8_96 dX8_becomes_2 (c_X8_personFault hT) rfl (by decide) (Nat.le_of_ble_eq_true rfl) ?_ rfl
    refine ziload_n dX8_becomes_5 rfl ?_
    refine ziconst (v := 2) dX8_becomes_6 (by decide) ?_
    refine zcSf  gk_X8_99 dX8_becomes_7 c_X8_whatFault rfl (by decide) (Nat.le_of_ble_eq_true rfl) ?_ rfl
    refine ziload_n dX8_becomes_10 rfl ?_
    refine ziconst (v := 0) dX8_becomes_11 (by decide) ?_
    refine zbipush (v := 99) dX8_becomes_12 (by decide) ?_
    refine zcSf  gk_X8_73 dX8_becomes_14 c_X8_rangeFault rfl (by decide) (Nat.le_of_ble_eq_true rfl) ?_ rfl
    refine zcSf  gk_X8_154 dX8_becomes_17 c_X8_firstOfThree rfl (by decide) (Nat.le_of_ble_eq_true rfl) ?_ rfl
    refine zistore dX8_becomes_20 (by decide) rfl ?_
    refine ziload dX8_becomes_22 rfl ?_
    refine zif_eq (tgt := 34) dX8_becomes_24 (by decide) (fun h => absurd h he) (fun _ => ?_)
    refine zaload_n dX8_becomes_27 rfl ?_
    refine ziload dX8_becomes_28 rfl ?_
    refine zcVf ob_X gk_X8_77 dX8_becomes_30 (c_X8_refuse (okE.e (okE_fO (okE_pF _ _) (okE_fO (okE_whF _ _) (okE_rgF _ _ _))) he)) rfl (by decide) (Nat.le_of_ble_eq_true rfl) ?_ rfl
    exact zireturn dX8_becomes_33 rfl rfl ⟨_, rfl, qC_no rfl (okE.e (okE_fO (okE_pF _ _) (okE_fO (okE_whF _ _) (okE_rgF _ _ _))) he) hR⟩
set_option maxRecDepth 100000 in
set_option maxHeartbeats 4000000 in
theorem c_X9_becomes (hR : RepM σ S) (hW : WS σ) (f w v : Int32) : zR x false mX9_becomes [.ref (zad x 0), .int f, .int w, .int v] S (qM (fO (pF (sN σ) f) (fO (whF w 2) (rgF v 0 99))) ((sT σ) (w.toNatClampNeg + 5) f.toNatClampNeg) σ (setT σ (u2 (sT σ) (w.toNatClampNeg + 5) f.toNatClampNeg v))) := by
  have hM := hR.1
  have hn8 : sN σ ≤ 8 := hM.2.1
  refine zC_of (by decide +kernel) (Nat.le_of_ble_eq_true rfl) ?_
  by_cases he : fO (pF (sN σ) f) (fO (whF w 2) (rgF v 0 99)) = 0
  · obtain ⟨h1, h23⟩ := fO_0 he
    obtain ⟨h2, h3⟩ := fO_0 h23
    have h1p := pF_0 h1
    obtain ⟨i, hi, rfl⟩ := pF_of (by omega) h1
    obtain ⟨j, hj, rfl⟩ := whF_of (k := 2) (by decide) h2
    rcases (show j = 0 ∨ j = 1 by omega) with rfl | rfl
    · refine zaload_n dX9_becomes_0 rfl ?_
      refine ziload_n dX9_becomes_1 rfl ?_
      refine zcVf ob_Mo gk_X9_48 dX9_becomes_2 (c_X9_isOne hM) rfl (by decide) (Nat.le_of_ble_eq_true rfl) ?_ rfl
      refine zifb_ne (tgt := 12) dX9_becomes_5 (by decide) (fun _ => ?_) (fun h => absurd (h.symm.trans h1p) (by decide))
      refine ziload_n dX9_becomes_12 rfl ?_
      refine ziconst (v := 0) dX9_becomes_13 (by decide) ?_
      refine ziconst (v := 1) dX9_becomes_14 (by decide) ?_
      refine zcSf  gk_X9_44 dX9_becomes_15 c_isIn_1 rfl (by decide) (Nat.le_of_ble_eq_true rfl) ?_ rfl
      refine zifb_eq (tgt := 30) dX9_becomes_18 (by decide) (fun h => absurd (h.symm.trans (decide_eq_true h2)) (by decide)) (fun _ => ?_)
      refine ziload_n dX9_becomes_21 rfl ?_
      refine zbipush (v := 99) dX9_becomes_22 (by decide) ?_
      refine zcSf  gk_X9_150 dX9_becomes_24 c_wrongBy rfl (by decide) (Nat.le_of_ble_eq_true rfl) ?_ rfl
      refine zgoto (tgt := 32) dX9_becomes_27 (by decide) ?_
      refine zistore dX9_becomes_32 (by decide) rfl ?_
      refine ziload dX9_becomes_34 rfl ?_
      refine zif_eq (tgt := 46) dX9_becomes_36 (by decide) (fun _ => ?_) (fun h => absurd h3 h)
      refine zaload_n dX9_becomes_46 rfl ?_
      refine gf_X9_9 rfl dX9_becomes_47 ?_
      refine ziload_n dX9_becomes_50 rfl ?_
      refine ziconst (v := 4) dX9_becomes_51 (by decide) ?_
      refine ziload_n dX9_becomes_52 rfl ?_
      refine ziadd dX9_becomes_53 ?_
      rw [show (4 : Int32) + nI 0 = nI 4 from rfl]
      refine zcSf  gk_X9_52 dX9_becomes_54 (c_X9_of (j := 4)) rfl (by decide) (Nat.le_of_ble_eq_true rfl) ?_ rfl
      refine zialM (k := 1) (j := 4) (w := 5) dX9_becomes_57 hr1 hM rfl (by decide) (by omega) ?_
      refine zistore dX9_becomes_58 (by decide) rfl ?_
      refine zaload_n dX9_becomes_60 rfl ?_
      refine gf_X9_9 rfl dX9_becomes_61 ?_
      refine ziload_n dX9_becomes_64 rfl ?_
      refine ziconst (v := 4) dX9_becomes_65 (by decide) ?_
      refine ziload_n dX9_becomes_66 rfl ?_
      refine ziadd dX9_becomes_67 ?_
      rw [show (4 : Int32) + nI 0 = nI 4 from rfl]
      refine zcSf  gk_X9_52 dX9_becomes_68 (c_X9_of (j := 4)) rfl (by decide) (Nat.le_of_ble_eq_true rfl) ?_ rfl
      refine ziload_n dX9_becomes_71 rfl ?_
      refine ziast dX9_becomes_72 (mrk hr1.2) (mrl hr1.1 hr1.2) (by decide) (by omega) ?_
      refine ziload dX9_becomes_73 rfl ?_
      exact zireturn dX9_becomes_75 rfl rfl ⟨_, rfl, qM_ok he (by rw [nI_clamp (n := i) (by omega)]; rfl) (by unfold setT; rw [nI_clamp (n := i) (by omega)]; exact hR.now (isM_put (j := 4) (w := 5) hM rfl (by decide)) (by dsimp only; rw [u2_ne (by omega)]; exact hR.2.1) (frM.put frM.rf))⟩
    · refine zaload_n dX9_becomes_0 rfl ?_
      refine ziload_n dX9_becomes_1 rfl ?_
      refine zcVf ob_Mo gk_X9_48 dX9_becomes_2 (c_X9_isOne hM) rfl (by decide) (Nat.le_of_ble_eq_true rfl) ?_ rfl
      refine zifb_ne (tgt := 12) dX9_becomes_5 (by decide) (fun _ => ?_) (fun h => absurd (h.symm.trans h1p) (by decide))
      refine ziload_n dX9_becomes_12 rfl ?_
      refine ziconst (v := 0) dX9_becomes_13 (by decide) ?_
      refine ziconst (v := 1) dX9_becomes_14 (by decide) ?_
      refine zcSf  gk_X9_44 dX9_becomes_15 c_isIn_1 rfl (by decide) (Nat.le_of_ble_eq_true rfl) ?_ rfl
      refine zifb_eq (tgt := 30) dX9_becomes_18 (by decide) (fun h => absurd (h.symm.trans (decide_eq_true h2)) (by decide)) (fun _ => ?_)
      refine ziload_n dX9_becomes_21 rfl ?_
      refine zbipush (v := 99) dX9_becomes_22 (by decide) ?_
      refine zcSf  gk_X9_150 dX9_becomes_24 c_wrongBy rfl (by decide) (Nat.le_of_ble_eq_true rfl) ?_ rfl
      refine zgoto (tgt := 32) dX9_becomes_27 (by decide) ?_
      refine zistore dX9_becomes_32 (by decide) rfl ?_
      refine ziload dX9_becomes_34 rfl ?_
      refine zif_eq (tgt := 46) dX9_becomes_36 (by decide) (fun _ => ?_) (fun h => absurd h3 h)
      refine zaload_n dX9_becomes_46 rfl ?_
      refine gf_X9_9 rfl dX9_becomes_47 ?_
      refine ziload_n dX9_becomes_50 rfl ?_
      refine ziconst (v := 4) dX9_becomes_51 (by decide) ?_
      refine ziload_n dX9_becomes_52 rfl ?_
      refine ziadd dX9_becomes_53 ?_
      rw [show (4 : Int32) + nI 1 = nI 5 from rfl]
      refine zcSf  gk_X9_52 dX9_becomes_54 (c_X9_of (j := 5)) rfl (by decide) (Nat.le_of_ble_eq_true rfl) ?_ rfl
      refine zialM (k := 1) (j := 5) (w := 6) dX9_becomes_57 hr1 hM rfl (by decide) (by omega) ?_
      refine zistore dX9_becomes_58 (by decide) rfl ?_
      refine zaload_n dX9_becomes_60 rfl ?_
      refine gf_X9_9 rfl dX9_becomes_61 ?_
      refine ziload_n dX9_becomes_64 rfl ?_
      refine ziconst (v := 4) dX9_becomes_65 (by decide) ?_
      refine ziload_n dX9_becomes_66 rfl ?_
      refine ziadd dX9_becomes_67 ?_
      rw [show (4 : Int32) + nI 1 = nI 5 from rfl]
      refine zcSf  gk_X9_52 dX9_becomes_68 (c_X9_of (j := 5)) rfl (by decide) (Nat.le_of_ble_eq_true rfl) ?_ rfl
      refine ziload_n dX9_becomes_71 rfl ?_
      refine ziast dX9_becomes_72 (mrk hr1.2) (mrl hr1.1 hr1.2) (by decide) (by omega) ?_
      refine ziload dX9_becomes_73 rfl ?_
      exact zireturn dX9_becomes_75 rfl rfl ⟨_, rfl, qM_ok he (by rw [nI_clamp (n := i) (by omega)]; rfl) (by unfold setT; rw [nI_clamp (n := i) (by omega)]; exact hR.now (isM_put (j := 5) (w := 6) hM rfl (by decide)) (by dsimp only; rw [u2_ne (by omega)]; exact hR.2.1) (frM.put frM.rf))⟩
  · refine zaload_n dX9_becomes_0 rfl ?_
    refine ziload_n dX9_becomes_1 rfl ?_
    refine zcVf ob_Mo gk_X9_48 dX9_becomes_2 (c_X9_isOne hM) rfl (by decide) (Nat.le_of_ble_eq_true rfl) ?_ rfl
    refine zifb_ne (tgt := 12) dX9_becomes_5 (by decide) (fun h5 => ?_) (fun h5 => ?_)
    · refine ziload_n dX9_becomes_12 rfl ?_
      refine ziconst (v := 0) dX9_becomes_13 (by decide) ?_
      refine ziconst (v := 1) dX9_becomes_14 (by decide) ?_
      refine zcSf  gk_X9_44 dX9_becomes_15 c_isIn_1 rfl (by decide) (Nat.le_of_ble_eq_true rfl) ?_ rfl
      refine zifb_eq (tgt := 30) dX9_becomes_18 (by decide) (fun h18 => ?_) (fun h18 => ?_)
      · refine zbipush (v := -2) dX9_becomes_30 (by decide) ?_
        refine zistore dX9_becomes_32 (by decide) rfl ?_
        refine ziload dX9_becomes_34 rfl ?_
        refine zif_eq (tgt := 46) dX9_becomes_36 (by decide) (fun h => absurd h (isE.ne isE_2)) (fun _ => ?_)
        refine zaload_n dX9_becomes_39 rfl ?_
        refine ziload dX9_becomes_40 rfl ?_
        refine zcVf ob_Mo gk_X9_38 dX9_becomes_42 (c_X9_no isE_2) rfl (by decide) (Nat.le_of_ble_eq_true rfl) ?_ rfl
        exact zireturn dX9_becomes_45 rfl rfl ⟨_, rfl, qM_no (by rw [pF_yes h5, whF_2 (of_decide_eq_false h18)]; rfl) isE_2 hR⟩
      · refine ziload_n dX9_becomes_21 rfl ?_
        refine zbipush (v := 99) dX9_becomes_22 (by decide) ?_
        refine zcSf  gk_X9_150 dX9_becomes_24 c_wrongBy rfl (by decide) (Nat.le_of_ble_eq_true rfl) ?_ rfl
        refine zgoto (tgt := 32) dX9_becomes_27 (by decide) ?_
        refine zistore dX9_becomes_32 (by decide) rfl ?_
        refine ziload dX9_becomes_34 rfl ?_
        refine zif_eq (tgt := 46) dX9_becomes_36 (by decide) (fun h => absurd h (isE.ne (okE.e (okE_rgF v 0 99) (fun z => he (by rw [pF_yes h5, of_decide_eq_true h18, z]; rfl))))) (fun _ => ?_)
        refine zaload_n dX9_becomes_39 rfl ?_
        refine ziload dX9_becomes_40 rfl ?_
        refine zcVf ob_Mo gk_X9_38 dX9_becomes_42 (c_X9_no (okE.e (okE_rgF v 0 99) (fun z => he (by rw [pF_yes h5, of_decide_eq_true h18, z]; rfl)))) rfl (by decide) (Nat.le_of_ble_eq_true rfl) ?_ rfl
        exact zireturn dX9_becomes_45 rfl rfl ⟨_, rfl, qM_no (by rw [pF_yes h5, of_decide_eq_true h18]; rfl) (okE.e (okE_rgF v 0 99) (fun z => he (by rw [pF_yes h5, of_decide_eq_true h18, z]; rfl))) hR⟩
    · refine ziconst (v := -1) dX9_becomes_8 (by decide) ?_
      refine zgoto (tgt := 32) dX9_becomes_9 (by decide) ?_
      refine zistore dX9_becomes_32 (by decide) rfl ?_
      refine ziload dX9_becomes_34 rfl ?_
      refine zif_eq (tgt := 46) dX9_becomes_36 (by decide) (fun h => absurd h (isE.ne isE_1)) (fun _ => ?_)
      refine zaload_n dX9_becomes_39 rfl ?_
      refine ziload dX9_becomes_40 rfl ?_
      refine zcVf ob_Mo gk_X9_38 dX9_becomes_42 (c_X9_no isE_1) rfl (by decide) (Nat.le_of_ble_eq_true rfl) ?_ rfl
      exact zireturn dX9_becomes_45 rfl rfl ⟨_, rfl, qM_no (by rw [pF_1 h5, fO_1]) isE_1 hR⟩
set_option maxRecDepth 100000 in
set_option maxHeartbeats 4000000 in
theorem c_X8_turn (hR : RepC σ S) (hW : WS σ) (p k g : Int32) : zR x true mX8_turn [.ref (zad x 0), .int p, .int k, .int g] S (qC (fO (pF (sN σ) p) (fO (whF k 6) (rgF g 0 9))) (10 * (sT σ) 1 p.toNatClampNeg + (sT σ) 2 p.toNatClampNeg) σ (setT σ (u2 (u2 (sT σ) 1 p.toNatClampNeg k) 2 p.toNatClampNeg g))) := by
  have hT := hR.1
  have hn8 : sN σ ≤ 8 := hT.2.1
  refine zC_of (by decide +kernel) (Nat.le_of_ble_eq_true rfl) ?_
  by_cases he : fO (pF (sN σ) p) (fO (whF k 6) (rgF g 0 9)) = 0
  · obtain ⟨h1, h23⟩ := fO_0 he
    obtain ⟨h2, h3⟩ := fO_0 h23
    have h1p := pF_0 h1
    obtain ⟨i, hi, rfl⟩ := pF_of (by omega) h1
    refine zaload_n dX8_turn_0 rfl ?_
    refine ziload_n dX8_turn_1 rfl ?_
    refine zcVf ob_X gk_X8_96 dX8_turn_2 (c_X8_personFault hT) rfl (by decide) (Nat.le_of_ble_eq_true rfl) ?_ rfl
    refine ziload_n dX8_turn_5 rfl ?_
    refine zbipush (v := 6) dX8_turn_6 (by decide) ?_
    refine zcSf  gk_X8_99 dX8_turn_8 c_X8_whatFault rfl (by decide) (Nat.le_of_ble_eq_true rfl) ?_ rfl
    refine ziload_n dX8_turn_11 rfl ?_
    refine ziconst (v := 0) dX8_turn_12 (by decide) ?_
    refine zbipush (v := 9) dX8_turn_13 (by decide) ?_
    refine zcSf  gk_X8_73 dX8_turn_15 c_X8_rangeFault rfl (by decide) (Nat.le_of_ble_eq_true rfl) ?_ rfl
    refine zcSf  gk_X8_154 dX8_turn_18 c_X8_firstOfThree rfl (by decide) (Nat.le_of_ble_eq_true rfl) ?_ rfl
    refine zistore dX8_turn_21 (by decide) rfl ?_
    refine ziload dX8_turn_23 rfl ?_
    refine zif_eq (tgt := 35) dX8_turn_25 (by decide) (fun _ => ?_) (fun h => absurd he h)
    refine zbipush (v := 10) dX8_turn_35 (by decide) ?_
    refine zaload_n dX8_turn_37 rfl ?_
    refine gf_X8_30 rfl dX8_turn_38 ?_
    refine gf_X8_106 (t := 0) (by decide) rfl dX8_turn_41 ?_
    refine ziload_n dX8_turn_44 rfl ?_
    refine zialT (t := 0) (w := 1) dX8_turn_45 (by decide) hT (by decide) (by decide) (by omega) ?_
    refine zimul dX8_turn_46 ?_
    refine zaload_n dX8_turn_47 rfl ?_
    refine gf_X8_30 rfl dX8_turn_48 ?_
    refine gf_X8_109 (t := 0) (by decide) rfl dX8_turn_51 ?_
    refine ziload_n dX8_turn_54 rfl ?_
    refine zialT (t := 0) (w := 2) dX8_turn_55 (by decide) hT (by decide) (by decide) (by omega) ?_
    refine ziadd dX8_turn_56 ?_
    refine zistore dX8_turn_57 (by decide) rfl ?_
    refine zaload_n dX8_turn_59 rfl ?_
    refine gf_X8_30 rfl dX8_turn_60 ?_
    refine gf_X8_106 (t := 0) (by decide) rfl dX8_turn_63 ?_
    refine ziload_n dX8_turn_66 rfl ?_
    refine ziload_n dX8_turn_67 rfl ?_
    refine ziast dX8_turn_68 (tpk (by decide) (by decide)) (tpa (by decide) (by decide) (by decide)) (by decide) (by omega) ?_
    have hT1 := isT_put (w := 1) (p := i) (v := k) hT
    refine zaload_n dX8_turn_69 rfl ?_
    refine gf_X8_30 rfl dX8_turn_70 ?_
    refine gf_X8_109 (t := 0) (by decide) rfl dX8_turn_73 ?_
    refine ziload_n dX8_turn_76 rfl ?_
    refine ziload_n dX8_turn_77 rfl ?_
    refine ziast dX8_turn_78 (tpk (by decide) (by decide)) (tpa (by decide) (by decide) (by decide)) (by decide) (by omega) ?_
    refine ziload dX8_turn_79 rfl ?_
    exact zireturn dX8_turn_81 rfl rfl ⟨_, rfl, qC_ok he (by rw [nI_clamp (n := i) (by omega)]) (by unfold setT; rw [nI_clamp (n := i) (by omega)]; exact hR.now (isT_put (S := (u2 S.1 (tp 0 + 1) i k, S.2)) hT1) hR.2.1 (frT.put (S := (u2 S.1 (tp 0 + 1) i k, S.2)) (frT.put frT.rf (by decide) (by decide)) (by decide) (by decide)))⟩
  · refine zaload_n dX8_turn_0 rfl ?_
    refine ziload_n dX8_turn_1 rfl ?_
    refine zcVf ob_X gk_X8_96 dX8_turn_2 (c_X8_personFault hT) rfl (by decide) (Nat.le_of_ble_eq_true rfl) ?_ rfl
    refine ziload_n dX8_turn_5 rfl ?_
    refine zbipush (v := 6) dX8_turn_6 (by decide) ?_
    refine zcSf  gk_X8_99 dX8_turn_8 c_X8_whatFault rfl (by decide) (Nat.le_of_ble_eq_true rfl) ?_ rfl
    refine ziload_n dX8_turn_11 rfl ?_
    refine ziconst (v := 0) dX8_turn_12 (by decide) ?_
    refine zbipush (v := 9) dX8_turn_13 (by decide) ?_
    refine zcSf  gk_X8_73 dX8_turn_15 c_X8_rangeFault rfl (by decide) (Nat.le_of_ble_eq_true rfl) ?_ rfl
    refine zcSf  gk_X8_154 dX8_turn_18 c_X8_firstOfThree rfl (by decide) (Nat.le_of_ble_eq_true rfl) ?_ rfl
    refine zistore dX8_turn_21 (by decide) rfl ?_
    refine ziload dX8_turn_23 rfl ?_
    refine zif_eq (tgt := 35) dX8_turn_25 (by decide) (fun h => absurd h he) (fun _ => ?_)
    refine zaload_n dX8_turn_28 rfl ?_
    refine ziload dX8_turn_29 rfl ?_
    refine zcVf ob_X gk_X8_77 dX8_turn_31 (c_X8_refuse (okE.e (okE_fO (okE_pF _ _) (okE_fO (okE_whF _ _) (okE_rgF _ _ _))) he)) rfl (by decide) (Nat.le_of_ble_eq_true rfl) ?_ rfl
    exact zireturn dX8_turn_34 rfl rfl ⟨_, rfl, qC_no rfl (okE.e (okE_fO (okE_pF _ _) (okE_fO (okE_whF _ _) (okE_rgF _ _ _))) he) hR⟩
set_option maxRecDepth 100000 in
set_option maxHeartbeats 4000000 in
theorem c_X9_turn (hR : RepM σ S) (hW : WS σ) (p k g : Int32) : zR x false mX9_turn [.ref (zad x 0), .int p, .int k, .int g] S (qM (fO (pF (sN σ) p) (fO (whF k 6) (rgF g 0 9))) (10 * (sT σ) 1 p.toNatClampNeg + (sT σ) 2 p.toNatClampNeg) σ (setT σ (u2 (u2 (sT σ) 1 p.toNatClampNeg k) 2 p.toNatClampNeg g))) := by
  have hM := hR.1
  have hn8 : sN σ ≤ 8 := hM.2.1
  refine zC_of (by decide +kernel) (Nat.le_of_ble_eq_true rfl) ?_
  by_cases he : fO (pF (sN σ) p) (fO (whF k 6) (rgF g 0 9)) = 0
  · obtain ⟨h1, h23⟩ := fO_0 he
    obtain ⟨h2, h3⟩ := fO_0 h23
    have h1p := pF_0 h1
    obtain ⟨i, hi, rfl⟩ := pF_of (by omega) h1
    refine zaload_n dX9_turn_0 rfl ?_
    refine ziload_n dX9_turn_1 rfl ?_
    refine zcVf ob_Mo gk_X9_48 dX9_turn_2 (c_X9_isOne hM) rfl (by decide) (Nat.le_of_ble_eq_true rfl) ?_ rfl
    refine zifb_ne (tgt := 12) dX9_turn_5 (by decide) (fun _ => ?_) (fun h => absurd (h.symm.trans h1p) (by decide))
    refine ziload_n dX9_turn_12 rfl ?_
    refine ziconst (v := 0) dX9_turn_13 (by decide) ?_
    refine ziconst (v := 5) dX9_turn_14 (by decide) ?_
    refine zcSf  gk_X9_44 dX9_turn_15 c_isIn_5 rfl (by decide) (Nat.le_of_ble_eq_true rfl) ?_ rfl
    refine zifb_ne (tgt := 26) dX9_turn_18 (by decide) (fun _ => ?_) (fun h => absurd (h.symm.trans (decide_eq_true h2)) (by decide))
    refine ziload_n dX9_turn_26 rfl ?_
    refine zbipush (v := 9) dX9_turn_27 (by decide) ?_
    refine zcSf  gk_X9_150 dX9_turn_29 c_wrongBy rfl (by decide) (Nat.le_of_ble_eq_true rfl) ?_ rfl
    refine zistore dX9_turn_32 (by decide) rfl ?_
    refine ziload dX9_turn_34 rfl ?_
    refine zif_eq (tgt := 46) dX9_turn_36 (by decide) (fun _ => ?_) (fun h => absurd h3 h)
    refine zbipush (v := 10) dX9_turn_46 (by decide) ?_
    refine zaload_n dX9_turn_48 rfl ?_
    refine gf_X9_9 rfl dX9_turn_49 ?_
    refine ziload_n dX9_turn_52 rfl ?_
    refine ziconst (v := nI 0) dX9_turn_53 (by decide) ?_
    refine zcSf gk_X9_52 dX9_turn_54 (c_X9_of (j := 0)) rfl (by decide) (Nat.le_of_ble_eq_true rfl) ?_ rfl
    refine zialM (k := 1) (j := 0) (w := 1) dX9_turn_57 hr1 hM rfl (by decide) (by omega) ?_
    refine zimul dX9_turn_58 ?_
    refine zaload_n dX9_turn_59 rfl ?_
    refine gf_X9_9 rfl dX9_turn_60 ?_
    refine ziload_n dX9_turn_63 rfl ?_
    refine ziconst (v := nI 1) dX9_turn_64 (by decide) ?_
    refine zcSf gk_X9_52 dX9_turn_65 (c_X9_of (j := 1)) rfl (by decide) (Nat.le_of_ble_eq_true rfl) ?_ rfl
    refine zialM (k := 1) (j := 1) (w := 2) dX9_turn_68 hr1 hM rfl (by decide) (by omega) ?_
    refine ziadd dX9_turn_69 ?_
    refine zistore dX9_turn_70 (by decide) rfl ?_
    refine zaload_n dX9_turn_72 rfl ?_
    refine gf_X9_9 rfl dX9_turn_73 ?_
    refine ziload_n dX9_turn_76 rfl ?_
    refine ziconst (v := nI 0) dX9_turn_77 (by decide) ?_
    refine zcSf gk_X9_52 dX9_turn_78 (c_X9_of (j := 0)) rfl (by decide) (Nat.le_of_ble_eq_true rfl) ?_ rfl
    refine ziload_n dX9_turn_81 rfl ?_
    refine ziast dX9_turn_82 (mrk hr1.2) (mrl hr1.1 hr1.2) (by decide) (by omega) ?_
    refine zaload_n dX9_turn_83 rfl ?_
    refine gf_X9_9 rfl dX9_turn_84 ?_
    refine ziload_n dX9_turn_87 rfl ?_
    refine ziconst (v := nI 1) dX9_turn_88 (by decide) ?_
    refine zcSf gk_X9_52 dX9_turn_89 (c_X9_of (j := 1)) rfl (by decide) (Nat.le_of_ble_eq_true rfl) ?_ rfl
    refine ziload_n dX9_turn_92 rfl ?_
    refine ziast dX9_turn_93 (mrk hr1.2) (mrl hr1.1 hr1.2) (by decide) (by omega) ?_
    refine ziload dX9_turn_94 rfl ?_
    exact zireturn dX9_turn_96 rfl rfl ⟨_, rfl, qM_ok he (by rw [nI_clamp (n := i) (by omega)]) (by unfold setT; rw [nI_clamp (n := i) (by omega)]; exact hR.now (isM_put (S := (u2 S.1 1 (7 * i + 0 + 2) k, S.2)) (j := 1) (w := 2) (isM_put (j := 0) (w := 1) hM rfl (by decide)) rfl (by decide)) (by dsimp only; rw [u2_ne (by omega), u2_ne (by omega)]; exact hR.2.1) (frM.put (S := (u2 S.1 1 (7 * i + 0 + 2) k, S.2)) (frM.put frM.rf)))⟩
  · refine zaload_n dX9_turn_0 rfl ?_
    refine ziload_n dX9_turn_1 rfl ?_
    refine zcVf ob_Mo gk_X9_48 dX9_turn_2 (c_X9_isOne hM) rfl (by decide) (Nat.le_of_ble_eq_true rfl) ?_ rfl
    refine zifb_ne (tgt := 12) dX9_turn_5 (by decide) (fun h5 => ?_) (fun h5 => ?_)
    · refine ziload_n dX9_turn_12 rfl ?_
      refine ziconst (v := 0) dX9_turn_13 (by decide) ?_
      refine ziconst (v := 5) dX9_turn_14 (by decide) ?_
      refine zcSf  gk_X9_44 dX9_turn_15 c_isIn_5 rfl (by decide) (Nat.le_of_ble_eq_true rfl) ?_ rfl
      refine zifb_ne (tgt := 26) dX9_turn_18 (by decide) (fun h18 => ?_) (fun h18 => ?_)
      · refine ziload_n dX9_turn_26 rfl ?_
        refine zbipush (v := 9) dX9_turn_27 (by decide) ?_
        refine zcSf  gk_X9_150 dX9_turn_29 c_wrongBy rfl (by decide) (Nat.le_of_ble_eq_true rfl) ?_ rfl
        refine zistore dX9_turn_32 (by decide) rfl ?_
        refine ziload dX9_turn_34 rfl ?_
        refine zif_eq (tgt := 46) dX9_turn_36 (by decide) (fun h => absurd h (isE.ne (okE.e (okE_rgF g 0 9) (fun z => he (by rw [pF_yes h5, of_decide_eq_true h18, z]; rfl))))) (fun _ => ?_)
        refine zaload_n dX9_turn_39 rfl ?_
        refine ziload dX9_turn_40 rfl ?_
        refine zcVf ob_Mo gk_X9_38 dX9_turn_42 (c_X9_no (okE.e (okE_rgF g 0 9) (fun z => he (by rw [pF_yes h5, of_decide_eq_true h18, z]; rfl)))) rfl (by decide) (Nat.le_of_ble_eq_true rfl) ?_ rfl
        exact zireturn dX9_turn_45 rfl rfl ⟨_, rfl, qM_no (by rw [pF_yes h5, of_decide_eq_true h18]; rfl) (okE.e (okE_rgF g 0 9) (fun z => he (by rw [pF_yes h5, of_decide_eq_true h18, z]; rfl))) hR⟩
      · refine zbipush (v := -2) dX9_turn_21 (by decide) ?_
        refine zgoto (tgt := 32) dX9_turn_23 (by decide) ?_
        refine zistore dX9_turn_32 (by decide) rfl ?_
        refine ziload dX9_turn_34 rfl ?_
        refine zif_eq (tgt := 46) dX9_turn_36 (by decide) (fun h => absurd h (isE.ne isE_2)) (fun _ => ?_)
        refine zaload_n dX9_turn_39 rfl ?_
        refine ziload dX9_turn_40 rfl ?_
        refine zcVf ob_Mo gk_X9_38 dX9_turn_42 (c_X9_no isE_2) rfl (by decide) (Nat.le_of_ble_eq_true rfl) ?_ rfl
        exact zireturn dX9_turn_45 rfl rfl ⟨_, rfl, qM_no (by rw [pF_yes h5, whF_2 (of_decide_eq_false h18)]; rfl) isE_2 hR⟩
    · refine ziconst (v := -1) dX9_turn_8 (by decide) ?_
      refine zgoto (tgt := 32) dX9_turn_9 (by decide) ?_
      refine zistore dX9_turn_32 (by decide) rfl ?_
      refine ziload dX9_turn_34 rfl ?_
      refine zif_eq (tgt := 46) dX9_turn_36 (by decide) (fun h => absurd h (isE.ne isE_1)) (fun _ => ?_)
      refine zaload_n dX9_turn_39 rfl ?_
      refine ziload dX9_turn_40 rfl ?_
      refine zcVf ob_Mo gk_X9_38 dX9_turn_42 (c_X9_no isE_1) rfl (by decide) (Nat.le_of_ble_eq_true rfl) ?_ rfl
      exact zireturn dX9_turn_45 rfl rfl ⟨_, rfl, qM_no (by rw [pF_1 h5, fO_1]) isE_1 hR⟩
set_option maxRecDepth 100000 in
set_option maxHeartbeats 4000000 in
theorem c_X8_months (hR : RepC σ S) (hW : WS σ) (k : Int32) : zR x true mX8_months [.ref (zad x 0), .int k] S (qC (fO (rgF k 1 60) (moF (sMo σ) k)) (lentN (sN σ) (monthsT (sN σ) k.toNatClampNeg (sT σ))) σ (setTM σ (monthsT (sN σ) k.toNatClampNeg (sT σ)) (sMo σ + k))) := by
  have hT := hR.1
  have hn8 : sN σ ≤ 8 := hT.2.1
  refine zC_of (by decide +kernel) (Nat.le_of_ble_eq_true rfl) ?_
  by_cases he1 : rgF k 1 60 = 0
  · obtain ⟨j, hj1, hj2, rfl⟩ := rgF_of (a := 1) (c := 60) (by decide) (by decide) he1
    by_cases hc : 999 < sMo σ + nI j
    · refine ziload_n dX8_months_0 rfl ?_
      refine ziconst (v := 1) dX8_months_1 (by decide) ?_
      refine zbipush (v := 60) dX8_months_2 (by decide) ?_
      refine zcSf  gk_X8_73 dX8_months_4 c_X8_rangeFault rfl (by decide) (Nat.le_of_ble_eq_true rfl) ?_ rfl
      refine zistore_n dX8_months_7 (by decide) rfl ?_
      refine ziload_n dX8_months_8 rfl ?_
      refine zif_eq (tgt := 18) dX8_months_9 (by decide) (fun _ => ?_) (fun h => absurd he1 h)
      refine zaload_n dX8_months_18 rfl ?_
      refine gf_X8_30 rfl dX8_months_19 ?_
      refine gf_X8_163 (t := 0) (by decide) rfl dX8_months_22 ?_
      rw [hR.2.1]
      refine ziload_n dX8_months_25 rfl ?_
      refine ziadd dX8_months_26 ?_
      refine zsipush (v := 999) dX8_months_27 (by decide) ?_
      refine zicmp_le (tgt := 40) dX8_months_30 (by decide) (fun h => absurd h (Int32.not_le.mpr hc)) (fun _ => ?_)
      refine zaload_n dX8_months_33 rfl ?_
      refine zbipush (v := -6) dX8_months_34 (by decide) ?_
      refine zcVf ob_X gk_X8_77 dX8_months_36 (c_X8_refuse isE_6) rfl (by decide) (Nat.le_of_ble_eq_true rfl) ?_ rfl
      exact zireturn dX8_months_39 rfl rfl ⟨_, rfl, qC_no (by rw [he1]; unfold moF; rw [if_pos hc]; rfl) isE_6 hR⟩
    · have he : fO (rgF (nI j) 1 60) (moF (sMo σ) (nI j)) = 0 := by rw [he1]; unfold moF; rw [if_neg hc]; rfl
      refine ziload_n dX8_months_0 rfl ?_
      refine ziconst (v := 1) dX8_months_1 (by decide) ?_
      refine zbipush (v := 60) dX8_months_2 (by decide) ?_
      refine zcSf  gk_X8_73 dX8_months_4 c_X8_rangeFault rfl (by decide) (Nat.le_of_ble_eq_true rfl) ?_ rfl
      refine zistore_n dX8_months_7 (by decide) rfl ?_
      refine ziload_n dX8_months_8 rfl ?_
      refine zif_eq (tgt := 18) dX8_months_9 (by decide) (fun _ => ?_) (fun h => absurd he1 h)
      refine zaload_n dX8_months_18 rfl ?_
      refine gf_X8_30 rfl dX8_months_19 ?_
      refine gf_X8_163 (t := 0) (by decide) rfl dX8_months_22 ?_
      rw [hR.2.1]
      refine ziload_n dX8_months_25 rfl ?_
      refine ziadd dX8_months_26 ?_
      refine zsipush (v := 999) dX8_months_27 (by decide) ?_
      refine zicmp_le (tgt := 40) dX8_months_30 (by decide) (fun _ => ?_) (fun h => absurd (Int32.not_lt.mp hc) h)
      refine zaload_n dX8_months_40 rfl ?_
      refine gf_X8_30 rfl dX8_months_41 ?_
      refine ziload_n dX8_months_44 rfl ?_
      refine zcVn (ob_town (t := 0) (by decide)) gk_X8_166 dX8_months_45 (c_X7_goOn (by decide) hT hW.1.2.1.1 (K := j) (by omega)) rfl (by decide) (Nat.le_of_ble_eq_true rfl) (fun S2 hp2 => ?_) rfl
      obtain ⟨hT2, hV2, hm2, hf2⟩ := hp2
      refine zaload_n dX8_months_48 rfl ?_
      refine gf_X8_30 rfl dX8_months_49 ?_
      refine zcVf (ob_town (t := 0) (by decide)) gk_X8_138 dX8_months_52 (c_X7_lentFaces (by decide) hT2) rfl (by decide) (Nat.le_of_ble_eq_true rfl) ?_ rfl
      exact zireturn dX8_months_55 rfl rfl ⟨_, rfl, qC_ok he (by rw [nI_clamp (n := j) (by omega)]; rfl) (by unfold setTM; rw [nI_clamp (n := j) (by omega)]; exact hR.now hT2 (by rw [hm2, hR.2.1]) hf2)⟩
  · refine ziload_n dX8_months_0 rfl ?_
    refine ziconst (v := 1) dX8_months_1 (by decide) ?_
    refine zbipush (v := 60) dX8_months_2 (by decide) ?_
    refine zcSf  gk_X8_73 dX8_months_4 c_X8_rangeFault rfl (by decide) (Nat.le_of_ble_eq_true rfl) ?_ rfl
    refine zistore_n dX8_months_7 (by decide) rfl ?_
    refine ziload_n dX8_months_8 rfl ?_
    refine zif_eq (tgt := 18) dX8_months_9 (by decide) (fun h => absurd h he1) (fun _ => ?_)
    refine zaload_n dX8_months_12 rfl ?_
    refine ziload_n dX8_months_13 rfl ?_
    refine zcVf ob_X gk_X8_77 dX8_months_14 (c_X8_refuse (okE.e (okE_rgF _ _ _) he1)) rfl (by decide) (Nat.le_of_ble_eq_true rfl) ?_ rfl
    exact zireturn dX8_months_17 rfl rfl ⟨_, rfl, qC_no (by rw [fO_n he1]) (okE.e (okE_rgF _ _ _) he1) hR⟩
set_option maxRecDepth 100000 in
set_option maxHeartbeats 4000000 in
theorem c_X9_months (hR : RepM σ S) (hW : WS σ) (k : Int32) : zR x false mX9_months [.ref (zad x 0), .int k] S (qM (fO (rgF k 1 60) (moF (sMo σ) k)) (lentN (sN σ) (monthsT (sN σ) k.toNatClampNeg (sT σ))) σ (setTM σ (monthsT (sN σ) k.toNatClampNeg (sT σ)) (sMo σ + k))) := by
  have hM := hR.1
  have hn8 : sN σ ≤ 8 := hM.2.1
  refine zC_of (by decide +kernel) (Nat.le_of_ble_eq_true rfl) ?_
  refine ziload_n dX9_months_0 rfl ?_
  refine ziconst (v := 1) dX9_months_1 (by decide) ?_
  refine zicmp_ge (tgt := 12) dX9_months_2 (by decide) (fun h2 => ?_) (fun h2 => ?_)
  · refine ziload_n dX9_months_12 rfl ?_
    refine zbipush (v := 60) dX9_months_13 (by decide) ?_
    refine zicmp_gt (tgt := 32) dX9_months_15 (by decide) (fun h15 => ?_) (fun h15 => ?_)
    · refine zaload_n dX9_months_32 rfl ?_
      refine zbipush (v := -6) dX9_months_33 (by decide) ?_
      refine zcVf ob_Mo gk_X9_38 dX9_months_35 (c_X9_no isE_6) rfl (by decide) (Nat.le_of_ble_eq_true rfl) ?_ rfl
      first
      | exact zireturn dX9_months_38 rfl rfl ⟨_, rfl, qM_no (by rw [rgF_hi (Int32.not_lt.mpr h2) h15]; rfl) isE_6 hR⟩
      | exact zireturn dX9_months_38 rfl rfl ⟨_, rfl, qM_no (by rw [rgF_in (Int32.not_lt.mpr h2) h15]; unfold moF; rw [if_pos (Int32.not_le.mp h29)]; rfl) isE_6 hR⟩
    · refine zaload_n dX9_months_18 rfl ?_
      refine gf_X9_9 rfl dX9_months_19 ?_
      refine ziconst (v := nI 1) dX9_months_22 (by decide) ?_
      refine ziald dX9_months_23 (mrk hr1.2) (mrl hr1.1 hr1.2) (by decide) (by decide) ?_
      rw [hR.2.1]
      refine ziload_n dX9_months_24 rfl ?_
      refine ziadd dX9_months_25 ?_
      refine zsipush (v := 999) dX9_months_26 (by decide) ?_
      refine zicmp_le (tgt := 39) dX9_months_29 (by decide) (fun h29 => ?_) (fun h29 => ?_)
      · have he1 : rgF k 1 60 = 0 := by unfold rgF; rw [if_neg (Int32.not_lt.mpr h2), if_neg (Int32.not_lt.mpr (Int32.not_lt.mp h15))]
        obtain ⟨j, hj1, hj2, rfl⟩ := rgF_of (a := 1) (c := 60) (by decide) (by decide) he1
        have he : fO (rgF (nI j) 1 60) (moF (sMo σ) (nI j)) = 0 := by rw [he1]; unfold moF; rw [if_neg (Int32.not_lt.mpr h29)]; rfl
        refine zaload_n dX9_months_39 rfl ?_
        refine gf_X9_9 rfl dX9_months_40 ?_
        refine ziload_n dX9_months_43 rfl ?_
        refine zcSn  gk_X9_126 dX9_months_44 (c_X9_monthsOn hr1 hM hW.1.2.1 (K := j) (by omega)) rfl (by decide) (Nat.le_of_ble_eq_true rfl) (fun S2 hp2 => ?_) rfl
        obtain ⟨hM2, hW2, hm2, hf2⟩ := hp2
        refine zaload_n dX9_months_47 rfl ?_
        refine gf_X9_9 rfl dX9_months_48 ?_
        refine zcSf  gk_X9_146 dX9_months_51 (c_X9_lentIn hr1 hM2) rfl (by decide) (Nat.le_of_ble_eq_true rfl) ?_ rfl
        exact zireturn dX9_months_54 rfl rfl ⟨_, rfl, qM_ok he (by rw [nI_clamp (n := j) (by omega)]; rfl) (by unfold setTM; rw [nI_clamp (n := j) (by omega)]; exact hR.now hM2 (by rw [hm2, hR.2.1]) hf2)⟩
      · refine zaload_n dX9_months_32 rfl ?_
        refine zbipush (v := -6) dX9_months_33 (by decide) ?_
        refine zcVf ob_Mo gk_X9_38 dX9_months_35 (c_X9_no isE_6) rfl (by decide) (Nat.le_of_ble_eq_true rfl) ?_ rfl
        first
        | exact zireturn dX9_months_38 rfl rfl ⟨_, rfl, qM_no (by rw [rgF_hi (Int32.not_lt.mpr h2) h15]; rfl) isE_6 hR⟩
        | exact zireturn dX9_months_38 rfl rfl ⟨_, rfl, qM_no (by rw [rgF_in (Int32.not_lt.mpr h2) h15]; unfold moF; rw [if_pos (Int32.not_le.mp h29)]; rfl) isE_6 hR⟩
  · refine zaload_n dX9_months_5 rfl ?_
    refine zbipush (v := -4) dX9_months_6 (by decide) ?_
    refine zcVf ob_Mo gk_X9_38 dX9_months_8 (c_X9_no isE_4) rfl (by decide) (Nat.le_of_ble_eq_true rfl) ?_ rfl
    exact zireturn dX9_months_11 rfl rfl ⟨_, rfl, qM_no (by unfold rgF; rw [if_pos (Int32.not_le.mp h2)]; rfl) isE_4 hR⟩
set_option maxRecDepth 100000 in
set_option maxHeartbeats 4000000 in
theorem c_X8_think {n K : Nat} {T : Tw} (hT : isT S 0 n T) (hV : VW n T) (hK : K < 2 ^ 31) : zV x true mX8_think [.ref (zad x 0), .int (nI K)] S (fun S' => isT S' 1 n (monthsT n K T) ∧ frT 1 S S') := by
  refine zC_of (by decide +kernel) (Nat.le_of_ble_eq_true rfl) ?_
  refine zaload_n dX8_think_0 rfl ?_
  refine gf_X8_36 rfl dX8_think_1 ?_
  refine zaload_n dX8_think_4 rfl ?_
  refine gf_X8_30 rfl dX8_think_5 ?_
  refine zcVn (ob_town (t := 1) (by decide)) gk_X8_88 dX8_think_8 (c_X7_becomeLike (t := 1) (u := 0) (by decide) (by decide) (by decide) hT) rfl (by decide) (Nat.le_of_ble_eq_true rfl) (fun S2 hp2 => ?_) rfl
  obtain ⟨hT2, -, hf2⟩ := hp2
  refine zaload_n dX8_think_11 rfl ?_
  refine gf_X8_36 rfl dX8_think_12 ?_
  refine ziload_n dX8_think_15 rfl ?_
  refine zcVn (ob_town (t := 1) (by decide)) gk_X8_166 dX8_think_16 (c_X7_goOn (t := 1) (by decide) hT2 hV (K := K) hK) rfl (by decide) (Nat.le_of_ble_eq_true rfl) (fun S3 hp3 => ?_) rfl
  obtain ⟨hT3, -, -, hf3⟩ := hp3
  exact zreturn dX8_think_19 rfl ⟨rfl, hT3, hf2.trans hf3⟩
set_option maxRecDepth 100000 in
set_option maxHeartbeats 4000000 in
theorem c_X8_faceThen (hR : RepC σ S) (hW : WS σ) (f k w : Int32) : zR x true mX8_faceThen [.ref (zad x 0), .int f, .int k, .int w] S (qC (fO (pF (sN σ) f) (fO (rgF k 0 60) (whF w 4))) (ofF (sN σ) (monthsT (sN σ) k.toNatClampNeg (sT σ)) f.toNatClampNeg w) σ (σ)) := by
  have hT := hR.1
  have hn8 : sN σ ≤ 8 := hT.2.1
  refine zC_of (by decide +kernel) (Nat.le_of_ble_eq_true rfl) ?_
  by_cases he : fO (pF (sN σ) f) (fO (rgF k 0 60) (whF w 4)) = 0
  · obtain ⟨h1, h23⟩ := fO_0 he
    obtain ⟨h2, h3⟩ := fO_0 h23
    have h1p := pF_0 h1
    obtain ⟨i, hi, rfl⟩ := pF_of (by omega) h1
    obtain ⟨j, hj1, hj2, rfl⟩ := rgF_of (a := 0) (c := 60) (by decide) (by decide) h2
    obtain ⟨l, hl, rfl⟩ := whF_of (k := 4) (by decide) h3
    refine zaload_n dX8_faceThen_0 rfl ?_
    refine ziload_n dX8_faceThen_1 rfl ?_
    refine zcVf ob_X gk_X8_96 dX8_faceThen_2 (c_X8_personFault hT) rfl (by decide) (Nat.le_of_ble_eq_true rfl) ?_ rfl
    refine ziload_n dX8_faceThen_5 rfl ?_
    refine ziconst (v := 0) dX8_faceThen_6 (by decide) ?_
    refine zbipush (v := 60) dX8_faceThen_7 (by decide) ?_
    refine zcSf  gk_X8_73 dX8_faceThen_9 c_X8_rangeFault rfl (by decide) (Nat.le_of_ble_eq_true rfl) ?_ rfl
    refine ziload_n dX8_faceThen_12 rfl ?_
    refine ziconst (v := 4) dX8_faceThen_13 (by decide) ?_
    refine zcSf  gk_X8_99 dX8_faceThen_14 c_X8_whatFault rfl (by decide) (Nat.le_of_ble_eq_true rfl) ?_ rfl
    refine zcSf  gk_X8_154 dX8_faceThen_17 c_X8_firstOfThree rfl (by decide) (Nat.le_of_ble_eq_true rfl) ?_ rfl
    refine zistore dX8_faceThen_20 (by decide) rfl ?_
    refine ziload dX8_faceThen_22 rfl ?_
    refine zif_eq (tgt := 34) dX8_faceThen_24 (by decide) (fun _ => ?_) (fun h => absurd he h)
    refine zaload_n dX8_faceThen_34 rfl ?_
    refine ziload_n dX8_faceThen_35 rfl ?_
    refine zcVn ob_X gk_X8_170 dX8_faceThen_36 (c_X8_think hT hW.1.2.1.1 (by omega)) rfl (by decide) (Nat.le_of_ble_eq_true rfl) (fun S2 hp2 => ?_) rfl
    obtain ⟨hT2, hf2⟩ := hp2
    refine zaload_n dX8_faceThen_39 rfl ?_
    refine gf_X8_36 rfl dX8_faceThen_40 ?_
    refine ziload_n dX8_faceThen_43 rfl ?_
    refine ziload_n dX8_faceThen_44 rfl ?_
    refine zcVf (ob_town (t := 1) (by decide)) gk_X8_118 dX8_faceThen_45 (c_X7_ofFace (t := 1) (by decide) hT2 hl hi) rfl (by decide) (Nat.le_of_ble_eq_true rfl) ?_ rfl
    exact zireturn dX8_faceThen_48 rfl rfl ⟨_, rfl, qC_ok he (by rw [nI_clamp (n := i) (by omega), nI_clamp (n := j) (by omega)]) (hR.mind hf2)⟩
  · refine zaload_n dX8_faceThen_0 rfl ?_
    refine ziload_n dX8_faceThen_1 rfl ?_
    refine zcVf ob_X gk_X8_96 dX8_faceThen_2 (c_X8_personFault hT) rfl (by decide) (Nat.le_of_ble_eq_true rfl) ?_ rfl
    refine ziload_n dX8_faceThen_5 rfl ?_
    refine ziconst (v := 0) dX8_faceThen_6 (by decide) ?_
    refine zbipush (v := 60) dX8_faceThen_7 (by decide) ?_
    refine zcSf  gk_X8_73 dX8_faceThen_9 c_X8_rangeFault rfl (by decide) (Nat.le_of_ble_eq_true rfl) ?_ rfl
    refine ziload_n dX8_faceThen_12 rfl ?_
    refine ziconst (v := 4) dX8_faceThen_13 (by decide) ?_
    refine zcSf  gk_X8_99 dX8_faceThen_14 c_X8_whatFault rfl (by decide) (Nat.le_of_ble_eq_true rfl) ?_ rfl
    refine zcSf  gk_X8_154 dX8_faceThen_17 c_X8_firstOfThree rfl (by decide) (Nat.le_of_ble_eq_true rfl) ?_ rfl
    refine zistore dX8_faceThen_20 (by decide) rfl ?_
    refine ziload dX8_faceThen_22 rfl ?_
    refine zif_eq (tgt := 34) dX8_faceThen_24 (by decide) (fun h => absurd h he) (fun _ => ?_)
    refine zaload_n dX8_faceThen_27 rfl ?_
    refine ziload dX8_faceThen_28 rfl ?_
    refine zcVf ob_X gk_X8_77 dX8_faceThen_30 (c_X8_refuse (okE.e (okE_fO (okE_pF _ _) (okE_fO (okE_rgF _ _ _) (okE_whF _ _))) he)) rfl (by decide) (Nat.le_of_ble_eq_true rfl) ?_ rfl
    exact zireturn dX8_faceThen_33 rfl rfl ⟨_, rfl, qC_no rfl (okE.e (okE_fO (okE_pF _ _) (okE_fO (okE_rgF _ _ _) (okE_whF _ _))) he) hR⟩
set_option maxRecDepth 100000 in
set_option maxHeartbeats 4000000 in
theorem c_X9_faceThen (hR : RepM σ S) (hW : WS σ) (f k w : Int32) : zR x false mX9_faceThen [.ref (zad x 0), .int f, .int k, .int w] S (qM (fO (pF (sN σ) f) (fO (rgF k 0 60) (whF w 4))) (ofF (sN σ) (monthsT (sN σ) k.toNatClampNeg (sT σ)) f.toNatClampNeg w) σ (σ)) := by
  have hM := hR.1
  have hn8 : sN σ ≤ 8 := hM.2.1
  refine zC_of (by decide +kernel) (Nat.le_of_ble_eq_true rfl) ?_
  by_cases he : fO (pF (sN σ) f) (fO (rgF k 0 60) (whF w 4)) = 0
  · obtain ⟨h1, h23⟩ := fO_0 he
    obtain ⟨h2, h3⟩ := fO_0 h23
    have h1p := pF_0 h1
    obtain ⟨i, hi, rfl⟩ := pF_of (by omega) h1
    obtain ⟨j, hj1, hj2, rfl⟩ := rgF_of (a := 0) (c := 60) (by decide) (by decide) h2
    obtain ⟨l, hl, rfl⟩ := whF_of (k := 4) (by decide) h3
    refine zaload_n dX9_faceThen_0 rfl ?_
    refine ziload_n dX9_faceThen_1 rfl ?_
    refine zcVf ob_Mo gk_X9_48 dX9_faceThen_2 (c_X9_isOne hM) rfl (by decide) (Nat.le_of_ble_eq_true rfl) ?_ rfl
    refine zifb_eq (tgt := 17) dX9_faceThen_5 (by decide) (fun h => absurd (h.symm.trans h1p) (by decide)) (fun _ => ?_)
    refine ziload_n dX9_faceThen_8 rfl ?_
    refine zbipush (v := 60) dX9_faceThen_9 (by decide) ?_
    refine zcSf  gk_X9_150 dX9_faceThen_11 c_wrongBy rfl (by decide) (Nat.le_of_ble_eq_true rfl) ?_ rfl
    refine zgoto (tgt := 18) dX9_faceThen_14 (by decide) ?_
    refine zistore dX9_faceThen_18 (by decide) rfl ?_
    refine ziload dX9_faceThen_20 rfl ?_
    refine zif_ne (tgt := 38) dX9_faceThen_22 (by decide) (fun h => absurd h2 h) (fun _ => ?_)
    refine ziload_n dX9_faceThen_25 rfl ?_
    refine ziconst (v := 0) dX9_faceThen_26 (by decide) ?_
    refine ziconst (v := 3) dX9_faceThen_27 (by decide) ?_
    refine zcSf  gk_X9_44 dX9_faceThen_28 c_isIn_3 rfl (by decide) (Nat.le_of_ble_eq_true rfl) ?_ rfl
    refine zifb_ne (tgt := 38) dX9_faceThen_31 (by decide) (fun _ => ?_) (fun h => absurd (h.symm.trans (decide_eq_true h3)) (by decide))
    refine ziload dX9_faceThen_38 rfl ?_
    refine zif_eq (tgt := 50) dX9_faceThen_40 (by decide) (fun _ => ?_) (fun h => absurd h2 h)
    refine zaload_n dX9_faceThen_50 rfl ?_
    refine gf_X9_9 rfl dX9_faceThen_51 ?_
    refine zaload_n dX9_faceThen_54 rfl ?_
    refine gf_X9_13 rfl dX9_faceThen_55 ?_
    refine zcSn  gk_X9_133 dX9_faceThen_58 (c_X9_copies hr1 hr2 (by decide) hM) rfl (by decide) (Nat.le_of_ble_eq_true rfl) (fun S2 hp2 => ?_) rfl
    obtain ⟨hM2, -, hf2⟩ := hp2
    refine zaload_n dX9_faceThen_61 rfl ?_
    refine gf_X9_13 rfl dX9_faceThen_62 ?_
    refine ziload_n dX9_faceThen_65 rfl ?_
    refine zcSn  gk_X9_126 dX9_faceThen_66 (c_X9_monthsOn hr2 hM2 hW.1.2.1 (K := j) (by omega)) rfl (by decide) (Nat.le_of_ble_eq_true rfl) (fun S3 hp3 => ?_) rfl
    obtain ⟨hM3, -, -, hf3⟩ := hp3
    refine zaload_n dX9_faceThen_69 rfl ?_
    refine gf_X9_13 rfl dX9_faceThen_70 ?_
    refine ziload_n dX9_faceThen_73 rfl ?_
    refine ziload_n dX9_faceThen_74 rfl ?_
    refine zcSf  gk_X9_140 dX9_faceThen_75 (c_X9_faceIn hr2 hM3 hl hi) rfl (by decide) (Nat.le_of_ble_eq_true rfl) ?_ rfl
    exact zireturn dX9_faceThen_78 rfl rfl ⟨_, rfl, qM_ok he (by rw [nI_clamp (n := i) (by omega), nI_clamp (n := j) (by omega)]) (hR.mind (hf2.trans hf3) (Or.inl rfl))⟩
  · by_cases hp : isP (sN σ) f = true
    · by_cases hk : rgF k 0 60 = 0
      · have hw : ¬ whF w 4 = 0 := fun z => he (by rw [pF_yes hp, hk, z]; rfl)
        refine zaload_n dX9_faceThen_0 rfl ?_
        refine ziload_n dX9_faceThen_1 rfl ?_
        refine zcVf ob_Mo gk_X9_48 dX9_faceThen_2 (c_X9_isOne hM) rfl (by decide) (Nat.le_of_ble_eq_true rfl) ?_ rfl
        refine zifb_eq (tgt := 17) dX9_faceThen_5 (by decide) (fun h => absurd (h.symm.trans hp) (by decide)) (fun _ => ?_)
        refine ziload_n dX9_faceThen_8 rfl ?_
        refine zbipush (v := 60) dX9_faceThen_9 (by decide) ?_
        refine zcSf  gk_X9_150 dX9_faceThen_11 c_wrongBy rfl (by decide) (Nat.le_of_ble_eq_true rfl) ?_ rfl
        refine zgoto (tgt := 18) dX9_faceThen_14 (by decide) ?_
        refine zistore dX9_faceThen_18 (by decide) rfl ?_
        refine ziload dX9_faceThen_20 rfl ?_
        refine zif_ne (tgt := 38) dX9_faceThen_22 (by decide) (fun h => absurd hk h) (fun _ => ?_)
        refine ziload_n dX9_faceThen_25 rfl ?_
        refine ziconst (v := 0) dX9_faceThen_26 (by decide) ?_
        refine ziconst (v := 3) dX9_faceThen_27 (by decide) ?_
        refine zcSf  gk_X9_44 dX9_faceThen_28 c_isIn_3 rfl (by decide) (Nat.le_of_ble_eq_true rfl) ?_ rfl
        refine zifb_ne (tgt := 38) dX9_faceThen_31 (by decide) (fun h => absurd (h.symm.trans (decide_eq_false hw)) (by decide)) (fun _ => ?_)
        refine zbipush (v := -2) dX9_faceThen_34 (by decide) ?_
        refine zistore dX9_faceThen_36 (by decide) rfl ?_
        refine ziload dX9_faceThen_38 rfl ?_
        refine zif_eq (tgt := 50) dX9_faceThen_40 (by decide) (fun h => absurd h (by decide)) (fun _ => ?_)
        refine zaload_n dX9_faceThen_43 rfl ?_
        refine ziload dX9_faceThen_44 rfl ?_
        refine zcVf ob_Mo gk_X9_38 dX9_faceThen_46 (c_X9_no isE_2) rfl (by decide) (Nat.le_of_ble_eq_true rfl) ?_ rfl
        exact zireturn dX9_faceThen_49 rfl rfl ⟨_, rfl, qM_no (by rw [pF_yes hp, hk, whF_2 hw]; rfl) isE_2 hR⟩
      · refine zaload_n dX9_faceThen_0 rfl ?_
        refine ziload_n dX9_faceThen_1 rfl ?_
        refine zcVf ob_Mo gk_X9_48 dX9_faceThen_2 (c_X9_isOne hM) rfl (by decide) (Nat.le_of_ble_eq_true rfl) ?_ rfl
        refine zifb_eq (tgt := 17) dX9_faceThen_5 (by decide) (fun h => absurd (h.symm.trans hp) (by decide)) (fun _ => ?_)
        refine ziload_n dX9_faceThen_8 rfl ?_
        refine zbipush (v := 60) dX9_faceThen_9 (by decide) ?_
        refine zcSf  gk_X9_150 dX9_faceThen_11 c_wrongBy rfl (by decide) (Nat.le_of_ble_eq_true rfl) ?_ rfl
        refine zgoto (tgt := 18) dX9_faceThen_14 (by decide) ?_
        refine zistore dX9_faceThen_18 (by decide) rfl ?_
        refine ziload dX9_faceThen_20 rfl ?_
        refine zif_ne (tgt := 38) dX9_faceThen_22 (by decide) (fun _ => ?_) (fun h => absurd h hk)
        refine ziload dX9_faceThen_38 rfl ?_
        refine zif_eq (tgt := 50) dX9_faceThen_40 (by decide) (fun h => absurd h hk) (fun _ => ?_)
        refine zaload_n dX9_faceThen_43 rfl ?_
        refine ziload dX9_faceThen_44 rfl ?_
        refine zcVf ob_Mo gk_X9_38 dX9_faceThen_46 (c_X9_no (okE.e (okE_rgF _ _ _) hk)) rfl (by decide) (Nat.le_of_ble_eq_true rfl) ?_ rfl
        exact zireturn dX9_faceThen_49 rfl rfl ⟨_, rfl, qM_no (by rw [pF_yes hp, fO_z, fO_n hk]) (okE.e (okE_rgF _ _ _) hk) hR⟩
    · have hp : isP (sN σ) f = false := by cases h : isP (sN σ) f; rfl; exact absurd h hp
      refine zaload_n dX9_faceThen_0 rfl ?_
      refine ziload_n dX9_faceThen_1 rfl ?_
      refine zcVf ob_Mo gk_X9_48 dX9_faceThen_2 (c_X9_isOne hM) rfl (by decide) (Nat.le_of_ble_eq_true rfl) ?_ rfl
      refine zifb_eq (tgt := 17) dX9_faceThen_5 (by decide) (fun _ => ?_) (fun h => absurd (h.symm.trans hp) (by decide))
      refine ziconst (v := -1) dX9_faceThen_17 (by decide) ?_
      refine zistore dX9_faceThen_18 (by decide) rfl ?_
      refine ziload dX9_faceThen_20 rfl ?_
      refine zif_ne (tgt := 38) dX9_faceThen_22 (by decide) (fun _ => ?_) (fun h => absurd h (by decide))
      refine ziload dX9_faceThen_38 rfl ?_
      refine zif_eq (tgt := 50) dX9_faceThen_40 (by decide) (fun h => absurd h (by decide)) (fun _ => ?_)
      refine zaload_n dX9_faceThen_43 rfl ?_
      refine ziload dX9_faceThen_44 rfl ?_
      refine zcVf ob_Mo gk_X9_38 dX9_faceThen_46 (c_X9_no isE_1) rfl (by decide) (Nat.le_of_ble_eq_true rfl) ?_ rfl
      exact zireturn dX9_faceThen_49 rfl rfl ⟨_, rfl, qM_no (by rw [pF_1 hp, fO_1]) isE_1 hR⟩
set_option maxRecDepth 100000 in
set_option maxHeartbeats 4000000 in
theorem c_X8_wornThen (hR : RepC σ S) (hW : WS σ) (p k : Int32) : zR x true mX8_wornThen [.ref (zad x 0), .int p, .int k] S (qC (fO (pF (sN σ) p) (rgF k 0 60)) ((monthsT (sN σ) k.toNatClampNeg (sT σ)) 4 p.toNatClampNeg) σ (σ)) := by
  have hT := hR.1
  have hn8 : sN σ ≤ 8 := hT.2.1
  refine zC_of (by decide +kernel) (Nat.le_of_ble_eq_true rfl) ?_
  by_cases he : fO (pF (sN σ) p) (rgF k 0 60) = 0
  · obtain ⟨h1, h2⟩ := fO_0 he
    have h1p := pF_0 h1
    obtain ⟨i, hi, rfl⟩ := pF_of (by omega) h1
    obtain ⟨j, hj1, hj2, rfl⟩ := rgF_of (a := 0) (c := 60) (by decide) (by decide) h2
    refine zaload_n dX8_wornThen_0 rfl ?_
    refine ziload_n dX8_wornThen_1 rfl ?_
    refine zcVf ob_X gk_X8_96 dX8_wornThen_2 (c_X8_personFault hT) rfl (by decide) (Nat.le_of_ble_eq_true rfl) ?_ rfl
    refine ziload_n dX8_wornThen_5 rfl ?_
    refine ziconst (v := 0) dX8_wornThen_6 (by decide) ?_
    refine zbipush (v := 60) dX8_wornThen_7 (by decide) ?_
    refine zcSf  gk_X8_73 dX8_wornThen_9 c_X8_rangeFault rfl (by decide) (Nat.le_of_ble_eq_true rfl) ?_ rfl
    refine zcSf  gk_X8_103 dX8_wornThen_12 c_X8_firstOf rfl (by decide) (Nat.le_of_ble_eq_true rfl) ?_ rfl
    refine zistore_n dX8_wornThen_15 (by decide) rfl ?_
    refine ziload_n dX8_wornThen_16 rfl ?_
    refine zif_eq (tgt := 26) dX8_wornThen_17 (by decide) (fun _ => ?_) (fun h => absurd he h)
    refine zaload_n dX8_wornThen_26 rfl ?_
    refine ziload_n dX8_wornThen_27 rfl ?_
    refine zcVn ob_X gk_X8_170 dX8_wornThen_28 (c_X8_think hT hW.1.2.1.1 (by omega)) rfl (by decide) (Nat.le_of_ble_eq_true rfl) (fun S2 hp2 => ?_) rfl
    obtain ⟨hT2, hf2⟩ := hp2
    refine zaload_n dX8_wornThen_31 rfl ?_
    refine gf_X8_36 rfl dX8_wornThen_32 ?_
    refine gf_X8_115 (t := 1) (by decide) rfl dX8_wornThen_35 ?_
    refine ziload_n dX8_wornThen_38 rfl ?_
    refine zialT (t := 1) (w := 4) dX8_wornThen_39 (by decide) hT2 (by decide) (by decide) (by omega) ?_
    exact zireturn dX8_wornThen_40 rfl rfl ⟨_, rfl, qC_ok he (by rw [nI_clamp (n := i) (by omega), nI_clamp (n := j) (by omega)]) (hR.mind hf2)⟩
  · refine zaload_n dX8_wornThen_0 rfl ?_
    refine ziload_n dX8_wornThen_1 rfl ?_
    refine zcVf ob_X gk_X8_96 dX8_wornThen_2 (c_X8_personFault hT) rfl (by decide) (Nat.le_of_ble_eq_true rfl) ?_ rfl
    refine ziload_n dX8_wornThen_5 rfl ?_
    refine ziconst (v := 0) dX8_wornThen_6 (by decide) ?_
    refine zbipush (v := 60) dX8_wornThen_7 (by decide) ?_
    refine zcSf  gk_X8_73 dX8_wornThen_9 c_X8_rangeFault rfl (by decide) (Nat.le_of_ble_eq_true rfl) ?_ rfl
    refine zcSf  gk_X8_103 dX8_wornThen_12 c_X8_firstOf rfl (by decide) (Nat.le_of_ble_eq_true rfl) ?_ rfl
    refine zistore_n dX8_wornThen_15 (by decide) rfl ?_
    refine ziload_n dX8_wornThen_16 rfl ?_
    refine zif_eq (tgt := 26) dX8_wornThen_17 (by decide) (fun h => absurd h he) (fun _ => ?_)
    refine zaload_n dX8_wornThen_20 rfl ?_
    refine ziload_n dX8_wornThen_21 rfl ?_
    refine zcVf ob_X gk_X8_77 dX8_wornThen_22 (c_X8_refuse (okE.e (okE_fO (okE_pF _ _) (okE_rgF _ _ _)) he)) rfl (by decide) (Nat.le_of_ble_eq_true rfl) ?_ rfl
    exact zireturn dX8_wornThen_25 rfl rfl ⟨_, rfl, qC_no rfl (okE.e (okE_fO (okE_pF _ _) (okE_rgF _ _ _)) he) hR⟩
set_option maxRecDepth 100000 in
set_option maxHeartbeats 4000000 in
theorem c_X9_wornThen (hR : RepM σ S) (hW : WS σ) (p k : Int32) : zR x false mX9_wornThen [.ref (zad x 0), .int p, .int k] S (qM (fO (pF (sN σ) p) (rgF k 0 60)) ((monthsT (sN σ) k.toNatClampNeg (sT σ)) 4 p.toNatClampNeg) σ (σ)) := by
  have hM := hR.1
  have hn8 : sN σ ≤ 8 := hM.2.1
  refine zC_of (by decide +kernel) (Nat.le_of_ble_eq_true rfl) ?_
  by_cases he : fO (pF (sN σ) p) (rgF k 0 60) = 0
  · obtain ⟨h1, h2⟩ := fO_0 he
    have h1p := pF_0 h1
    obtain ⟨i, hi, rfl⟩ := pF_of (by omega) h1
    obtain ⟨j, hj1, hj2, rfl⟩ := rgF_of (a := 0) (c := 60) (by decide) (by decide) h2
    refine zaload_n dX9_wornThen_0 rfl ?_
    refine ziload_n dX9_wornThen_1 rfl ?_
    refine zcVf ob_Mo gk_X9_48 dX9_wornThen_2 (c_X9_isOne hM) rfl (by decide) (Nat.le_of_ble_eq_true rfl) ?_ rfl
    refine zifb_eq (tgt := 17) dX9_wornThen_5 (by decide) (fun h => absurd (h.symm.trans h1p) (by decide)) (fun _ => ?_)
    refine ziload_n dX9_wornThen_8 rfl ?_
    refine zbipush (v := 60) dX9_wornThen_9 (by decide) ?_
    refine zcSf  gk_X9_150 dX9_wornThen_11 c_wrongBy rfl (by decide) (Nat.le_of_ble_eq_true rfl) ?_ rfl
    refine zgoto (tgt := 18) dX9_wornThen_14 (by decide) ?_
    refine zistore_n dX9_wornThen_18 (by decide) rfl ?_
    refine ziload_n dX9_wornThen_19 rfl ?_
    refine zif_eq (tgt := 29) dX9_wornThen_20 (by decide) (fun _ => ?_) (fun h => absurd h2 h)
    refine zaload_n dX9_wornThen_29 rfl ?_
    refine gf_X9_9 rfl dX9_wornThen_30 ?_
    refine zaload_n dX9_wornThen_33 rfl ?_
    refine gf_X9_13 rfl dX9_wornThen_34 ?_
    refine zcSn  gk_X9_133 dX9_wornThen_37 (c_X9_copies hr1 hr2 (by decide) hM) rfl (by decide) (Nat.le_of_ble_eq_true rfl) (fun S2 hp2 => ?_) rfl
    obtain ⟨hM2, -, hf2⟩ := hp2
    refine zaload_n dX9_wornThen_40 rfl ?_
    refine gf_X9_13 rfl dX9_wornThen_41 ?_
    refine ziload_n dX9_wornThen_44 rfl ?_
    refine zcSn  gk_X9_126 dX9_wornThen_45 (c_X9_monthsOn hr2 hM2 hW.1.2.1 (K := j) (by omega)) rfl (by decide) (Nat.le_of_ble_eq_true rfl) (fun S3 hp3 => ?_) rfl
    obtain ⟨hM3, -, -, hf3⟩ := hp3
    refine zaload_n dX9_wornThen_48 rfl ?_
    refine gf_X9_13 rfl dX9_wornThen_49 ?_
    refine ziload_n dX9_wornThen_52 rfl ?_
    refine ziconst (v := nI 3) dX9_wornThen_53 (by decide) ?_
    refine zcSf gk_X9_52 dX9_wornThen_54 (c_X9_of (j := 3)) rfl (by decide) (Nat.le_of_ble_eq_true rfl) ?_ rfl
    refine zialM (k := 2) (j := 3) (w := 4) dX9_wornThen_57 hr2 hM3 rfl (by decide) (by omega) ?_
    exact zireturn dX9_wornThen_58 rfl rfl ⟨_, rfl, qM_ok he (by rw [nI_clamp (n := i) (by omega), nI_clamp (n := j) (by omega)]) (hR.mind (hf2.trans hf3) (Or.inl rfl))⟩
  · refine zaload_n dX9_wornThen_0 rfl ?_
    refine ziload_n dX9_wornThen_1 rfl ?_
    refine zcVf ob_Mo gk_X9_48 dX9_wornThen_2 (c_X9_isOne hM) rfl (by decide) (Nat.le_of_ble_eq_true rfl) ?_ rfl
    refine zifb_eq (tgt := 17) dX9_wornThen_5 (by decide) (fun h5 => ?_) (fun h5 => ?_)
    · refine ziconst (v := -1) dX9_wornThen_17 (by decide) ?_
      refine zistore_n dX9_wornThen_18 (by decide) rfl ?_
      refine ziload_n dX9_wornThen_19 rfl ?_
      refine zif_eq (tgt := 29) dX9_wornThen_20 (by decide) (fun h => absurd h (isE.ne isE_1)) (fun _ => ?_)
      refine zaload_n dX9_wornThen_23 rfl ?_
      refine ziload_n dX9_wornThen_24 rfl ?_
      refine zcVf ob_Mo gk_X9_38 dX9_wornThen_25 (c_X9_no isE_1) rfl (by decide) (Nat.le_of_ble_eq_true rfl) ?_ rfl
      exact zireturn dX9_wornThen_28 rfl rfl ⟨_, rfl, qM_no (by rw [pF_1 h5, fO_1]) isE_1 hR⟩
    · refine ziload_n dX9_wornThen_8 rfl ?_
      refine zbipush (v := 60) dX9_wornThen_9 (by decide) ?_
      refine zcSf  gk_X9_150 dX9_wornThen_11 c_wrongBy rfl (by decide) (Nat.le_of_ble_eq_true rfl) ?_ rfl
      refine zgoto (tgt := 18) dX9_wornThen_14 (by decide) ?_
      refine zistore_n dX9_wornThen_18 (by decide) rfl ?_
      refine ziload_n dX9_wornThen_19 rfl ?_
      refine zif_eq (tgt := 29) dX9_wornThen_20 (by decide) (fun h => absurd h (isE.ne (okE.e (okE_rgF k 0 60) (fun z => he (by rw [pF_yes h5, z]; rfl))))) (fun _ => ?_)
      refine zaload_n dX9_wornThen_23 rfl ?_
      refine ziload_n dX9_wornThen_24 rfl ?_
      refine zcVf ob_Mo gk_X9_38 dX9_wornThen_25 (c_X9_no (okE.e (okE_rgF k 0 60) (fun z => he (by rw [pF_yes h5, z]; rfl)))) rfl (by decide) (Nat.le_of_ble_eq_true rfl) ?_ rfl
      exact zireturn dX9_wornThen_28 rfl rfl ⟨_, rfl, qM_no (by rw [pF_yes h5]; rfl) (okE.e (okE_rgF k 0 60) (fun z => he (by rw [pF_yes h5, z]; rfl))) hR⟩
set_option maxRecDepth 100000 in
set_option maxHeartbeats 4000000 in
theorem c_X9_meetsOne {n p q : Nat} {T : Tw} (hM : isM S 1 n T) (hp : p < n) (hq : q < n) : zF x false mX9_meetsOne [.ref (zad x 0), .int (nI p), .int (nI q)] S (some (.int (if T 4 q = 9 then 9 else if kbit T (T 4 q) p = 1 then T 4 q else 9))) S := by
  have hn8 := hM.2.1
  refine zC_of (by decide +kernel) (Nat.le_of_ble_eq_true rfl) ?_
  refine zaload_n dX9_meetsOne_0 rfl ?_
  refine gf_X9_9 rfl dX9_meetsOne_1 ?_
  refine ziload_n dX9_meetsOne_4 rfl ?_
  refine ziconst (v := nI 3) dX9_meetsOne_5 (by decide) ?_
  refine zcSf gk_X9_52 dX9_meetsOne_6 (c_X9_of (j := 3)) rfl (by decide) (Nat.le_of_ble_eq_true rfl) ?_ rfl
  refine zialM (k := 1) (j := 3) (w := 4) dX9_meetsOne_9 hr1 hM rfl (by decide) (by omega) ?_
  refine zistore_n dX9_meetsOne_10 (by decide) rfl ?_
  refine ziload_n dX9_meetsOne_11 rfl ?_
  refine zbipush (v := 9) dX9_meetsOne_12 (by decide) ?_
  refine zicmp_eq (tgt := 38) dX9_meetsOne_14 (by decide) (fun h14 => ?_) (fun h14 => ?_)
  · refine zbipush (v := 9) dX9_meetsOne_38 (by decide) ?_
    exact zireturn dX9_meetsOne_40 rfl rfl ⟨congrArg (fun q => some (Value.int q)) (by unfold kbit; simp_all), rfl⟩
  · refine zaload_n dX9_meetsOne_17 rfl ?_
    refine gf_X9_9 rfl dX9_meetsOne_18 ?_
    refine ziload_n dX9_meetsOne_21 rfl ?_
    refine ziconst (v := nI 2) dX9_meetsOne_22 (by decide) ?_
    refine zcSf gk_X9_52 dX9_meetsOne_23 (c_X9_of (j := 2)) rfl (by decide) (Nat.le_of_ble_eq_true rfl) ?_ rfl
    refine zialM (k := 1) (j := 2) (w := 3) dX9_meetsOne_26 hr1 hM rfl (by decide) (by omega) ?_
    refine ziload_n dX9_meetsOne_27 rfl ?_
    refine zcSf  gk_X9_56 dX9_meetsOne_28 c_X9_has rfl (by decide) (Nat.le_of_ble_eq_true rfl) ?_ rfl
    refine zifb_eq (tgt := 38) dX9_meetsOne_31 (by decide) (fun h31 => ?_) (fun h31 => ?_)
    · refine zbipush (v := 9) dX9_meetsOne_38 (by decide) ?_
      exact zireturn dX9_meetsOne_40 rfl rfl ⟨congrArg (fun q => some (Value.int q)) (by unfold kbit; simp_all), rfl⟩
    · refine ziload_n dX9_meetsOne_34 rfl ?_
      refine zgoto (tgt := 40) dX9_meetsOne_35 (by decide) ?_
      exact zireturn dX9_meetsOne_40 rfl rfl ⟨congrArg (fun q => some (Value.int q)) (by unfold kbit; simp_all), rfl⟩
set_option maxRecDepth 100000 in
set_option maxHeartbeats 4000000 in
theorem c_X8_meets (hR : RepC σ S) (hW : WS σ) (a b : Int32) : zR x true mX8_meets [.ref (zad x 0), .int a, .int b] S (qC (twF (sN σ) a b) (if (sT σ) 4 b.toNatClampNeg = 9 then 9 else if kbit (sT σ) ((sT σ) 4 b.toNatClampNeg) a.toNatClampNeg = 1 then (sT σ) 4 b.toNatClampNeg else 9) σ (σ)) := by
  have hT := hR.1
  have hn8 : sN σ ≤ 8 := hT.2.1
  refine zC_of (by decide +kernel) (Nat.le_of_ble_eq_true rfl) ?_
  by_cases he : twF (sN σ) a b = 0
  · obtain ⟨i, j, hi, hj, hij, rfl, rfl⟩ := twF_of (by omega) he
    refine zaload_n dX8_meets_0 rfl ?_
    refine ziload_n dX8_meets_1 rfl ?_
    refine ziload_n dX8_meets_2 rfl ?_
    refine zcVf ob_X gk_X8_127 dX8_meets_3 (c_X8_twoFault hT) rfl (by decide) (Nat.le_of_ble_eq_true rfl) ?_ rfl
    refine zistore_n dX8_meets_6 (by decide) rfl ?_
    refine ziload_n dX8_meets_7 rfl ?_
    refine zif_eq (tgt := 17) dX8_meets_8 (by decide) (fun _ => ?_) (fun h => absurd he h)
    refine zaload_n dX8_meets_17 rfl ?_
    refine gf_X8_30 rfl dX8_meets_18 ?_
    refine ziload_n dX8_meets_21 rfl ?_
    refine ziload_n dX8_meets_22 rfl ?_
    refine zcVf (ob_town (t := 0) (by decide)) gk_X8_186 dX8_meets_23 (c_X7_takenFor (by decide) hT (by omega) (by omega)) rfl (by decide) (Nat.le_of_ble_eq_true rfl) ?_ rfl
    exact zireturn dX8_meets_26 rfl rfl ⟨_, rfl, qC_ok he (by rw [nI_clamp (n := i) (by omega), nI_clamp (n := j) (by omega)]) hR⟩
  · refine zaload_n dX8_meets_0 rfl ?_
    refine ziload_n dX8_meets_1 rfl ?_
    refine ziload_n dX8_meets_2 rfl ?_
    refine zcVf ob_X gk_X8_127 dX8_meets_3 (c_X8_twoFault hT) rfl (by decide) (Nat.le_of_ble_eq_true rfl) ?_ rfl
    refine zistore_n dX8_meets_6 (by decide) rfl ?_
    refine ziload_n dX8_meets_7 rfl ?_
    refine zif_eq (tgt := 17) dX8_meets_8 (by decide) (fun h => absurd h he) (fun _ => ?_)
    refine zaload_n dX8_meets_11 rfl ?_
    refine ziload_n dX8_meets_12 rfl ?_
    refine zcVf ob_X gk_X8_77 dX8_meets_13 (c_X8_refuse (okE.e (okE_twF _ _ _) he)) rfl (by decide) (Nat.le_of_ble_eq_true rfl) ?_ rfl
    exact zireturn dX8_meets_16 rfl rfl ⟨_, rfl, qC_no rfl (okE.e (okE_twF _ _ _) he) hR⟩
set_option maxRecDepth 100000 in
set_option maxHeartbeats 4000000 in
theorem c_X9_meets (hR : RepM σ S) (hW : WS σ) (a b : Int32) : zR x false mX9_meets [.ref (zad x 0), .int a, .int b] S (qM (twF (sN σ) a b) (if (sT σ) 4 b.toNatClampNeg = 9 then 9 else if kbit (sT σ) ((sT σ) 4 b.toNatClampNeg) a.toNatClampNeg = 1 then (sT σ) 4 b.toNatClampNeg else 9) σ (σ)) := by
  have hM := hR.1
  have hn8 : sN σ ≤ 8 := hM.2.1
  refine zC_of (by decide +kernel) (Nat.le_of_ble_eq_true rfl) ?_
  by_cases he : twF (sN σ) a b = 0
  · obtain ⟨i, j, hi, hj, hij, rfl, rfl⟩ := twF_of (by omega) he
    refine zaload_n dX9_meets_0 rfl ?_
    refine ziload_n dX9_meets_1 rfl ?_
    refine ziload_n dX9_meets_2 rfl ?_
    refine zcVf ob_Mo gk_X9_115 dX9_meets_3 (c_X9_areTwo hM) rfl (by decide) (Nat.le_of_ble_eq_true rfl) ?_ rfl
    refine zifb_eq (tgt := 18) dX9_meets_6 (by decide) (fun h => absurd (h.symm.trans (decide_eq_true he)) (by decide)) (fun _ => ?_)
    refine zaload_n dX9_meets_9 rfl ?_
    refine ziload_n dX9_meets_10 rfl ?_
    refine ziload_n dX9_meets_11 rfl ?_
    refine zcVf ob_Mo gk_X9_157 dX9_meets_12 (c_X9_meetsOne hM hi hj) rfl (by decide) (Nat.le_of_ble_eq_true rfl) ?_ rfl
    refine zgoto (tgt := 23) dX9_meets_15 (by decide) ?_
    exact zireturn dX9_meets_23 rfl rfl ⟨_, rfl, qM_ok he (by rw [nI_clamp (n := i) (by omega), nI_clamp (n := j) (by omega)]) hR⟩
  · refine zaload_n dX9_meets_0 rfl ?_
    refine ziload_n dX9_meets_1 rfl ?_
    refine ziload_n dX9_meets_2 rfl ?_
    refine zcVf ob_Mo gk_X9_115 dX9_meets_3 (c_X9_areTwo hM) rfl (by decide) (Nat.le_of_ble_eq_true rfl) ?_ rfl
    refine zifb_eq (tgt := 18) dX9_meets_6 (by decide) (fun _ => ?_) (fun h => absurd (h.symm.trans (decide_eq_false he)) (by decide))
    refine zaload_n dX9_meets_18 rfl ?_
    refine ziconst (v := -1) dX9_meets_19 (by decide) ?_
    refine zcVf ob_Mo gk_X9_38 dX9_meets_20 (c_X9_no isE_1) rfl (by decide) (Nat.le_of_ble_eq_true rfl) ?_ rfl
    exact zireturn dX9_meets_23 rfl rfl ⟨_, rfl, qM_no (twF_1 he) isE_1 hR⟩
end PUB3
