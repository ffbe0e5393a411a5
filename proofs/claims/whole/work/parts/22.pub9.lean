/-! The public methods, ninth part: keep, two -/
section PUB9
variable {x : zCx} {S : zSt} {σ σ' : Sig}

set_option maxRecDepth 100000 in
set_option maxHeartbeats 4000000 in
theorem l_X8_keep (hW : WS σ) {K : Nat} (hK : K < 2 ^ 31) (r : Int32) : ∀ (k i : Nat) (S : zSt) (b m : Int32), i + k = sN σ → RepC σ S → bpF (fun f => decide (0 < (sT σ) 7 f)) (fun f => allW (sN σ) (monthsT (sN σ) K (backT (sN σ) (sT σ) f))) k i b m = r → zZ x true mX8_keep (fun q U => ∃ v : Int32, q = some (.int v) ∧ v = r ∧ RepC σ U) 38 [(0, .ref (zad x 0)), (1, .int (nI K)), (3, .int m), (4, .int b), (5, .int (nI i))] [] S := by
  intro k
  induction k with
  | zero =>
    intro i S b m hi hR hr
    have hT := hR.1
    have hn8 : sN σ ≤ 8 := hT.2.1
    refine ziload dX8_keep_38 rfl ?_
    refine zaload_n dX8_keep_40 rfl ?_
    refine gf_X8_30 rfl dX8_keep_41 ?_
    refine gf_X8_192 (t := 0) (by decide) rfl dX8_keep_44 ?_
    rw [hT.1]
    refine zicmp_ge (tgt := 120) dX8_keep_47 (by decide) (fun _ => ?_) (fun h => absurd (nI_le (by omega) (by omega)) h)
    refine ziload dX8_keep_120 rfl ?_
    exact zireturn dX8_keep_122 rfl rfl ⟨_, rfl, hr, hR⟩
  | succ k ih =>
    intro i S b m hi hR hr
    have hT := hR.1
    have hn8 : sN σ ≤ 8 := hT.2.1
    rw [bpF] at hr
    by_cases hc : 0 < (sT σ) 7 i
    · have hl : ¬ (sT σ) 7 i = 0 := fun z => by rw [z] at hc; exact absurd hc (by decide)
      by_cases hg : m < allW (sN σ) (monthsT (sN σ) K (backT (sN σ) (sT σ) i))
      · rw [if_pos ⟨decide_eq_true hc, hg⟩] at hr
        refine ziload dX8_keep_38 rfl ?_
        refine zaload_n dX8_keep_40 rfl ?_
        refine gf_X8_30 rfl dX8_keep_41 ?_
        refine gf_X8_192 (t := 0) (by decide) rfl dX8_keep_44 ?_
        rw [hT.1]
        refine zicmp_ge (tgt := 120) dX8_keep_47 (by decide) (fun h => absurd h (nI_ge (by omega) (by omega))) (fun _ => ?_)
        refine zaload_n dX8_keep_50 rfl ?_
        refine gf_X8_30 rfl dX8_keep_51 ?_
        refine ziload dX8_keep_54 rfl ?_
        refine zcVf (ob_town (t := 0) (by decide)) gk_X8_142 dX8_keep_56 (c_X7_isLent (by decide) hT (by omega)) rfl (by decide) (Nat.le_of_ble_eq_true rfl) ?_ rfl
        refine zifb_eq (tgt := 114) dX8_keep_59 (by decide) (fun h => absurd (h.symm.trans (decide_eq_true hc)) (by decide)) (fun _ => ?_)
        refine zaload_n dX8_keep_62 rfl ?_
        refine gf_X8_36 rfl dX8_keep_63 ?_
        refine zaload_n dX8_keep_66 rfl ?_
        refine gf_X8_30 rfl dX8_keep_67 ?_
        refine zcVn (ob_town (t := 1) (by decide)) gk_X8_88 dX8_keep_70 (c_X7_becomeLike (t := 1) (u := 0) (by decide) (by decide) (by decide) hT) rfl (by decide) (Nat.le_of_ble_eq_true rfl) (fun S2 hp2 => ?_) rfl
        obtain ⟨hT2, -, hf2⟩ := hp2
        refine zaload_n dX8_keep_73 rfl ?_
        refine gf_X8_36 rfl dX8_keep_74 ?_
        refine ziload dX8_keep_77 rfl ?_
        refine zcVr (ob_town (t := 1) (by decide)) gk_X8_145 dX8_keep_79 (c_X7_bringBack (t := 1) (by decide) hT2 (f := i) (by omega)) rfl (by decide) (Nat.le_of_ble_eq_true rfl) (fun r3 S3 hp3 => ?_) rfl
        obtain ⟨-, hT3, -, hf3⟩ := hp3
        refine zpop dX8_keep_82 rfl ?_
        refine zaload_n dX8_keep_83 rfl ?_
        refine gf_X8_36 rfl dX8_keep_84 ?_
        refine ziload_n dX8_keep_87 rfl ?_
        refine zcVn (ob_town (t := 1) (by decide)) gk_X8_166 dX8_keep_88 (c_X7_goOn (t := 1) (by decide) hT3 (hW.1.back (f := i) (by omega) hl).vw (K := K) hK) rfl (by decide) (Nat.le_of_ble_eq_true rfl) (fun S4 hp4 => ?_) rfl
        obtain ⟨hT4, -, -, hf4⟩ := hp4
        have hR4 := hR.mind (hf2.trans (hf3.trans hf4))
        refine zaload_n dX8_keep_91 rfl ?_
        refine gf_X8_36 rfl dX8_keep_92 ?_
        refine zcVf (ob_town (t := 1) (by decide)) gk_X8_218 dX8_keep_95 (show zF x true mX7_allWorths _ S4 (some (.int (allW (sN σ) _))) S4 from c_X7_allWorths (t := 1) (by decide) hT4) rfl (by decide) (Nat.le_of_ble_eq_true rfl) ?_ rfl
        refine ziload_n dX8_keep_98 rfl ?_
        refine zicmp_le (tgt := 114) dX8_keep_99 (by decide) (fun h => absurd h (Int32.not_le.mpr hg)) (fun _ => ?_)
        refine zaload_n dX8_keep_102 rfl ?_
        refine gf_X8_36 rfl dX8_keep_103 ?_
        refine zcVf (ob_town (t := 1) (by decide)) gk_X8_218 dX8_keep_106 (show zF x true mX7_allWorths _ S4 (some (.int (allW (sN σ) _))) S4 from c_X7_allWorths (t := 1) (by decide) hT4) rfl (by decide) (Nat.le_of_ble_eq_true rfl) ?_ rfl
        refine zistore_n dX8_keep_109 (by decide) rfl ?_
        refine ziload dX8_keep_110 rfl ?_
        refine zistore dX8_keep_112 (by decide) rfl ?_
        refine ziinc dX8_keep_114 rfl rfl (by decide) rfl ?_
        refine zgoto (tgt := 38) dX8_keep_117 (by decide) ?_
        refine zlvs (lv' := [(0, .ref (zad x 0)), (1, .int (nI K)), (3, .int _), (4, .int _), (5, .int (nI (i + 1)))]) ⟨rfl, rfl, rfl, rfl, by rw [nI_succ i]; rfl, trivial⟩ ?_
        exact ih (i + 1) S4 _ _ (by omega) hR4 hr
      · rw [if_neg (fun z => hg z.2)] at hr
        refine ziload dX8_keep_38 rfl ?_
        refine zaload_n dX8_keep_40 rfl ?_
        refine gf_X8_30 rfl dX8_keep_41 ?_
        refine gf_X8_192 (t := 0) (by decide) rfl dX8_keep_44 ?_
        rw [hT.1]
        refine zicmp_ge (tgt := 120) dX8_keep_47 (by decide) (fun h => absurd h (nI_ge (by omega) (by omega))) (fun _ => ?_)
        refine zaload_n dX8_keep_50 rfl ?_
        refine gf_X8_30 rfl dX8_keep_51 ?_
        refine ziload dX8_keep_54 rfl ?_
        refine zcVf (ob_town (t := 0) (by decide)) gk_X8_142 dX8_keep_56 (c_X7_isLent (by decide) hT (by omega)) rfl (by decide) (Nat.le_of_ble_eq_true rfl) ?_ rfl
        refine zifb_eq (tgt := 114) dX8_keep_59 (by decide) (fun h => absurd (h.symm.trans (decide_eq_true hc)) (by decide)) (fun _ => ?_)
        refine zaload_n dX8_keep_62 rfl ?_
        refine gf_X8_36 rfl dX8_keep_63 ?_
        refine zaload_n dX8_keep_66 rfl ?_
        refine gf_X8_30 rfl dX8_keep_67 ?_
        refine zcVn (ob_town (t := 1) (by decide)) gk_X8_88 dX8_keep_70 (c_X7_becomeLike (t := 1) (u := 0) (by decide) (by decide) (by decide) hT) rfl (by decide) (Nat.le_of_ble_eq_true rfl) (fun S2 hp2 => ?_) rfl
        obtain ⟨hT2, -, hf2⟩ := hp2
        refine zaload_n dX8_keep_73 rfl ?_
        refine gf_X8_36 rfl dX8_keep_74 ?_
        refine ziload dX8_keep_77 rfl ?_
        refine zcVr (ob_town (t := 1) (by decide)) gk_X8_145 dX8_keep_79 (c_X7_bringBack (t := 1) (by decide) hT2 (f := i) (by omega)) rfl (by decide) (Nat.le_of_ble_eq_true rfl) (fun r3 S3 hp3 => ?_) rfl
        obtain ⟨-, hT3, -, hf3⟩ := hp3
        refine zpop dX8_keep_82 rfl ?_
        refine zaload_n dX8_keep_83 rfl ?_
        refine gf_X8_36 rfl dX8_keep_84 ?_
        refine ziload_n dX8_keep_87 rfl ?_
        refine zcVn (ob_town (t := 1) (by decide)) gk_X8_166 dX8_keep_88 (c_X7_goOn (t := 1) (by decide) hT3 (hW.1.back (f := i) (by omega) hl).vw (K := K) hK) rfl (by decide) (Nat.le_of_ble_eq_true rfl) (fun S4 hp4 => ?_) rfl
        obtain ⟨hT4, -, -, hf4⟩ := hp4
        have hR4 := hR.mind (hf2.trans (hf3.trans hf4))
        refine zaload_n dX8_keep_91 rfl ?_
        refine gf_X8_36 rfl dX8_keep_92 ?_
        refine zcVf (ob_town (t := 1) (by decide)) gk_X8_218 dX8_keep_95 (show zF x true mX7_allWorths _ S4 (some (.int (allW (sN σ) _))) S4 from c_X7_allWorths (t := 1) (by decide) hT4) rfl (by decide) (Nat.le_of_ble_eq_true rfl) ?_ rfl
        refine ziload_n dX8_keep_98 rfl ?_
        refine zicmp_le (tgt := 114) dX8_keep_99 (by decide) (fun _ => ?_) (fun h => absurd (Int32.not_lt.mp hg) h)
        refine ziinc dX8_keep_114 rfl rfl (by decide) rfl ?_
        refine zgoto (tgt := 38) dX8_keep_117 (by decide) ?_
        refine zlvs (lv' := [(0, .ref (zad x 0)), (1, .int (nI K)), (3, .int _), (4, .int _), (5, .int (nI (i + 1)))]) ⟨rfl, rfl, rfl, rfl, by rw [nI_succ i]; rfl, trivial⟩ ?_
        exact ih (i + 1) S4 _ _ (by omega) hR4 hr
    · rw [if_neg (fun z => hc (of_decide_eq_true z.1))] at hr
      refine ziload dX8_keep_38 rfl ?_
      refine zaload_n dX8_keep_40 rfl ?_
      refine gf_X8_30 rfl dX8_keep_41 ?_
      refine gf_X8_192 (t := 0) (by decide) rfl dX8_keep_44 ?_
      rw [hT.1]
      refine zicmp_ge (tgt := 120) dX8_keep_47 (by decide) (fun h => absurd h (nI_ge (by omega) (by omega))) (fun _ => ?_)
      refine zaload_n dX8_keep_50 rfl ?_
      refine gf_X8_30 rfl dX8_keep_51 ?_
      refine ziload dX8_keep_54 rfl ?_
      refine zcVf (ob_town (t := 0) (by decide)) gk_X8_142 dX8_keep_56 (c_X7_isLent (by decide) hT (by omega)) rfl (by decide) (Nat.le_of_ble_eq_true rfl) ?_ rfl
      refine zifb_eq (tgt := 114) dX8_keep_59 (by decide) (fun _ => ?_) (fun h => absurd (h.symm.trans (decide_eq_false hc)) (by decide))
      refine ziinc dX8_keep_114 rfl rfl (by decide) rfl ?_
      refine zgoto (tgt := 38) dX8_keep_117 (by decide) ?_
      refine zlvs (lv' := [(0, .ref (zad x 0)), (1, .int (nI K)), (3, .int _), (4, .int _), (5, .int (nI (i + 1)))]) ⟨rfl, rfl, rfl, rfl, by rw [nI_succ i]; rfl, trivial⟩ ?_
      exact ih (i + 1) S _ _ (by omega) hR hr
set_option maxRecDepth 100000 in
set_option maxHeartbeats 4000000 in
theorem c_X8_keep (hR : RepC σ S) (hW : WS σ) (k : Int32) : zR x true mX8_keep [.ref (zad x 0), .int k] S (qC (rgF k 0 24) (bpF (fun f => decide (0 < (sT σ) 7 f)) (fun f => allW (sN σ) (monthsT (sN σ) k.toNatClampNeg (backT (sN σ) (sT σ) f))) (sN σ) 0 (-9) (allW (sN σ) (monthsT (sN σ) k.toNatClampNeg (sT σ)))) σ (σ)) := by
  have hT := hR.1
  have hn8 : sN σ ≤ 8 := hT.2.1
  refine zC_of (by decide +kernel) (Nat.le_of_ble_eq_true rfl) ?_
  by_cases he : rgF k 0 24 = 0
  · obtain ⟨j, hj1, hj2, rfl⟩ := rgF_of (a := 0) (c := 24) (by decide) (by decide) he
    refine ziload_n dX8_keep_0 rfl ?_
    refine ziconst (v := 0) dX8_keep_1 (by decide) ?_
    refine zbipush (v := 24) dX8_keep_2 (by decide) ?_
    refine zcSf  gk_X8_73 dX8_keep_4 c_X8_rangeFault rfl (by decide) (Nat.le_of_ble_eq_true rfl) ?_ rfl
    refine zistore_n dX8_keep_7 (by decide) rfl ?_
    refine ziload_n dX8_keep_8 rfl ?_
    refine zif_eq (tgt := 18) dX8_keep_9 (by decide) (fun _ => ?_) (fun h => absurd he h)
    refine zaload_n dX8_keep_18 rfl ?_
    refine ziload_n dX8_keep_19 rfl ?_
    refine zcVn ob_X gk_X8_170 dX8_keep_20 (c_X8_think hT hW.1.2.1.1 (by omega)) rfl (by decide) (Nat.le_of_ble_eq_true rfl) (fun S2 hp2 => ?_) rfl
    obtain ⟨hT2, hf2⟩ := hp2
    refine zaload_n dX8_keep_23 rfl ?_
    refine gf_X8_36 rfl dX8_keep_24 ?_
    refine zcVf (ob_town (t := 1) (by decide)) gk_X8_218 dX8_keep_27 (show zF x true mX7_allWorths _ S2 (some (.int (allW (sN σ) _))) S2 from c_X7_allWorths (t := 1) (by decide) hT2) rfl (by decide) (Nat.le_of_ble_eq_true rfl) ?_ rfl
    refine zistore_n dX8_keep_30 (by decide) rfl ?_
    refine zbipush (v := -9) dX8_keep_31 (by decide) ?_
    refine zistore dX8_keep_33 (by decide) rfl ?_
    refine ziconst (v := 0) dX8_keep_35 (by decide) ?_
    refine zistore dX8_keep_36 (by decide) rfl ?_
    refine zlvs (lv' := [(0, .ref (zad x 0)), (1, .int (nI j)), (3, .int _), (4, .int (-9)), (5, .int (nI 0))]) ⟨rfl, rfl, rfl, rfl, rfl, trivial⟩ ?_
    exact zZ_mono (l_X8_keep hW (by omega) _ (sN σ) 0 S2 _ _ (by omega) (hR.mind hf2) rfl) (fun q U h => by obtain ⟨v, g1, g2, g3⟩ := h; exact ⟨v, g1, qC_ok he (by rw [g2, nI_clamp (n := j) (by omega)]) g3⟩)
  · refine ziload_n dX8_keep_0 rfl ?_
    refine ziconst (v := 0) dX8_keep_1 (by decide) ?_
    refine zbipush (v := 24) dX8_keep_2 (by decide) ?_
    refine zcSf  gk_X8_73 dX8_keep_4 c_X8_rangeFault rfl (by decide) (Nat.le_of_ble_eq_true rfl) ?_ rfl
    refine zistore_n dX8_keep_7 (by decide) rfl ?_
    refine ziload_n dX8_keep_8 rfl ?_
    refine zif_eq (tgt := 18) dX8_keep_9 (by decide) (fun h => absurd h he) (fun _ => ?_)
    refine zaload_n dX8_keep_12 rfl ?_
    refine ziload_n dX8_keep_13 rfl ?_
    refine zcVf ob_X gk_X8_77 dX8_keep_14 (c_X8_refuse (okE.e (okE_rgF _ _ _) he)) rfl (by decide) (Nat.le_of_ble_eq_true rfl) ?_ rfl
    exact zireturn dX8_keep_17 rfl rfl ⟨_, rfl, qC_no rfl (okE.e (okE_rgF _ _ _) he) hR⟩
set_option maxRecDepth 100000 in
set_option maxHeartbeats 4000000 in
theorem l_X9_keep (hW : WS σ) {K : Nat} (hK : K < 2 ^ 31) (r : Int32) : ∀ (k i : Nat) (S : zSt) (b m : Int32), i + k = sN σ → RepM σ S → bpF (fun f => decide (0 < (sT σ) 7 f)) (fun f => allW (sN σ) (monthsT (sN σ) K (backT (sN σ) (sT σ) f))) k i b m = r → zZ x false mX9_keep (fun q U => ∃ v : Int32, q = some (.int v) ∧ v = r ∧ RepM σ U) 32 [(0, .ref (zad x 0)), (1, .int (nI K)), (3, .int b), (4, .int m), (5, .int (nI i))] [] S := by
  intro k
  induction k with
  | zero =>
    intro i S b m hi hR hr
    have hM := hR.1
    have hn8 : sN σ ≤ 8 := hM.2.1
    refine ziload dX9_keep_32 rfl ?_
    refine zaload_n dX9_keep_34 rfl ?_
    refine gf_X9_9 rfl dX9_keep_35 ?_
    refine ziconst (v := nI 0) dX9_keep_38 (by decide) ?_
    refine ziald dX9_keep_39 (mrk hr1.2) (mrl hr1.1 hr1.2) (by decide) (by decide) ?_
    rw [hM.1]
    refine zicmp_ge (tgt := 115) dX9_keep_40 (by decide) (fun _ => ?_) (fun h => absurd (nI_le (by omega) (by omega)) h)
    refine ziload_n dX9_keep_115 rfl ?_
    exact zireturn dX9_keep_116 rfl rfl ⟨_, rfl, hr, hR⟩
  | succ k ih =>
    intro i S b m hi hR hr
    have hM := hR.1
    have hn8 : sN σ ≤ 8 := hM.2.1
    rw [bpF] at hr
    obtain ⟨q, h1, h2, h3⟩ := hW.1.2.1.2 i (by omega)
    obtain ⟨e1, e2, e3, e4⟩ := nI_12 h1
    by_cases hq : q = 0
    · rw [if_neg (fun z => by have := of_decide_eq_true z.1; rw [h2, e2] at this; exact this hq)] at hr
      refine ziload dX9_keep_32 rfl ?_
      refine zaload_n dX9_keep_34 rfl ?_
      refine gf_X9_9 rfl dX9_keep_35 ?_
      refine ziconst (v := nI 0) dX9_keep_38 (by decide) ?_
      refine ziald dX9_keep_39 (mrk hr1.2) (mrl hr1.1 hr1.2) (by decide) (by decide) ?_
      rw [hM.1]
      refine zicmp_ge (tgt := 115) dX9_keep_40 (by decide) (fun h => absurd h (nI_ge (by omega) (by omega))) (fun _ => ?_)
      refine zaload_n dX9_keep_43 rfl ?_
      refine gf_X9_9 rfl dX9_keep_44 ?_
      refine ziload dX9_keep_47 rfl ?_
      refine zbipush (v := nI 6) dX9_keep_49 (by decide) ?_
      refine zcSf gk_X9_52 dX9_keep_51 (c_X9_of (j := 6)) rfl (by decide) (Nat.le_of_ble_eq_true rfl) ?_ rfl
      refine zialM (k := 1) (j := 6) (w := 7) dX9_keep_54 hr1 hM rfl (by decide) (by omega) ?_
      refine zif_ne (tgt := 61) dX9_keep_55 (by decide) (fun h => absurd (by rw [h2, e4]; exact hq) h) (fun _ => ?_)
      refine zgoto (tgt := 109) dX9_keep_58 (by decide) ?_
      refine ziinc dX9_keep_109 rfl rfl (by decide) rfl ?_
      refine zgoto (tgt := 32) dX9_keep_112 (by decide) ?_
      refine zlvs (lv' := [(0, .ref (zad x 0)), (1, .int (nI K)), (3, .int _), (4, .int _), (5, .int (nI (i + 1)))]) ⟨rfl, rfl, rfl, rfl, by rw [nI_succ i]; rfl, trivial⟩ ?_
      exact ih (i + 1) S _ _ (by omega) hR hr
    · have hl : ¬ (sT σ) 7 i = 0 := by rw [h2, e4]; exact hq
      have hc : 0 < (sT σ) 7 i := by rw [h2, e2]; exact hq
      obtain ⟨r', a1, a2, a3, a4, a5⟩ := h3 hq
      have hw := MW.wearer a1 a3 a5
      by_cases hg : m < allW (sN σ) (monthsT (sN σ) K (backT (sN σ) (sT σ) i))
      · rw [if_pos ⟨decide_eq_true hc, hg⟩] at hr
        refine ziload dX9_keep_32 rfl ?_
        refine zaload_n dX9_keep_34 rfl ?_
        refine gf_X9_9 rfl dX9_keep_35 ?_
        refine ziconst (v := nI 0) dX9_keep_38 (by decide) ?_
        refine ziald dX9_keep_39 (mrk hr1.2) (mrl hr1.1 hr1.2) (by decide) (by decide) ?_
        rw [hM.1]
        refine zicmp_ge (tgt := 115) dX9_keep_40 (by decide) (fun h => absurd h (nI_ge (by omega) (by omega))) (fun _ => ?_)
        refine zaload_n dX9_keep_43 rfl ?_
        refine gf_X9_9 rfl dX9_keep_44 ?_
        refine ziload dX9_keep_47 rfl ?_
        refine zbipush (v := nI 6) dX9_keep_49 (by decide) ?_
        refine zcSf gk_X9_52 dX9_keep_51 (c_X9_of (j := 6)) rfl (by decide) (Nat.le_of_ble_eq_true rfl) ?_ rfl
        refine zialM (k := 1) (j := 6) (w := 7) dX9_keep_54 hr1 hM rfl (by decide) (by omega) ?_
        refine zif_ne (tgt := 61) dX9_keep_55 (by decide) (fun _ => ?_) (fun h => absurd h hl)
        refine zaload_n dX9_keep_61 rfl ?_
        refine gf_X9_9 rfl dX9_keep_62 ?_
        refine zaload_n dX9_keep_65 rfl ?_
        refine gf_X9_13 rfl dX9_keep_66 ?_
        refine zcSn  gk_X9_133 dX9_keep_69 (c_X9_copies hr1 hr2 (by decide) hM) rfl (by decide) (Nat.le_of_ble_eq_true rfl) (fun S2 hp2 => ?_) rfl
        obtain ⟨hM2, -, hf2⟩ := hp2
        refine zaload_n dX9_keep_72 rfl ?_
        refine gf_X9_13 rfl dX9_keep_73 ?_
        refine ziload dX9_keep_76 rfl ?_
        refine zcSf  gk_X9_81 dX9_keep_78 (c_X9_comesBack hr2 hM2 (f := i) (by omega) a1 hw) rfl (by decide) (Nat.le_of_ble_eq_true rfl) ?_ rfl
        refine zistore dX9_keep_81 (by decide) rfl ?_
        refine zaload_n dX9_keep_83 rfl ?_
        refine zbipush (v := -9) dX9_keep_84 (by decide) ?_
        refine ziload_n dX9_keep_86 rfl ?_
        refine zcVr ob_Mo gk_X9_163 dX9_keep_87 (c_X9_worthBehindA (isM_back hM2 a1 hw) (hW.1.back (f := i) (by omega) hl).2.1 hK) rfl (by decide) (Nat.le_of_ble_eq_true rfl) (fun r S4 hp4 => ?_) rfl
        obtain ⟨rfl, hf4⟩ := hp4
        have hR2 := hR.mind (frM.trans (frM_back hf2) hf4) (Or.inl rfl)
        refine zistore dX9_keep_90 (by decide) rfl ?_
        refine ziload dX9_keep_92 rfl ?_
        refine ziload dX9_keep_94 rfl ?_
        refine zicmp_gt (tgt := 102) dX9_keep_96 (by decide) (fun _ => ?_) (fun h => absurd hg h)
        refine ziload dX9_keep_102 rfl ?_
        refine zistore_n dX9_keep_104 (by decide) rfl ?_
        refine ziload dX9_keep_105 rfl ?_
        refine zistore dX9_keep_107 (by decide) rfl ?_
        refine ziinc dX9_keep_109 rfl rfl (by decide) rfl ?_
        refine zgoto (tgt := 32) dX9_keep_112 (by decide) ?_
        refine zlvs (lv' := [(0, .ref (zad x 0)), (1, .int (nI K)), (3, .int _), (4, .int _), (5, .int (nI (i + 1)))]) ⟨rfl, rfl, rfl, rfl, by rw [nI_succ i]; rfl, trivial⟩ ?_
        exact ih (i + 1) S4 _ _ (by omega) hR2 hr
      · rw [if_neg (fun z => hg z.2)] at hr
        refine ziload dX9_keep_32 rfl ?_
        refine zaload_n dX9_keep_34 rfl ?_
        refine gf_X9_9 rfl dX9_keep_35 ?_
        refine ziconst (v := nI 0) dX9_keep_38 (by decide) ?_
        refine ziald dX9_keep_39 (mrk hr1.2) (mrl hr1.1 hr1.2) (by decide) (by decide) ?_
        rw [hM.1]
        refine zicmp_ge (tgt := 115) dX9_keep_40 (by decide) (fun h => absurd h (nI_ge (by omega) (by omega))) (fun _ => ?_)
        refine zaload_n dX9_keep_43 rfl ?_
        refine gf_X9_9 rfl dX9_keep_44 ?_
        refine ziload dX9_keep_47 rfl ?_
        refine zbipush (v := nI 6) dX9_keep_49 (by decide) ?_
        refine zcSf gk_X9_52 dX9_keep_51 (c_X9_of (j := 6)) rfl (by decide) (Nat.le_of_ble_eq_true rfl) ?_ rfl
        refine zialM (k := 1) (j := 6) (w := 7) dX9_keep_54 hr1 hM rfl (by decide) (by omega) ?_
        refine zif_ne (tgt := 61) dX9_keep_55 (by decide) (fun _ => ?_) (fun h => absurd h hl)
        refine zaload_n dX9_keep_61 rfl ?_
        refine gf_X9_9 rfl dX9_keep_62 ?_
        refine zaload_n dX9_keep_65 rfl ?_
        refine gf_X9_13 rfl dX9_keep_66 ?_
        refine zcSn  gk_X9_133 dX9_keep_69 (c_X9_copies hr1 hr2 (by decide) hM) rfl (by decide) (Nat.le_of_ble_eq_true rfl) (fun S2 hp2 => ?_) rfl
        obtain ⟨hM2, -, hf2⟩ := hp2
        refine zaload_n dX9_keep_72 rfl ?_
        refine gf_X9_13 rfl dX9_keep_73 ?_
        refine ziload dX9_keep_76 rfl ?_
        refine zcSf  gk_X9_81 dX9_keep_78 (c_X9_comesBack hr2 hM2 (f := i) (by omega) a1 hw) rfl (by decide) (Nat.le_of_ble_eq_true rfl) ?_ rfl
        refine zistore dX9_keep_81 (by decide) rfl ?_
        refine zaload_n dX9_keep_83 rfl ?_
        refine zbipush (v := -9) dX9_keep_84 (by decide) ?_
        refine ziload_n dX9_keep_86 rfl ?_
        refine zcVr ob_Mo gk_X9_163 dX9_keep_87 (c_X9_worthBehindA (isM_back hM2 a1 hw) (hW.1.back (f := i) (by omega) hl).2.1 hK) rfl (by decide) (Nat.le_of_ble_eq_true rfl) (fun r S4 hp4 => ?_) rfl
        obtain ⟨rfl, hf4⟩ := hp4
        have hR2 := hR.mind (frM.trans (frM_back hf2) hf4) (Or.inl rfl)
        refine zistore dX9_keep_90 (by decide) rfl ?_
        refine ziload dX9_keep_92 rfl ?_
        refine ziload dX9_keep_94 rfl ?_
        refine zicmp_gt (tgt := 102) dX9_keep_96 (by decide) (fun h => absurd h hg) (fun _ => ?_)
        refine zgoto (tgt := 109) dX9_keep_99 (by decide) ?_
        refine ziinc dX9_keep_109 rfl rfl (by decide) rfl ?_
        refine zgoto (tgt := 32) dX9_keep_112 (by decide) ?_
        refine zlvs (lv' := [(0, .ref (zad x 0)), (1, .int (nI K)), (3, .int _), (4, .int _), (5, .int (nI (i + 1)))]) ⟨rfl, rfl, rfl, rfl, by rw [nI_succ i]; rfl, trivial⟩ ?_
        exact ih (i + 1) S4 _ _ (by omega) hR2 hr
set_option maxRecDepth 100000 in
set_option maxHeartbeats 4000000 in
theorem c_X9_keep (hR : RepM σ S) (hW : WS σ) (k : Int32) : zR x false mX9_keep [.ref (zad x 0), .int k] S (qM (rgF k 0 24) (bpF (fun f => decide (0 < (sT σ) 7 f)) (fun f => allW (sN σ) (monthsT (sN σ) k.toNatClampNeg (backT (sN σ) (sT σ) f))) (sN σ) 0 (-9) (allW (sN σ) (monthsT (sN σ) k.toNatClampNeg (sT σ)))) σ (σ)) := by
  have hM := hR.1
  have hn8 : sN σ ≤ 8 := hM.2.1
  refine zC_of (by decide +kernel) (Nat.le_of_ble_eq_true rfl) ?_
  by_cases he : rgF k 0 24 = 0
  · obtain ⟨j, hj1, hj2, rfl⟩ := rgF_of (a := 0) (c := 24) (by decide) (by decide) he
    refine ziload_n dX9_keep_0 rfl ?_
    refine zbipush (v := 24) dX9_keep_1 (by decide) ?_
    refine zcSf  gk_X9_150 dX9_keep_3 c_wrongBy rfl (by decide) (Nat.le_of_ble_eq_true rfl) ?_ rfl
    refine zistore_n dX9_keep_6 (by decide) rfl ?_
    refine ziload_n dX9_keep_7 rfl ?_
    refine zif_eq (tgt := 17) dX9_keep_8 (by decide) (fun _ => ?_) (fun h => absurd he h)
    refine zbipush (v := -9) dX9_keep_17 (by decide) ?_
    refine zistore_n dX9_keep_19 (by decide) rfl ?_
    refine zaload_n dX9_keep_20 rfl ?_
    refine zbipush (v := -9) dX9_keep_21 (by decide) ?_
    refine ziload_n dX9_keep_23 rfl ?_
    refine zcVr ob_Mo gk_X9_169 dX9_keep_24 (c_X9_worthNowA hM hW.1.2.1 (by omega)) rfl (by decide) (Nat.le_of_ble_eq_true rfl) (fun r S2 hp2 => ?_) rfl
    obtain ⟨rfl, hf2⟩ := hp2
    refine zistore dX9_keep_27 (by decide) rfl ?_
    refine ziconst (v := 0) dX9_keep_29 (by decide) ?_
    refine zistore dX9_keep_30 (by decide) rfl ?_
    refine zlvs (lv' := [(0, .ref (zad x 0)), (1, .int (nI j)), (3, .int (-9)), (4, .int _), (5, .int (nI 0))]) ⟨rfl, rfl, rfl, rfl, rfl, trivial⟩ ?_
    exact zZ_mono (l_X9_keep hW (by omega) _ (sN σ) 0 S2 _ _ (by omega) (hR.mind hf2 (Or.inl rfl)) rfl) (fun q U h => by obtain ⟨v, g1, g2, g3⟩ := h; exact ⟨v, g1, qM_ok he (by rw [g2, nI_clamp (n := j) (by omega)]) g3⟩)
  · refine ziload_n dX9_keep_0 rfl ?_
    refine zbipush (v := 24) dX9_keep_1 (by decide) ?_
    refine zcSf  gk_X9_150 dX9_keep_3 c_wrongBy rfl (by decide) (Nat.le_of_ble_eq_true rfl) ?_ rfl
    refine zistore_n dX9_keep_6 (by decide) rfl ?_
    refine ziload_n dX9_keep_7 rfl ?_
    refine zif_eq (tgt := 17) dX9_keep_8 (by decide) (fun h => absurd h he) (fun _ => ?_)
    refine zaload_n dX9_keep_11 rfl ?_
    refine ziload_n dX9_keep_12 rfl ?_
    refine zcVf ob_Mo gk_X9_38 dX9_keep_13 (c_X9_no (okE.e (okE_rgF _ _ _) he)) rfl (by decide) (Nat.le_of_ble_eq_true rfl) ?_ rfl
    exact zireturn dX9_keep_16 rfl rfl ⟨_, rfl, qM_no rfl (okE.e (okE_rgF _ _ _) he) hR⟩
def lendIf (q : Bool) (T : Tw) (a c : Nat) : Tw := if q = true ∧ canB T a c = true then handT T a c else T
theorem WFT_lendIf {n a c : Nat} {T : Tw} {q : Bool} (h : WFT n T) (ha : a < n) (hc : c < n) : WFT n (lendIf q T a c) := by
  unfold lendIf
  split
  · rename_i z; exact h.handB ha hc z.2
  · exact h
def twoT (T : Tw) (a c : Nat) (u v : Bool) : Tw := lendIf v (lendIf u T c a) a c
def twoW (n K : Nat) (T : Tw) (a c p : Nat) (u v : Bool) : Int32 := wth (monthsT n K (twoT T a c u v)) p
def twoOk (n K : Nat) (T : Tw) (a c : Nat) (u v : Bool) : Bool := decide (twoW n K T a c a (!u) v ≤ twoW n K T a c a u v ∧ twoW n K T a c c u (!v) ≤ twoW n K T a c c u v)
def twoA (n K : Nat) (T : Tw) (a c : Nat) : Int32 :=
  if twoOk n K T a c false false = true then 0 else if twoOk n K T a c false true = true then 1 else if twoOk n K T a c true false = true then 10 else if twoOk n K T a c true true = true then 11 else -9
theorem RepC.scr {S' : zSt} (h : RepC σ S) (h1 : ∀ k, k < 36 → S'.1 k = S.1 k) (h2 : S'.2 = S.2) : RepC σ S' := by
  obtain ⟨a1, a2, a3, a4, a5, a6⟩ := h
  refine ⟨⟨by rw [h2]; exact a1.1, a1.2.1, fun w p b1 b2 b3 => by rw [h1 _ (by unfold tp; omega)]; exact a1.2.2 w p b1 b2 b3⟩, by rw [h2]; exact a2, ?_, by rw [h2, h1 _ (by decide)]; exact a4, by rw [h2, h1 _ (by decide)]; exact a5, by rw [h1 _ (by decide)]; exact a6⟩
  unfold keptC at a3 ⊢
  cases hk : sK σ with
  | none => rw [hk] at a3; rw [h2]; exact a3
  | some q => rw [hk] at a3; exact ⟨by rw [h2]; exact a3.1, ⟨by rw [h2]; exact a3.2.1.1, a3.2.1.2.1, fun w p b1 b2 b3 => by rw [h1 _ (by unfold tp; omega)]; exact a3.2.1.2.2 w p b1 b2 b3⟩, by rw [h2]; exact a3.2.2⟩

theorem isT_far {t n k i : Nat} {T : Tw} {v : Int32} (hT : isT S t n T) (hk : k = 37 ∨ k = 38 := by first | exact Or.inl rfl | exact Or.inr rfl) (ht : t < 3 := by decide) : isT (u2 S.1 k i v, S.2) t n T := by
  refine ⟨hT.1, hT.2.1, fun w p h0 hw hp => ?_⟩
  show u2 S.1 k i v (tp t + w) p = _
  rw [u2_w (by unfold tp; omega)]
  exact hT.2.2 w p h0 hw hp
set_option maxRecDepth 100000 in
set_option maxHeartbeats 4000000 in
theorem l_X8_two0 (hR : RepC σ S) (hW : WS σ) {a c K : Nat} (ha : a < sN σ) (hc : c < sN σ) (hK : K < 2 ^ 31) {post : Option Value → zSt → Prop} (kk : ∀ S', RepC σ S' → (∀ q, S'.1 37 q = if q = 0 then twoW (sN σ) K (sT σ) a c a false false else S.1 37 q) → (∀ q, S'.1 38 q = if q = 0 then twoW (sN σ) K (sT σ) a c c false false else S.1 38 q) → zZ x true mX8_two post 33 [(0, .ref (zad x 0)), (1, .int (nI a)), (2, .int (nI c)), (3, .int (nI K)), (5, .int (nI 1))] [] S') : zZ x true mX8_two post 33 [(0, .ref (zad x 0)), (1, .int (nI a)), (2, .int (nI c)), (3, .int (nI K)), (5, .int (nI 0))] [] S := by
  have hT := hR.1
  have hn8 : sN σ ≤ 8 := hT.2.1
  have hV : VW (sN σ) (twoT (sT σ) a c false false) := (WFT_lendIf (WFT_lendIf hW.1 hc ha) ha hc).vw
  have hE : twoT (sT σ) a c false false = sT σ := rfl
  rw [hE] at hV
  refine ziload dX8_two_33 rfl ?_
  refine ziconst (v := 4) dX8_two_35 (by decide) ?_
  refine zicmp_ge (tgt := 150) dX8_two_36 (by decide) (fun h => absurd h (nI_ge (b := 4) (by decide) (by decide))) (fun _ => ?_)
  refine zaload_n dX8_two_39 rfl ?_
  refine gf_X8_36 rfl dX8_two_40 ?_
  refine zaload_n dX8_two_43 rfl ?_
  refine gf_X8_30 rfl dX8_two_44 ?_
  refine zcVn (ob_town (t := 1) (by decide)) gk_X8_88 dX8_two_47 (c_X7_becomeLike (t := 1) (u := 0) (by decide) (by decide) (by decide) hT) rfl (by decide) (Nat.le_of_ble_eq_true rfl) (fun S2 hp2 => ?_) rfl
  obtain ⟨hT2, -, hf2⟩ := hp2
  refine ziload dX8_two_50 rfl ?_
  refine ziconst (v := 2) dX8_two_52 (by decide) ?_
  refine zicmp_lt (tgt := 77) dX8_two_53 (by decide) (fun _ => ?_) (fun h => absurd (by decide) h)
  refine ziload dX8_two_77 rfl ?_
  refine ziconst (v := 2) dX8_two_79 (by decide) ?_
  refine zirem dX8_two_80 (by decide) ?_
  refine ziconst (v := 1) dX8_two_81 (by decide) ?_
  refine zicmp_ne (tgt := 106) dX8_two_82 (by decide) (fun _ => ?_) (fun h => absurd h (by decide))
  refine zaload_n dX8_two_106 rfl ?_
  refine gf_X8_36 rfl dX8_two_107 ?_
  refine ziload_n dX8_two_110 rfl ?_
  refine zcVn (ob_town (t := 1) (by decide)) gk_X8_166 dX8_two_111 (c_X7_goOn (t := 1) (by decide) hT2 hV (K := K) hK) rfl (by decide) (Nat.le_of_ble_eq_true rfl) (fun S4 hp4 => ?_) rfl
  obtain ⟨hT4, -, -, hf4⟩ := hp4
  refine zaload_n dX8_two_114 rfl ?_
  refine gf_X8_59 rfl dX8_two_115 ?_
  refine ziload dX8_two_118 rfl ?_
  refine zaload_n dX8_two_120 rfl ?_
  refine gf_X8_36 rfl dX8_two_121 ?_
  refine ziload_n dX8_two_124 rfl ?_
  refine zcVf (ob_town (t := 1) (by decide)) gk_X8_124 dX8_two_125 (c_X7_worthOf (t := 1) (by decide) hT4 ha) rfl (by decide) (Nat.le_of_ble_eq_true rfl) ?_ rfl
  refine ziast dX8_two_128 (by decide) rfl (by decide) (by omega) ?_
  refine zaload_n dX8_two_129 rfl ?_
  refine gf_X8_62 rfl dX8_two_130 ?_
  refine ziload dX8_two_133 rfl ?_
  refine zaload_n dX8_two_135 rfl ?_
  refine gf_X8_36 rfl dX8_two_136 ?_
  refine ziload_n dX8_two_139 rfl ?_
  refine zcVf (ob_town (t := 1) (by decide)) gk_X8_124 dX8_two_140 (c_X7_worthOf (t := 1) (by decide) (isT_far hT4) hc) rfl (by decide) (Nat.le_of_ble_eq_true rfl) ?_ rfl
  refine ziast dX8_two_143 (by decide) rfl (by decide) (by omega) ?_
  refine ziinc dX8_two_144 rfl rfl (by decide) rfl ?_
  refine zgoto (tgt := 33) dX8_two_147 (by decide) ?_
  refine zlvs (lv' := [(0, .ref (zad x 0)), (1, .int (nI a)), (2, .int (nI c)), (3, .int (nI K)), (5, .int (nI 1))]) ⟨rfl, rfl, rfl, rfl, rfl, trivial⟩ ?_
  exact kk _ ((hR.mind (hf2.trans hf4)).scr (fun k hk => by funext q; dsimp only; rw [u2_w (by omega), u2_w (by omega)]) rfl) (fun q => by dsimp only; rw [show S.1 37 = S4.1 37 from ((hf2.trans hf4).1 37 (by decide)).symm]; rw [u2_w (by decide)]; unfold u2; by_cases z : q = 0 <;> simp [z, twoW, wth, hE]) (fun q => by dsimp only; rw [show S.1 38 = S4.1 38 from ((hf2.trans hf4).1 38 (by decide)).symm]; unfold u2; by_cases z : q = 0 <;> simp [z, twoW, wth, hE])
set_option maxRecDepth 100000 in
set_option maxHeartbeats 4000000 in
theorem l_X8_two1 (hR : RepC σ S) (hW : WS σ) {a c K : Nat} (ha : a < sN σ) (hc : c < sN σ) (hK : K < 2 ^ 31) {post : Option Value → zSt → Prop} (kk : ∀ S', RepC σ S' → (∀ q, S'.1 37 q = if q = 1 then twoW (sN σ) K (sT σ) a c a false true else S.1 37 q) → (∀ q, S'.1 38 q = if q = 1 then twoW (sN σ) K (sT σ) a c c false true else S.1 38 q) → zZ x true mX8_two post 33 [(0, .ref (zad x 0)), (1, .int (nI a)), (2, .int (nI c)), (3, .int (nI K)), (5, .int (nI 2))] [] S') : zZ x true mX8_two post 33 [(0, .ref (zad x 0)), (1, .int (nI a)), (2, .int (nI c)), (3, .int (nI K)), (5, .int (nI 1))] [] S := by
  have hT := hR.1
  have hn8 : sN σ ≤ 8 := hT.2.1
  have hV : VW (sN σ) (twoT (sT σ) a c false true) := (WFT_lendIf (WFT_lendIf hW.1 hc ha) ha hc).vw
  cases hv : canB (sT σ) a c with
  | true =>
    have hE : twoT (sT σ) a c false true = handT (sT σ) a c := by unfold twoT; rw [show lendIf false (sT σ) c a = sT σ from rfl]; unfold lendIf; rw [if_pos ⟨rfl, hv⟩]
    rw [hE] at hV
    refine ziload dX8_two_33 rfl ?_
    refine ziconst (v := 4) dX8_two_35 (by decide) ?_
    refine zicmp_ge (tgt := 150) dX8_two_36 (by decide) (fun h => absurd h (nI_ge (b := 4) (by decide) (by decide))) (fun _ => ?_)
    refine zaload_n dX8_two_39 rfl ?_
    refine gf_X8_36 rfl dX8_two_40 ?_
    refine zaload_n dX8_two_43 rfl ?_
    refine gf_X8_30 rfl dX8_two_44 ?_
    refine zcVn (ob_town (t := 1) (by decide)) gk_X8_88 dX8_two_47 (c_X7_becomeLike (t := 1) (u := 0) (by decide) (by decide) (by decide) hT) rfl (by decide) (Nat.le_of_ble_eq_true rfl) (fun S2 hp2 => ?_) rfl
    obtain ⟨hT2, -, hf2⟩ := hp2
    refine ziload dX8_two_50 rfl ?_
    refine ziconst (v := 2) dX8_two_52 (by decide) ?_
    refine zicmp_lt (tgt := 77) dX8_two_53 (by decide) (fun _ => ?_) (fun h => absurd (by decide) h)
    refine ziload dX8_two_77 rfl ?_
    refine ziconst (v := 2) dX8_two_79 (by decide) ?_
    refine zirem dX8_two_80 (by decide) ?_
    refine ziconst (v := 1) dX8_two_81 (by decide) ?_
    refine zicmp_ne (tgt := 106) dX8_two_82 (by decide) (fun h => absurd (by decide) h) (fun _ => ?_)
    refine zaload_n dX8_two_85 rfl ?_
    refine gf_X8_36 rfl dX8_two_86 ?_
    refine ziload_n dX8_two_89 rfl ?_
    refine ziload_n dX8_two_90 rfl ?_
    refine zcVf (ob_town (t := 1) (by decide)) gk_X8_130 dX8_two_91 (show zF x true mX7_canLend _ _ (some (.int (bI (canB _ a c)))) _ from c_X7_canLend (t := 1) (by decide) hT2 ha hc) rfl (by decide) (Nat.le_of_ble_eq_true rfl) ?_ rfl
    refine zifb_eq (tgt := 106) dX8_two_94 (by decide) (fun h => absurd (h.symm.trans hv) (by decide)) (fun _ => ?_)
    refine zaload_n dX8_two_97 rfl ?_
    refine gf_X8_36 rfl dX8_two_98 ?_
    refine ziload_n dX8_two_101 rfl ?_
    refine ziload_n dX8_two_102 rfl ?_
    refine zcVv (ob_town (t := 1) (by decide)) gk_X8_134 dX8_two_103 (c_X7_handOver (t := 1) (by decide) hT2 ha hc) rfl (by decide) (Nat.le_of_ble_eq_true rfl) ?_ rfl
    have hT2 := isT_hand (p := a) (q := c) hT2
    have hf2 := fr_hand (p := a) (q := c) hf2
    refine zaload_n dX8_two_106 rfl ?_
    refine gf_X8_36 rfl dX8_two_107 ?_
    refine ziload_n dX8_two_110 rfl ?_
    refine zcVn (ob_town (t := 1) (by decide)) gk_X8_166 dX8_two_111 (c_X7_goOn (t := 1) (by decide) hT2 hV (K := K) hK) rfl (by decide) (Nat.le_of_ble_eq_true rfl) (fun S4 hp4 => ?_) rfl
    obtain ⟨hT4, -, -, hf4⟩ := hp4
    refine zaload_n dX8_two_114 rfl ?_
    refine gf_X8_59 rfl dX8_two_115 ?_
    refine ziload dX8_two_118 rfl ?_
    refine zaload_n dX8_two_120 rfl ?_
    refine gf_X8_36 rfl dX8_two_121 ?_
    refine ziload_n dX8_two_124 rfl ?_
    refine zcVf (ob_town (t := 1) (by decide)) gk_X8_124 dX8_two_125 (c_X7_worthOf (t := 1) (by decide) hT4 ha) rfl (by decide) (Nat.le_of_ble_eq_true rfl) ?_ rfl
    refine ziast dX8_two_128 (by decide) rfl (by decide) (by omega) ?_
    refine zaload_n dX8_two_129 rfl ?_
    refine gf_X8_62 rfl dX8_two_130 ?_
    refine ziload dX8_two_133 rfl ?_
    refine zaload_n dX8_two_135 rfl ?_
    refine gf_X8_36 rfl dX8_two_136 ?_
    refine ziload_n dX8_two_139 rfl ?_
    refine zcVf (ob_town (t := 1) (by decide)) gk_X8_124 dX8_two_140 (c_X7_worthOf (t := 1) (by decide) (isT_far hT4) hc) rfl (by decide) (Nat.le_of_ble_eq_true rfl) ?_ rfl
    refine ziast dX8_two_143 (by decide) rfl (by decide) (by omega) ?_
    refine ziinc dX8_two_144 rfl rfl (by decide) rfl ?_
    refine zgoto (tgt := 33) dX8_two_147 (by decide) ?_
    refine zlvs (lv' := [(0, .ref (zad x 0)), (1, .int (nI a)), (2, .int (nI c)), (3, .int (nI K)), (5, .int (nI 2))]) ⟨rfl, rfl, rfl, rfl, rfl, trivial⟩ ?_
    exact kk _ ((hR.mind (hf2.trans hf4)).scr (fun k hk => by funext q; dsimp only; rw [u2_w (by omega), u2_w (by omega)]) rfl) (fun q => by dsimp only; rw [show S.1 37 = S4.1 37 from ((hf2.trans hf4).1 37 (by decide)).symm]; rw [u2_w (by decide)]; unfold u2; by_cases z : q = 1 <;> simp [z, twoW, wth, hE]) (fun q => by dsimp only; rw [show S.1 38 = S4.1 38 from ((hf2.trans hf4).1 38 (by decide)).symm]; unfold u2; by_cases z : q = 1 <;> simp [z, twoW, wth, hE])
  | false =>
    have hE : twoT (sT σ) a c false true = sT σ := by unfold twoT; rw [show lendIf false (sT σ) c a = sT σ from rfl]; unfold lendIf; rw [if_neg (fun z => by rw [hv] at z; exact absurd z.2 (by decide))]
    rw [hE] at hV
    refine ziload dX8_two_33 rfl ?_
    refine ziconst (v := 4) dX8_two_35 (by decide) ?_
    refine zicmp_ge (tgt := 150) dX8_two_36 (by decide) (fun h => absurd h (nI_ge (b := 4) (by decide) (by decide))) (fun _ => ?_)
    refine zaload_n dX8_two_39 rfl ?_
    refine gf_X8_36 rfl dX8_two_40 ?_
    refine zaload_n dX8_two_43 rfl ?_
    refine gf_X8_30 rfl dX8_two_44 ?_
    refine zcVn (ob_town (t := 1) (by decide)) gk_X8_88 dX8_two_47 (c_X7_becomeLike (t := 1) (u := 0) (by decide) (by decide) (by decide) hT) rfl (by decide) (Nat.le_of_ble_eq_true rfl) (fun S2 hp2 => ?_) rfl
    obtain ⟨hT2, -, hf2⟩ := hp2
    refine ziload dX8_two_50 rfl ?_
    refine ziconst (v := 2) dX8_two_52 (by decide) ?_
    refine zicmp_lt (tgt := 77) dX8_two_53 (by decide) (fun _ => ?_) (fun h => absurd (by decide) h)
    refine ziload dX8_two_77 rfl ?_
    refine ziconst (v := 2) dX8_two_79 (by decide) ?_
    refine zirem dX8_two_80 (by decide) ?_
    refine ziconst (v := 1) dX8_two_81 (by decide) ?_
    refine zicmp_ne (tgt := 106) dX8_two_82 (by decide) (fun h => absurd (by decide) h) (fun _ => ?_)
    refine zaload_n dX8_two_85 rfl ?_
    refine gf_X8_36 rfl dX8_two_86 ?_
    refine ziload_n dX8_two_89 rfl ?_
    refine ziload_n dX8_two_90 rfl ?_
    refine zcVf (ob_town (t := 1) (by decide)) gk_X8_130 dX8_two_91 (show zF x true mX7_canLend _ _ (some (.int (bI (canB _ a c)))) _ from c_X7_canLend (t := 1) (by decide) hT2 ha hc) rfl (by decide) (Nat.le_of_ble_eq_true rfl) ?_ rfl
    refine zifb_eq (tgt := 106) dX8_two_94 (by decide) (fun _ => ?_) (fun h => absurd (h.symm.trans hv) (by decide))
    refine zaload_n dX8_two_106 rfl ?_
    refine gf_X8_36 rfl dX8_two_107 ?_
    refine ziload_n dX8_two_110 rfl ?_
    refine zcVn (ob_town (t := 1) (by decide)) gk_X8_166 dX8_two_111 (c_X7_goOn (t := 1) (by decide) hT2 hV (K := K) hK) rfl (by decide) (Nat.le_of_ble_eq_true rfl) (fun S4 hp4 => ?_) rfl
    obtain ⟨hT4, -, -, hf4⟩ := hp4
    refine zaload_n dX8_two_114 rfl ?_
    refine gf_X8_59 rfl dX8_two_115 ?_
    refine ziload dX8_two_118 rfl ?_
    refine zaload_n dX8_two_120 rfl ?_
    refine gf_X8_36 rfl dX8_two_121 ?_
    refine ziload_n dX8_two_124 rfl ?_
    refine zcVf (ob_town (t := 1) (by decide)) gk_X8_124 dX8_two_125 (c_X7_worthOf (t := 1) (by decide) hT4 ha) rfl (by decide) (Nat.le_of_ble_eq_true rfl) ?_ rfl
    refine ziast dX8_two_128 (by decide) rfl (by decide) (by omega) ?_
    refine zaload_n dX8_two_129 rfl ?_
    refine gf_X8_62 rfl dX8_two_130 ?_
    refine ziload dX8_two_133 rfl ?_
    refine zaload_n dX8_two_135 rfl ?_
    refine gf_X8_36 rfl dX8_two_136 ?_
    refine ziload_n dX8_two_139 rfl ?_
    refine zcVf (ob_town (t := 1) (by decide)) gk_X8_124 dX8_two_140 (c_X7_worthOf (t := 1) (by decide) (isT_far hT4) hc) rfl (by decide) (Nat.le_of_ble_eq_true rfl) ?_ rfl
    refine ziast dX8_two_143 (by decide) rfl (by decide) (by omega) ?_
    refine ziinc dX8_two_144 rfl rfl (by decide) rfl ?_
    refine zgoto (tgt := 33) dX8_two_147 (by decide) ?_
    refine zlvs (lv' := [(0, .ref (zad x 0)), (1, .int (nI a)), (2, .int (nI c)), (3, .int (nI K)), (5, .int (nI 2))]) ⟨rfl, rfl, rfl, rfl, rfl, trivial⟩ ?_
    exact kk _ ((hR.mind (hf2.trans hf4)).scr (fun k hk => by funext q; dsimp only; rw [u2_w (by omega), u2_w (by omega)]) rfl) (fun q => by dsimp only; rw [show S.1 37 = S4.1 37 from ((hf2.trans hf4).1 37 (by decide)).symm]; rw [u2_w (by decide)]; unfold u2; by_cases z : q = 1 <;> simp [z, twoW, wth, hE]) (fun q => by dsimp only; rw [show S.1 38 = S4.1 38 from ((hf2.trans hf4).1 38 (by decide)).symm]; unfold u2; by_cases z : q = 1 <;> simp [z, twoW, wth, hE])
set_option maxRecDepth 100000 in
set_option maxHeartbeats 4000000 in
theorem l_X8_two2 (hR : RepC σ S) (hW : WS σ) {a c K : Nat} (ha : a < sN σ) (hc : c < sN σ) (hK : K < 2 ^ 31) {post : Option Value → zSt → Prop} (kk : ∀ S', RepC σ S' → (∀ q, S'.1 37 q = if q = 2 then twoW (sN σ) K (sT σ) a c a true false else S.1 37 q) → (∀ q, S'.1 38 q = if q = 2 then twoW (sN σ) K (sT σ) a c c true false else S.1 38 q) → zZ x true mX8_two post 33 [(0, .ref (zad x 0)), (1, .int (nI a)), (2, .int (nI c)), (3, .int (nI K)), (5, .int (nI 3))] [] S') : zZ x true mX8_two post 33 [(0, .ref (zad x 0)), (1, .int (nI a)), (2, .int (nI c)), (3, .int (nI K)), (5, .int (nI 2))] [] S := by
  have hT := hR.1
  have hn8 : sN σ ≤ 8 := hT.2.1
  have hV : VW (sN σ) (twoT (sT σ) a c true false) := (WFT_lendIf (WFT_lendIf hW.1 hc ha) ha hc).vw
  cases hu : canB (sT σ) c a with
  | true =>
    have hE : twoT (sT σ) a c true false = handT (sT σ) c a := by unfold twoT lendIf; rw [if_neg (fun z => absurd z.1 (by decide)), if_pos ⟨rfl, hu⟩]
    rw [hE] at hV
    refine ziload dX8_two_33 rfl ?_
    refine ziconst (v := 4) dX8_two_35 (by decide) ?_
    refine zicmp_ge (tgt := 150) dX8_two_36 (by decide) (fun h => absurd h (nI_ge (b := 4) (by decide) (by decide))) (fun _ => ?_)
    refine zaload_n dX8_two_39 rfl ?_
    refine gf_X8_36 rfl dX8_two_40 ?_
    refine zaload_n dX8_two_43 rfl ?_
    refine gf_X8_30 rfl dX8_two_44 ?_
    refine zcVn (ob_town (t := 1) (by decide)) gk_X8_88 dX8_two_47 (c_X7_becomeLike (t := 1) (u := 0) (by decide) (by decide) (by decide) hT) rfl (by decide) (Nat.le_of_ble_eq_true rfl) (fun S2 hp2 => ?_) rfl
    obtain ⟨hT2, -, hf2⟩ := hp2
    refine ziload dX8_two_50 rfl ?_
    refine ziconst (v := 2) dX8_two_52 (by decide) ?_
    refine zicmp_lt (tgt := 77) dX8_two_53 (by decide) (fun h => absurd h (by decide)) (fun _ => ?_)
    refine zaload_n dX8_two_56 rfl ?_
    refine gf_X8_36 rfl dX8_two_57 ?_
    refine ziload_n dX8_two_60 rfl ?_
    refine ziload_n dX8_two_61 rfl ?_
    refine zcVf (ob_town (t := 1) (by decide)) gk_X8_130 dX8_two_62 (show zF x true mX7_canLend _ S2 (some (.int (bI (canB (sT σ) c a)))) S2 from c_X7_canLend (t := 1) (by decide) hT2 hc ha) rfl (by decide) (Nat.le_of_ble_eq_true rfl) ?_ rfl
    refine zifb_eq (tgt := 77) dX8_two_65 (by decide) (fun h => absurd (h.symm.trans hu) (by decide)) (fun _ => ?_)
    refine zaload_n dX8_two_68 rfl ?_
    refine gf_X8_36 rfl dX8_two_69 ?_
    refine ziload_n dX8_two_72 rfl ?_
    refine ziload_n dX8_two_73 rfl ?_
    refine zcVv (ob_town (t := 1) (by decide)) gk_X8_134 dX8_two_74 (c_X7_handOver (t := 1) (by decide) hT2 hc ha) rfl (by decide) (Nat.le_of_ble_eq_true rfl) ?_ rfl
    have hT2 := isT_hand (p := c) (q := a) hT2
    have hf2 := fr_hand (p := c) (q := a) hf2
    refine ziload dX8_two_77 rfl ?_
    refine ziconst (v := 2) dX8_two_79 (by decide) ?_
    refine zirem dX8_two_80 (by decide) ?_
    refine ziconst (v := 1) dX8_two_81 (by decide) ?_
    refine zicmp_ne (tgt := 106) dX8_two_82 (by decide) (fun _ => ?_) (fun h => absurd h (by decide))
    refine zaload_n dX8_two_106 rfl ?_
    refine gf_X8_36 rfl dX8_two_107 ?_
    refine ziload_n dX8_two_110 rfl ?_
    refine zcVn (ob_town (t := 1) (by decide)) gk_X8_166 dX8_two_111 (c_X7_goOn (t := 1) (by decide) hT2 hV (K := K) hK) rfl (by decide) (Nat.le_of_ble_eq_true rfl) (fun S4 hp4 => ?_) rfl
    obtain ⟨hT4, -, -, hf4⟩ := hp4
    refine zaload_n dX8_two_114 rfl ?_
    refine gf_X8_59 rfl dX8_two_115 ?_
    refine ziload dX8_two_118 rfl ?_
    refine zaload_n dX8_two_120 rfl ?_
    refine gf_X8_36 rfl dX8_two_121 ?_
    refine ziload_n dX8_two_124 rfl ?_
    refine zcVf (ob_town (t := 1) (by decide)) gk_X8_124 dX8_two_125 (c_X7_worthOf (t := 1) (by decide) hT4 ha) rfl (by decide) (Nat.le_of_ble_eq_true rfl) ?_ rfl
    refine ziast dX8_two_128 (by decide) rfl (by decide) (by omega) ?_
    refine zaload_n dX8_two_129 rfl ?_
    refine gf_X8_62 rfl dX8_two_130 ?_
    refine ziload dX8_two_133 rfl ?_
    refine zaload_n dX8_two_135 rfl ?_
    refine gf_X8_36 rfl dX8_two_136 ?_
    refine ziload_n dX8_two_139 rfl ?_
    refine zcVf (ob_town (t := 1) (by decide)) gk_X8_124 dX8_two_140 (c_X7_worthOf (t := 1) (by decide) (isT_far hT4) hc) rfl (by decide) (Nat.le_of_ble_eq_true rfl) ?_ rfl
    refine ziast dX8_two_143 (by decide) rfl (by decide) (by omega) ?_
    refine ziinc dX8_two_144 rfl rfl (by decide) rfl ?_
    refine zgoto (tgt := 33) dX8_two_147 (by decide) ?_
    refine zlvs (lv' := [(0, .ref (zad x 0)), (1, .int (nI a)), (2, .int (nI c)), (3, .int (nI K)), (5, .int (nI 3))]) ⟨rfl, rfl, rfl, rfl, rfl, trivial⟩ ?_
    exact kk _ ((hR.mind (hf2.trans hf4)).scr (fun k hk => by funext q; dsimp only; rw [u2_w (by omega), u2_w (by omega)]) rfl) (fun q => by dsimp only; rw [show S.1 37 = S4.1 37 from ((hf2.trans hf4).1 37 (by decide)).symm]; rw [u2_w (by decide)]; unfold u2; by_cases z : q = 2 <;> simp [z, twoW, wth, hE]) (fun q => by dsimp only; rw [show S.1 38 = S4.1 38 from ((hf2.trans hf4).1 38 (by decide)).symm]; unfold u2; by_cases z : q = 2 <;> simp [z, twoW, wth, hE])
  | false =>
    have hE : twoT (sT σ) a c true false = sT σ := by unfold twoT lendIf; rw [if_neg (fun z => absurd z.1 (by decide)), if_neg (fun z => by rw [hu] at z; exact absurd z.2 (by decide))]
    rw [hE] at hV
    refine ziload dX8_two_33 rfl ?_
    refine ziconst (v := 4) dX8_two_35 (by decide) ?_
    refine zicmp_ge (tgt := 150) dX8_two_36 (by decide) (fun h => absurd h (nI_ge (b := 4) (by decide) (by decide))) (fun _ => ?_)
    refine zaload_n dX8_two_39 rfl ?_
    refine gf_X8_36 rfl dX8_two_40 ?_
    refine zaload_n dX8_two_43 rfl ?_
    refine gf_X8_30 rfl dX8_two_44 ?_
    refine zcVn (ob_town (t := 1) (by decide)) gk_X8_88 dX8_two_47 (c_X7_becomeLike (t := 1) (u := 0) (by decide) (by decide) (by decide) hT) rfl (by decide) (Nat.le_of_ble_eq_true rfl) (fun S2 hp2 => ?_) rfl
    obtain ⟨hT2, -, hf2⟩ := hp2
    refine ziload dX8_two_50 rfl ?_
    refine ziconst (v := 2) dX8_two_52 (by decide) ?_
    refine zicmp_lt (tgt := 77) dX8_two_53 (by decide) (fun h => absurd h (by decide)) (fun _ => ?_)
    refine zaload_n dX8_two_56 rfl ?_
    refine gf_X8_36 rfl dX8_two_57 ?_
    refine ziload_n dX8_two_60 rfl ?_
    refine ziload_n dX8_two_61 rfl ?_
    refine zcVf (ob_town (t := 1) (by decide)) gk_X8_130 dX8_two_62 (show zF x true mX7_canLend _ S2 (some (.int (bI (canB (sT σ) c a)))) S2 from c_X7_canLend (t := 1) (by decide) hT2 hc ha) rfl (by decide) (Nat.le_of_ble_eq_true rfl) ?_ rfl
    refine zifb_eq (tgt := 77) dX8_two_65 (by decide) (fun _ => ?_) (fun h => absurd (h.symm.trans hu) (by decide))
    refine ziload dX8_two_77 rfl ?_
    refine ziconst (v := 2) dX8_two_79 (by decide) ?_
    refine zirem dX8_two_80 (by decide) ?_
    refine ziconst (v := 1) dX8_two_81 (by decide) ?_
    refine zicmp_ne (tgt := 106) dX8_two_82 (by decide) (fun _ => ?_) (fun h => absurd h (by decide))
    refine zaload_n dX8_two_106 rfl ?_
    refine gf_X8_36 rfl dX8_two_107 ?_
    refine ziload_n dX8_two_110 rfl ?_
    refine zcVn (ob_town (t := 1) (by decide)) gk_X8_166 dX8_two_111 (c_X7_goOn (t := 1) (by decide) hT2 hV (K := K) hK) rfl (by decide) (Nat.le_of_ble_eq_true rfl) (fun S4 hp4 => ?_) rfl
    obtain ⟨hT4, -, -, hf4⟩ := hp4
    refine zaload_n dX8_two_114 rfl ?_
    refine gf_X8_59 rfl dX8_two_115 ?_
    refine ziload dX8_two_118 rfl ?_
    refine zaload_n dX8_two_120 rfl ?_
    refine gf_X8_36 rfl dX8_two_121 ?_
    refine ziload_n dX8_two_124 rfl ?_
    refine zcVf (ob_town (t := 1) (by decide)) gk_X8_124 dX8_two_125 (c_X7_worthOf (t := 1) (by decide) hT4 ha) rfl (by decide) (Nat.le_of_ble_eq_true rfl) ?_ rfl
    refine ziast dX8_two_128 (by decide) rfl (by decide) (by omega) ?_
    refine zaload_n dX8_two_129 rfl ?_
    refine gf_X8_62 rfl dX8_two_130 ?_
    refine ziload dX8_two_133 rfl ?_
    refine zaload_n dX8_two_135 rfl ?_
    refine gf_X8_36 rfl dX8_two_136 ?_
    refine ziload_n dX8_two_139 rfl ?_
    refine zcVf (ob_town (t := 1) (by decide)) gk_X8_124 dX8_two_140 (c_X7_worthOf (t := 1) (by decide) (isT_far hT4) hc) rfl (by decide) (Nat.le_of_ble_eq_true rfl) ?_ rfl
    refine ziast dX8_two_143 (by decide) rfl (by decide) (by omega) ?_
    refine ziinc dX8_two_144 rfl rfl (by decide) rfl ?_
    refine zgoto (tgt := 33) dX8_two_147 (by decide) ?_
    refine zlvs (lv' := [(0, .ref (zad x 0)), (1, .int (nI a)), (2, .int (nI c)), (3, .int (nI K)), (5, .int (nI 3))]) ⟨rfl, rfl, rfl, rfl, rfl, trivial⟩ ?_
    exact kk _ ((hR.mind (hf2.trans hf4)).scr (fun k hk => by funext q; dsimp only; rw [u2_w (by omega), u2_w (by omega)]) rfl) (fun q => by dsimp only; rw [show S.1 37 = S4.1 37 from ((hf2.trans hf4).1 37 (by decide)).symm]; rw [u2_w (by decide)]; unfold u2; by_cases z : q = 2 <;> simp [z, twoW, wth, hE]) (fun q => by dsimp only; rw [show S.1 38 = S4.1 38 from ((hf2.trans hf4).1 38 (by decide)).symm]; unfold u2; by_cases z : q = 2 <;> simp [z, twoW, wth, hE])
set_option maxRecDepth 100000 in
set_option maxHeartbeats 4000000 in
theorem l_X8_two3 (hR : RepC σ S) (hW : WS σ) {a c K : Nat} (ha : a < sN σ) (hc : c < sN σ) (hK : K < 2 ^ 31) {post : Option Value → zSt → Prop} (kk : ∀ S', RepC σ S' → (∀ q, S'.1 37 q = if q = 3 then twoW (sN σ) K (sT σ) a c a true true else S.1 37 q) → (∀ q, S'.1 38 q = if q = 3 then twoW (sN σ) K (sT σ) a c c true true else S.1 38 q) → zZ x true mX8_two post 33 [(0, .ref (zad x 0)), (1, .int (nI a)), (2, .int (nI c)), (3, .int (nI K)), (5, .int (nI 4))] [] S') : zZ x true mX8_two post 33 [(0, .ref (zad x 0)), (1, .int (nI a)), (2, .int (nI c)), (3, .int (nI K)), (5, .int (nI 3))] [] S := by
  have hT := hR.1
  have hn8 : sN σ ≤ 8 := hT.2.1
  have hV : VW (sN σ) (twoT (sT σ) a c true true) := (WFT_lendIf (WFT_lendIf hW.1 hc ha) ha hc).vw
  cases hu : canB (sT σ) c a with
  | true =>
    have hL : lendIf true (sT σ) c a = handT (sT σ) c a := by unfold lendIf; rw [if_pos ⟨rfl, hu⟩]
    cases hv : canB (handT (sT σ) c a) a c with
    | true =>
      have hE : twoT (sT σ) a c true true = handT (handT (sT σ) c a) a c := by unfold twoT; rw [hL]; unfold lendIf; rw [if_pos ⟨rfl, hv⟩]
      rw [hE] at hV
      refine ziload dX8_two_33 rfl ?_
      refine ziconst (v := 4) dX8_two_35 (by decide) ?_
      refine zicmp_ge (tgt := 150) dX8_two_36 (by decide) (fun h => absurd h (nI_ge (b := 4) (by decide) (by decide))) (fun _ => ?_)
      refine zaload_n dX8_two_39 rfl ?_
      refine gf_X8_36 rfl dX8_two_40 ?_
      refine zaload_n dX8_two_43 rfl ?_
      refine gf_X8_30 rfl dX8_two_44 ?_
      refine zcVn (ob_town (t := 1) (by decide)) gk_X8_88 dX8_two_47 (c_X7_becomeLike (t := 1) (u := 0) (by decide) (by decide) (by decide) hT) rfl (by decide) (Nat.le_of_ble_eq_true rfl) (fun S2 hp2 => ?_) rfl
      obtain ⟨hT2, -, hf2⟩ := hp2
      refine ziload dX8_two_50 rfl ?_
      refine ziconst (v := 2) dX8_two_52 (by decide) ?_
      refine zicmp_lt (tgt := 77) dX8_two_53 (by decide) (fun h => absurd h (by decide)) (fun _ => ?_)
      refine zaload_n dX8_two_56 rfl ?_
      refine gf_X8_36 rfl dX8_two_57 ?_
      refine ziload_n dX8_two_60 rfl ?_
      refine ziload_n dX8_two_61 rfl ?_
      refine zcVf (ob_town (t := 1) (by decide)) gk_X8_130 dX8_two_62 (show zF x true mX7_canLend _ S2 (some (.int (bI (canB (sT σ) c a)))) S2 from c_X7_canLend (t := 1) (by decide) hT2 hc ha) rfl (by decide) (Nat.le_of_ble_eq_true rfl) ?_ rfl
      refine zifb_eq (tgt := 77) dX8_two_65 (by decide) (fun h => absurd (h.symm.trans hu) (by decide)) (fun _ => ?_)
      refine zaload_n dX8_two_68 rfl ?_
      refine gf_X8_36 rfl dX8_two_69 ?_
      refine ziload_n dX8_two_72 rfl ?_
      refine ziload_n dX8_two_73 rfl ?_
      refine zcVv (ob_town (t := 1) (by decide)) gk_X8_134 dX8_two_74 (c_X7_handOver (t := 1) (by decide) hT2 hc ha) rfl (by decide) (Nat.le_of_ble_eq_true rfl) ?_ rfl
      have hT2 := isT_hand (p := c) (q := a) hT2
      have hf2 := fr_hand (p := c) (q := a) hf2
      refine ziload dX8_two_77 rfl ?_
      refine ziconst (v := 2) dX8_two_79 (by decide) ?_
      refine zirem dX8_two_80 (by decide) ?_
      refine ziconst (v := 1) dX8_two_81 (by decide) ?_
      refine zicmp_ne (tgt := 106) dX8_two_82 (by decide) (fun h => absurd (by decide) h) (fun _ => ?_)
      refine zaload_n dX8_two_85 rfl ?_
      refine gf_X8_36 rfl dX8_two_86 ?_
      refine ziload_n dX8_two_89 rfl ?_
      refine ziload_n dX8_two_90 rfl ?_
      refine zcVf (ob_town (t := 1) (by decide)) gk_X8_130 dX8_two_91 (show zF x true mX7_canLend _ _ (some (.int (bI (canB _ a c)))) _ from c_X7_canLend (t := 1) (by decide) hT2 ha hc) rfl (by decide) (Nat.le_of_ble_eq_true rfl) ?_ rfl
      refine zifb_eq (tgt := 106) dX8_two_94 (by decide) (fun h => absurd (h.symm.trans hv) (by decide)) (fun _ => ?_)
      refine zaload_n dX8_two_97 rfl ?_
      refine gf_X8_36 rfl dX8_two_98 ?_
      refine ziload_n dX8_two_101 rfl ?_
      refine ziload_n dX8_two_102 rfl ?_
      refine zcVv (ob_town (t := 1) (by decide)) gk_X8_134 dX8_two_103 (c_X7_handOver (t := 1) (by decide) hT2 ha hc) rfl (by decide) (Nat.le_of_ble_eq_true rfl) ?_ rfl
      have hT2 := isT_hand (p := a) (q := c) hT2
      have hf2 := fr_hand (p := a) (q := c) hf2
      refine zaload_n dX8_two_106 rfl ?_
      refine gf_X8_36 rfl dX8_two_107 ?_
      refine ziload_n dX8_two_110 rfl ?_
      refine zcVn (ob_town (t := 1) (by decide)) gk_X8_166 dX8_two_111 (c_X7_goOn (t := 1) (by decide) hT2 hV (K := K) hK) rfl (by decide) (Nat.le_of_ble_eq_true rfl) (fun S4 hp4 => ?_) rfl
      obtain ⟨hT4, -, -, hf4⟩ := hp4
      refine zaload_n dX8_two_114 rfl ?_
      refine gf_X8_59 rfl dX8_two_115 ?_
      refine ziload dX8_two_118 rfl ?_
      refine zaload_n dX8_two_120 rfl ?_
      refine gf_X8_36 rfl dX8_two_121 ?_
      refine ziload_n dX8_two_124 rfl ?_
      refine zcVf (ob_town (t := 1) (by decide)) gk_X8_124 dX8_two_125 (c_X7_worthOf (t := 1) (by decide) hT4 ha) rfl (by decide) (Nat.le_of_ble_eq_true rfl) ?_ rfl
      refine ziast dX8_two_128 (by decide) rfl (by decide) (by omega) ?_
      refine zaload_n dX8_two_129 rfl ?_
      refine gf_X8_62 rfl dX8_two_130 ?_
      refine ziload dX8_two_133 rfl ?_
      refine zaload_n dX8_two_135 rfl ?_
      refine gf_X8_36 rfl dX8_two_136 ?_
      refine ziload_n dX8_two_139 rfl ?_
      refine zcVf (ob_town (t := 1) (by decide)) gk_X8_124 dX8_two_140 (c_X7_worthOf (t := 1) (by decide) (isT_far hT4) hc) rfl (by decide) (Nat.le_of_ble_eq_true rfl) ?_ rfl
      refine ziast dX8_two_143 (by decide) rfl (by decide) (by omega) ?_
      refine ziinc dX8_two_144 rfl rfl (by decide) rfl ?_
      refine zgoto (tgt := 33) dX8_two_147 (by decide) ?_
      refine zlvs (lv' := [(0, .ref (zad x 0)), (1, .int (nI a)), (2, .int (nI c)), (3, .int (nI K)), (5, .int (nI 4))]) ⟨rfl, rfl, rfl, rfl, rfl, trivial⟩ ?_
      exact kk _ ((hR.mind (hf2.trans hf4)).scr (fun k hk => by funext q; dsimp only; rw [u2_w (by omega), u2_w (by omega)]) rfl) (fun q => by dsimp only; rw [show S.1 37 = S4.1 37 from ((hf2.trans hf4).1 37 (by decide)).symm]; rw [u2_w (by decide)]; unfold u2; by_cases z : q = 3 <;> simp [z, twoW, wth, hE]) (fun q => by dsimp only; rw [show S.1 38 = S4.1 38 from ((hf2.trans hf4).1 38 (by decide)).symm]; unfold u2; by_cases z : q = 3 <;> simp [z, twoW, wth, hE])
    | false =>
      have hE : twoT (sT σ) a c true true = handT (sT σ) c a := by unfold twoT; rw [hL]; unfold lendIf; rw [if_neg (fun z => by rw [hv] at z; exact absurd z.2 (by decide))]
      rw [hE] at hV
      refine ziload dX8_two_33 rfl ?_
      refine ziconst (v := 4) dX8_two_35 (by decide) ?_
      refine zicmp_ge (tgt := 150) dX8_two_36 (by decide) (fun h => absurd h (nI_ge (b := 4) (by decide) (by decide))) (fun _ => ?_)
      refine zaload_n dX8_two_39 rfl ?_
      refine gf_X8_36 rfl dX8_two_40 ?_
      refine zaload_n dX8_two_43 rfl ?_
      refine gf_X8_30 rfl dX8_two_44 ?_
      refine zcVn (ob_town (t := 1) (by decide)) gk_X8_88 dX8_two_47 (c_X7_becomeLike (t := 1) (u := 0) (by decide) (by decide) (by decide) hT) rfl (by decide) (Nat.le_of_ble_eq_true rfl) (fun S2 hp2 => ?_) rfl
      obtain ⟨hT2, -, hf2⟩ := hp2
      refine ziload dX8_two_50 rfl ?_
      refine ziconst (v := 2) dX8_two_52 (by decide) ?_
      refine zicmp_lt (tgt := 77) dX8_two_53 (by decide) (fun h => absurd h (by decide)) (fun _ => ?_)
      refine zaload_n dX8_two_56 rfl ?_
      refine gf_X8_36 rfl dX8_two_57 ?_
      refine ziload_n dX8_two_60 rfl ?_
      refine ziload_n dX8_two_61 rfl ?_
      refine zcVf (ob_town (t := 1) (by decide)) gk_X8_130 dX8_two_62 (show zF x true mX7_canLend _ S2 (some (.int (bI (canB (sT σ) c a)))) S2 from c_X7_canLend (t := 1) (by decide) hT2 hc ha) rfl (by decide) (Nat.le_of_ble_eq_true rfl) ?_ rfl
      refine zifb_eq (tgt := 77) dX8_two_65 (by decide) (fun h => absurd (h.symm.trans hu) (by decide)) (fun _ => ?_)
      refine zaload_n dX8_two_68 rfl ?_
      refine gf_X8_36 rfl dX8_two_69 ?_
      refine ziload_n dX8_two_72 rfl ?_
      refine ziload_n dX8_two_73 rfl ?_
      refine zcVv (ob_town (t := 1) (by decide)) gk_X8_134 dX8_two_74 (c_X7_handOver (t := 1) (by decide) hT2 hc ha) rfl (by decide) (Nat.le_of_ble_eq_true rfl) ?_ rfl
      have hT2 := isT_hand (p := c) (q := a) hT2
      have hf2 := fr_hand (p := c) (q := a) hf2
      refine ziload dX8_two_77 rfl ?_
      refine ziconst (v := 2) dX8_two_79 (by decide) ?_
      refine zirem dX8_two_80 (by decide) ?_
      refine ziconst (v := 1) dX8_two_81 (by decide) ?_
      refine zicmp_ne (tgt := 106) dX8_two_82 (by decide) (fun h => absurd (by decide) h) (fun _ => ?_)
      refine zaload_n dX8_two_85 rfl ?_
      refine gf_X8_36 rfl dX8_two_86 ?_
      refine ziload_n dX8_two_89 rfl ?_
      refine ziload_n dX8_two_90 rfl ?_
      refine zcVf (ob_town (t := 1) (by decide)) gk_X8_130 dX8_two_91 (show zF x true mX7_canLend _ _ (some (.int (bI (canB _ a c)))) _ from c_X7_canLend (t := 1) (by decide) hT2 ha hc) rfl (by decide) (Nat.le_of_ble_eq_true rfl) ?_ rfl
      refine zifb_eq (tgt := 106) dX8_two_94 (by decide) (fun _ => ?_) (fun h => absurd (h.symm.trans hv) (by decide))
      refine zaload_n dX8_two_106 rfl ?_
      refine gf_X8_36 rfl dX8_two_107 ?_
      refine ziload_n dX8_two_110 rfl ?_
      refine zcVn (ob_town (t := 1) (by decide)) gk_X8_166 dX8_two_111 (c_X7_goOn (t := 1) (by decide) hT2 hV (K := K) hK) rfl (by decide) (Nat.le_of_ble_eq_true rfl) (fun S4 hp4 => ?_) rfl
      obtain ⟨hT4, -, -, hf4⟩ := hp4
      refine zaload_n dX8_two_114 rfl ?_
      refine gf_X8_59 rfl dX8_two_115 ?_
      refine ziload dX8_two_118 rfl ?_
      refine zaload_n dX8_two_120 rfl ?_
      refine gf_X8_36 rfl dX8_two_121 ?_
      refine ziload_n dX8_two_124 rfl ?_
      refine zcVf (ob_town (t := 1) (by decide)) gk_X8_124 dX8_two_125 (c_X7_worthOf (t := 1) (by decide) hT4 ha) rfl (by decide) (Nat.le_of_ble_eq_true rfl) ?_ rfl
      refine ziast dX8_two_128 (by decide) rfl (by decide) (by omega) ?_
      refine zaload_n dX8_two_129 rfl ?_
      refine gf_X8_62 rfl dX8_two_130 ?_
      refine ziload dX8_two_133 rfl ?_
      refine zaload_n dX8_two_135 rfl ?_
      refine gf_X8_36 rfl dX8_two_136 ?_
      refine ziload_n dX8_two_139 rfl ?_
      refine zcVf (ob_town (t := 1) (by decide)) gk_X8_124 dX8_two_140 (c_X7_worthOf (t := 1) (by decide) (isT_far hT4) hc) rfl (by decide) (Nat.le_of_ble_eq_true rfl) ?_ rfl
      refine ziast dX8_two_143 (by decide) rfl (by decide) (by omega) ?_
      refine ziinc dX8_two_144 rfl rfl (by decide) rfl ?_
      refine zgoto (tgt := 33) dX8_two_147 (by decide) ?_
      refine zlvs (lv' := [(0, .ref (zad x 0)), (1, .int (nI a)), (2, .int (nI c)), (3, .int (nI K)), (5, .int (nI 4))]) ⟨rfl, rfl, rfl, rfl, rfl, trivial⟩ ?_
      exact kk _ ((hR.mind (hf2.trans hf4)).scr (fun k hk => by funext q; dsimp only; rw [u2_w (by omega), u2_w (by omega)]) rfl) (fun q => by dsimp only; rw [show S.1 37 = S4.1 37 from ((hf2.trans hf4).1 37 (by decide)).symm]; rw [u2_w (by decide)]; unfold u2; by_cases z : q = 3 <;> simp [z, twoW, wth, hE]) (fun q => by dsimp only; rw [show S.1 38 = S4.1 38 from ((hf2.trans hf4).1 38 (by decide)).symm]; unfold u2; by_cases z : q = 3 <;> simp [z, twoW, wth, hE])
  | false =>
    have hL : lendIf true (sT σ) c a = sT σ := by unfold lendIf; rw [if_neg (fun z => by rw [hu] at z; exact absurd z.2 (by decide))]
    cases hv : canB (sT σ) a c with
    | true =>
      have hE : twoT (sT σ) a c true true = handT (sT σ) a c := by unfold twoT; rw [hL]; unfold lendIf; rw [if_pos ⟨rfl, hv⟩]
      rw [hE] at hV
      refine ziload dX8_two_33 rfl ?_
      refine ziconst (v := 4) dX8_two_35 (by decide) ?_
      refine zicmp_ge (tgt := 150) dX8_two_36 (by decide) (fun h => absurd h (nI_ge (b := 4) (by decide) (by decide))) (fun _ => ?_)
      refine zaload_n dX8_two_39 rfl ?_
      refine gf_X8_36 rfl dX8_two_40 ?_
      refine zaload_n dX8_two_43 rfl ?_
      refine gf_X8_30 rfl dX8_two_44 ?_
      refine zcVn (ob_town (t := 1) (by decide)) gk_X8_88 dX8_two_47 (c_X7_becomeLike (t := 1) (u := 0) (by decide) (by decide) (by decide) hT) rfl (by decide) (Nat.le_of_ble_eq_true rfl) (fun S2 hp2 => ?_) rfl
      obtain ⟨hT2, -, hf2⟩ := hp2
      refine ziload dX8_two_50 rfl ?_
      refine ziconst (v := 2) dX8_two_52 (by decide) ?_
      refine zicmp_lt (tgt := 77) dX8_two_53 (by decide) (fun h => absurd h (by decide)) (fun _ => ?_)
      refine zaload_n dX8_two_56 rfl ?_
      refine gf_X8_36 rfl dX8_two_57 ?_
      refine ziload_n dX8_two_60 rfl ?_
      refine ziload_n dX8_two_61 rfl ?_
      refine zcVf (ob_town (t := 1) (by decide)) gk_X8_130 dX8_two_62 (show zF x true mX7_canLend _ S2 (some (.int (bI (canB (sT σ) c a)))) S2 from c_X7_canLend (t := 1) (by decide) hT2 hc ha) rfl (by decide) (Nat.le_of_ble_eq_true rfl) ?_ rfl
      refine zifb_eq (tgt := 77) dX8_two_65 (by decide) (fun _ => ?_) (fun h => absurd (h.symm.trans hu) (by decide))
      refine ziload dX8_two_77 rfl ?_
      refine ziconst (v := 2) dX8_two_79 (by decide) ?_
      refine zirem dX8_two_80 (by decide) ?_
      refine ziconst (v := 1) dX8_two_81 (by decide) ?_
      refine zicmp_ne (tgt := 106) dX8_two_82 (by decide) (fun h => absurd (by decide) h) (fun _ => ?_)
      refine zaload_n dX8_two_85 rfl ?_
      refine gf_X8_36 rfl dX8_two_86 ?_
      refine ziload_n dX8_two_89 rfl ?_
      refine ziload_n dX8_two_90 rfl ?_
      refine zcVf (ob_town (t := 1) (by decide)) gk_X8_130 dX8_two_91 (show zF x true mX7_canLend _ _ (some (.int (bI (canB _ a c)))) _ from c_X7_canLend (t := 1) (by decide) hT2 ha hc) rfl (by decide) (Nat.le_of_ble_eq_true rfl) ?_ rfl
      refine zifb_eq (tgt := 106) dX8_two_94 (by decide) (fun h => absurd (h.symm.trans hv) (by decide)) (fun _ => ?_)
      refine zaload_n dX8_two_97 rfl ?_
      refine gf_X8_36 rfl dX8_two_98 ?_
      refine ziload_n dX8_two_101 rfl ?_
      refine ziload_n dX8_two_102 rfl ?_
      refine zcVv (ob_town (t := 1) (by decide)) gk_X8_134 dX8_two_103 (c_X7_handOver (t := 1) (by decide) hT2 ha hc) rfl (by decide) (Nat.le_of_ble_eq_true rfl) ?_ rfl
      have hT2 := isT_hand (p := a) (q := c) hT2
      have hf2 := fr_hand (p := a) (q := c) hf2
      refine zaload_n dX8_two_106 rfl ?_
      refine gf_X8_36 rfl dX8_two_107 ?_
      refine ziload_n dX8_two_110 rfl ?_
      refine zcVn (ob_town (t := 1) (by decide)) gk_X8_166 dX8_two_111 (c_X7_goOn (t := 1) (by decide) hT2 hV (K := K) hK) rfl (by decide) (Nat.le_of_ble_eq_true rfl) (fun S4 hp4 => ?_) rfl
      obtain ⟨hT4, -, -, hf4⟩ := hp4
      refine zaload_n dX8_two_114 rfl ?_
      refine gf_X8_59 rfl dX8_two_115 ?_
      refine ziload dX8_two_118 rfl ?_
      refine zaload_n dX8_two_120 rfl ?_
      refine gf_X8_36 rfl dX8_two_121 ?_
      refine ziload_n dX8_two_124 rfl ?_
      refine zcVf (ob_town (t := 1) (by decide)) gk_X8_124 dX8_two_125 (c_X7_worthOf (t := 1) (by decide) hT4 ha) rfl (by decide) (Nat.le_of_ble_eq_true rfl) ?_ rfl
      refine ziast dX8_two_128 (by decide) rfl (by decide) (by omega) ?_
      refine zaload_n dX8_two_129 rfl ?_
      refine gf_X8_62 rfl dX8_two_130 ?_
      refine ziload dX8_two_133 rfl ?_
      refine zaload_n dX8_two_135 rfl ?_
      refine gf_X8_36 rfl dX8_two_136 ?_
      refine ziload_n dX8_two_139 rfl ?_
      refine zcVf (ob_town (t := 1) (by decide)) gk_X8_124 dX8_two_140 (c_X7_worthOf (t := 1) (by decide) (isT_far hT4) hc) rfl (by decide) (Nat.le_of_ble_eq_true rfl) ?_ rfl
      refine ziast dX8_two_143 (by decide) rfl (by decide) (by omega) ?_
      refine ziinc dX8_two_144 rfl rfl (by decide) rfl ?_
      refine zgoto (tgt := 33) dX8_two_147 (by decide) ?_
      refine zlvs (lv' := [(0, .ref (zad x 0)), (1, .int (nI a)), (2, .int (nI c)), (3, .int (nI K)), (5, .int (nI 4))]) ⟨rfl, rfl, rfl, rfl, rfl, trivial⟩ ?_
      exact kk _ ((hR.mind (hf2.trans hf4)).scr (fun k hk => by funext q; dsimp only; rw [u2_w (by omega), u2_w (by omega)]) rfl) (fun q => by dsimp only; rw [show S.1 37 = S4.1 37 from ((hf2.trans hf4).1 37 (by decide)).symm]; rw [u2_w (by decide)]; unfold u2; by_cases z : q = 3 <;> simp [z, twoW, wth, hE]) (fun q => by dsimp only; rw [show S.1 38 = S4.1 38 from ((hf2.trans hf4).1 38 (by decide)).symm]; unfold u2; by_cases z : q = 3 <;> simp [z, twoW, wth, hE])
    | false =>
      have hE : twoT (sT σ) a c true true = sT σ := by unfold twoT; rw [hL]; unfold lendIf; rw [if_neg (fun z => by rw [hv] at z; exact absurd z.2 (by decide))]
      rw [hE] at hV
      refine ziload dX8_two_33 rfl ?_
      refine ziconst (v := 4) dX8_two_35 (by decide) ?_
      refine zicmp_ge (tgt := 150) dX8_two_36 (by decide) (fun h => absurd h (nI_ge (b := 4) (by decide) (by decide))) (fun _ => ?_)
      refine zaload_n dX8_two_39 rfl ?_
      refine gf_X8_36 rfl dX8_two_40 ?_
      refine zaload_n dX8_two_43 rfl ?_
      refine gf_X8_30 rfl dX8_two_44 ?_
      refine zcVn (ob_town (t := 1) (by decide)) gk_X8_88 dX8_two_47 (c_X7_becomeLike (t := 1) (u := 0) (by decide) (by decide) (by decide) hT) rfl (by decide) (Nat.le_of_ble_eq_true rfl) (fun S2 hp2 => ?_) rfl
      obtain ⟨hT2, -, hf2⟩ := hp2
      refine ziload dX8_two_50 rfl ?_
      refine ziconst (v := 2) dX8_two_52 (by decide) ?_
      refine zicmp_lt (tgt := 77) dX8_two_53 (by decide) (fun h => absurd h (by decide)) (fun _ => ?_)
      refine zaload_n dX8_two_56 rfl ?_
      refine gf_X8_36 rfl dX8_two_57 ?_
      refine ziload_n dX8_two_60 rfl ?_
      refine ziload_n dX8_two_61 rfl ?_
      refine zcVf (ob_town (t := 1) (by decide)) gk_X8_130 dX8_two_62 (show zF x true mX7_canLend _ S2 (some (.int (bI (canB (sT σ) c a)))) S2 from c_X7_canLend (t := 1) (by decide) hT2 hc ha) rfl (by decide) (Nat.le_of_ble_eq_true rfl) ?_ rfl
      refine zifb_eq (tgt := 77) dX8_two_65 (by decide) (fun _ => ?_) (fun h => absurd (h.symm.trans hu) (by decide))
      refine ziload dX8_two_77 rfl ?_
      refine ziconst (v := 2) dX8_two_79 (by decide) ?_
      refine zirem dX8_two_80 (by decide) ?_
      refine ziconst (v := 1) dX8_two_81 (by decide) ?_
      refine zicmp_ne (tgt := 106) dX8_two_82 (by decide) (fun h => absurd (by decide) h) (fun _ => ?_)
      refine zaload_n dX8_two_85 rfl ?_
      refine gf_X8_36 rfl dX8_two_86 ?_
      refine ziload_n dX8_two_89 rfl ?_
      refine ziload_n dX8_two_90 rfl ?_
      refine zcVf (ob_town (t := 1) (by decide)) gk_X8_130 dX8_two_91 (show zF x true mX7_canLend _ _ (some (.int (bI (canB _ a c)))) _ from c_X7_canLend (t := 1) (by decide) hT2 ha hc) rfl (by decide) (Nat.le_of_ble_eq_true rfl) ?_ rfl
      refine zifb_eq (tgt := 106) dX8_two_94 (by decide) (fun _ => ?_) (fun h => absurd (h.symm.trans hv) (by decide))
      refine zaload_n dX8_two_106 rfl ?_
      refine gf_X8_36 rfl dX8_two_107 ?_
      refine ziload_n dX8_two_110 rfl ?_
      refine zcVn (ob_town (t := 1) (by decide)) gk_X8_166 dX8_two_111 (c_X7_goOn (t := 1) (by decide) hT2 hV (K := K) hK) rfl (by decide) (Nat.le_of_ble_eq_true rfl) (fun S4 hp4 => ?_) rfl
      obtain ⟨hT4, -, -, hf4⟩ := hp4
      refine zaload_n dX8_two_114 rfl ?_
      refine gf_X8_59 rfl dX8_two_115 ?_
      refine ziload dX8_two_118 rfl ?_
      refine zaload_n dX8_two_120 rfl ?_
      refine gf_X8_36 rfl dX8_two_121 ?_
      refine ziload_n dX8_two_124 rfl ?_
      refine zcVf (ob_town (t := 1) (by decide)) gk_X8_124 dX8_two_125 (c_X7_worthOf (t := 1) (by decide) hT4 ha) rfl (by decide) (Nat.le_of_ble_eq_true rfl) ?_ rfl
      refine ziast dX8_two_128 (by decide) rfl (by decide) (by omega) ?_
      refine zaload_n dX8_two_129 rfl ?_
      refine gf_X8_62 rfl dX8_two_130 ?_
      refine ziload dX8_two_133 rfl ?_
      refine zaload_n dX8_two_135 rfl ?_
      refine gf_X8_36 rfl dX8_two_136 ?_
      refine ziload_n dX8_two_139 rfl ?_
      refine zcVf (ob_town (t := 1) (by decide)) gk_X8_124 dX8_two_140 (c_X7_worthOf (t := 1) (by decide) (isT_far hT4) hc) rfl (by decide) (Nat.le_of_ble_eq_true rfl) ?_ rfl
      refine ziast dX8_two_143 (by decide) rfl (by decide) (by omega) ?_
      refine ziinc dX8_two_144 rfl rfl (by decide) rfl ?_
      refine zgoto (tgt := 33) dX8_two_147 (by decide) ?_
      refine zlvs (lv' := [(0, .ref (zad x 0)), (1, .int (nI a)), (2, .int (nI c)), (3, .int (nI K)), (5, .int (nI 4))]) ⟨rfl, rfl, rfl, rfl, rfl, trivial⟩ ?_
      exact kk _ ((hR.mind (hf2.trans hf4)).scr (fun k hk => by funext q; dsimp only; rw [u2_w (by omega), u2_w (by omega)]) rfl) (fun q => by dsimp only; rw [show S.1 37 = S4.1 37 from ((hf2.trans hf4).1 37 (by decide)).symm]; rw [u2_w (by decide)]; unfold u2; by_cases z : q = 3 <;> simp [z, twoW, wth, hE]) (fun q => by dsimp only; rw [show S.1 38 = S4.1 38 from ((hf2.trans hf4).1 38 (by decide)).symm]; unfold u2; by_cases z : q = 3 <;> simp [z, twoW, wth, hE])
end PUB9
