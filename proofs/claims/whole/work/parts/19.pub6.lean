/-! The public methods, sixth part: deceived, famous, chained, widow, twins, first -/
section PUB6
variable {x : zCx} {S : zSt} {σ σ' : Sig}

def seenB (n : Nat) (T : Tw) : Int32 := oF (fun p => if T 4 p = 9 then 0 else 1 <<< (T 4 p &&& 31)) n 0 0
def otherN (n : Nat) (T : Tw) : Int32 := sF (fun p => bI (decide (¬ T 4 p = 9 ∧ ¬ T 4 p = nI p))) n 0 0
set_option maxRecDepth 100000 in
set_option maxHeartbeats 4000000 in
theorem c_X8_chained (hR : RepC σ S) (hW : WS σ) (w : Int32) : zR x true mX8_chained [.ref (zad x 0), .int w] S (qC (whF w 3) (if w = 0 then otherN (sN σ) (sT σ) else if w = 1 then plainB (sN σ) (sT σ) else seenB (sN σ) (sT σ)) σ (σ)) := by
  have hT := hR.1
  have hn8 : sN σ ≤ 8 := hT.2.1
  refine zC_of (by decide +kernel) (Nat.le_of_ble_eq_true rfl) ?_
  by_cases he : whF w 3 = 0
  · obtain ⟨j, hj, rfl⟩ := whF_of (k := 3) (by decide) he
    rcases (show j = 0 ∨ j = 1 ∨ j = 2 by omega) with rfl | rfl | rfl
    · refine ziload_n dX8_chained_0 rfl ?_
      refine ziconst (v := 3) dX8_chained_1 (by decide) ?_
      refine zcSf  gk_X8_99 dX8_chained_2 c_X8_whatFault rfl (by decide) (Nat.le_of_ble_eq_true rfl) ?_ rfl
      refine zistore_n dX8_chained_5 (by decide) rfl ?_
      refine ziload_n dX8_chained_6 rfl ?_
      refine zif_eq (tgt := 16) dX8_chained_7 (by decide) (fun _ => ?_) (fun h => absurd he h)
      refine ziload_n dX8_chained_16 rfl ?_
      refine zlookup (off := 27) (tgt := 44) dX8_chained_17 (by decide +kernel) (by decide +kernel) (by decide) ?_
      refine zaload_n dX8_chained_44 rfl ?_
      refine gf_X8_30 rfl dX8_chained_45 ?_
      refine zcVf (ob_town (t := 0) (by decide)) gk_X8_195 dX8_chained_48 (c_X7_wearersOfOthers (by decide) hT) rfl (by decide) (Nat.le_of_ble_eq_true rfl) ?_ rfl
      exact zireturn dX8_chained_51 rfl rfl ⟨_, rfl, qC_ok he rfl hR⟩
    · refine ziload_n dX8_chained_0 rfl ?_
      refine ziconst (v := 3) dX8_chained_1 (by decide) ?_
      refine zcSf  gk_X8_99 dX8_chained_2 c_X8_whatFault rfl (by decide) (Nat.le_of_ble_eq_true rfl) ?_ rfl
      refine zistore_n dX8_chained_5 (by decide) rfl ?_
      refine ziload_n dX8_chained_6 rfl ?_
      refine zif_eq (tgt := 16) dX8_chained_7 (by decide) (fun _ => ?_) (fun h => absurd he h)
      refine ziload_n dX8_chained_16 rfl ?_
      refine zlookup (off := 35) (tgt := 52) dX8_chained_17 (by decide +kernel) (by decide +kernel) (by decide) ?_
      refine zaload_n dX8_chained_52 rfl ?_
      refine gf_X8_30 rfl dX8_chained_53 ?_
      refine zcVf (ob_town (t := 0) (by decide)) gk_X8_198 dX8_chained_56 (c_X7_plainWearers (by decide) hT) rfl (by decide) (Nat.le_of_ble_eq_true rfl) ?_ rfl
      exact zireturn dX8_chained_59 rfl rfl ⟨_, rfl, qC_ok he rfl hR⟩
    · refine ziload_n dX8_chained_0 rfl ?_
      refine ziconst (v := 3) dX8_chained_1 (by decide) ?_
      refine zcSf  gk_X8_99 dX8_chained_2 c_X8_whatFault rfl (by decide) (Nat.le_of_ble_eq_true rfl) ?_ rfl
      refine zistore_n dX8_chained_5 (by decide) rfl ?_
      refine ziload_n dX8_chained_6 rfl ?_
      refine zif_eq (tgt := 16) dX8_chained_7 (by decide) (fun _ => ?_) (fun h => absurd he h)
      refine ziload_n dX8_chained_16 rfl ?_
      refine zlookup (off := 43) (tgt := 60) dX8_chained_17 (by decide +kernel) (by decide +kernel) (by decide) ?_
      refine zaload_n dX8_chained_60 rfl ?_
      refine gf_X8_30 rfl dX8_chained_61 ?_
      refine zcVf (ob_town (t := 0) (by decide)) gk_X8_201 dX8_chained_64 (c_X7_facesSeen (by decide) hT) rfl (by decide) (Nat.le_of_ble_eq_true rfl) ?_ rfl
      exact zireturn dX8_chained_67 rfl rfl ⟨_, rfl, qC_ok he rfl hR⟩
  · refine ziload_n dX8_chained_0 rfl ?_
    refine ziconst (v := 3) dX8_chained_1 (by decide) ?_
    refine zcSf  gk_X8_99 dX8_chained_2 c_X8_whatFault rfl (by decide) (Nat.le_of_ble_eq_true rfl) ?_ rfl
    refine zistore_n dX8_chained_5 (by decide) rfl ?_
    refine ziload_n dX8_chained_6 rfl ?_
    refine zif_eq (tgt := 16) dX8_chained_7 (by decide) (fun h => absurd h he) (fun _ => ?_)
    refine zaload_n dX8_chained_10 rfl ?_
    refine ziload_n dX8_chained_11 rfl ?_
    refine zcVf ob_X gk_X8_77 dX8_chained_12 (c_X8_refuse (okE.e (okE_whF _ _) he)) rfl (by decide) (Nat.le_of_ble_eq_true rfl) ?_ rfl
    exact zireturn dX8_chained_15 rfl rfl ⟨_, rfl, qC_no rfl (okE.e (okE_whF _ _) he) hR⟩
theorem zZ_mono {x : zCx} {b : Bool} {M : zM} {post post' : Option Value → zSt → Prop} {pc : Nat} {lv : List (Nat × Value)} {st : List Value} {S : zSt} (h : zZ x b M post pc lv st S) (hp : ∀ r T, post r T → post' r T) : zZ x b M post' pc lv st S := by
  intro p e s m args below meth c H locs ls F hP hS hl T hT X
  obtain ⟨t, a1, o, b1, b2, ⟨⟨r, U, c1, c2, c3⟩, c4⟩, c5⟩ := h p e s m args below meth c H locs ls F hP hS hl T hT X
  exact ⟨t, a1, o, b1, b2, ⟨⟨r, U, c1, hp r U c2, c3⟩, c4⟩, c5⟩
set_option maxRecDepth 100000 in
set_option maxHeartbeats 4000000 in
theorem l_X9_chained (hR : RepM σ S) (w r : Int32) : ∀ (k i : Nat) (a c : Int32), i + k = sN σ → (if w = 0 then sF (fun p => bI (decide (¬ (sT σ) 4 p = 9 ∧ ¬ (sT σ) 4 p = nI p))) k i a else oF (fun p => if (sT σ) 4 p = 9 then 0 else 1 <<< ((sT σ) 4 p &&& 31)) k i c) = r → zZ x false mX9_chained (fun q T => q = some (.int r) ∧ T = S) 36 [(0, .ref (zad x 0)), (1, .int w), (2, .int a), (3, .int c), (4, .int (nI i))] [] S := by
  have hM := hR.1
  have hn8 : sN σ ≤ 8 := hM.2.1
  intro k
  induction k with
  | zero =>
    intro i a c hi hr
    by_cases hw : w = 0
    · refine ziload dX9_chained_36 rfl ?_
      refine zaload_n dX9_chained_38 rfl ?_
      refine gf_X9_9 rfl dX9_chained_39 ?_
      refine ziconst (v := nI 0) dX9_chained_42 (by decide) ?_
      refine ziald dX9_chained_43 (mrk hr1.2) (mrl hr1.1 hr1.2) (by decide) (by decide) ?_
      rw [hM.1]
      refine zicmp_ge (tgt := 106) dX9_chained_44 (by decide) (fun _ => ?_) (fun h => absurd (nI_le (by omega) (by omega)) h)
      refine ziload_n dX9_chained_106 rfl ?_
      refine zif_ne (tgt := 114) dX9_chained_107 (by decide) (fun h => absurd hw h) (fun _ => ?_)
      refine ziload_n dX9_chained_110 rfl ?_
      refine zgoto (tgt := 115) dX9_chained_111 (by decide) ?_
      exact zireturn dX9_chained_115 rfl rfl ⟨by rw [← hr, if_pos hw]; rfl, rfl⟩
    · refine ziload dX9_chained_36 rfl ?_
      refine zaload_n dX9_chained_38 rfl ?_
      refine gf_X9_9 rfl dX9_chained_39 ?_
      refine ziconst (v := nI 0) dX9_chained_42 (by decide) ?_
      refine ziald dX9_chained_43 (mrk hr1.2) (mrl hr1.1 hr1.2) (by decide) (by decide) ?_
      rw [hM.1]
      refine zicmp_ge (tgt := 106) dX9_chained_44 (by decide) (fun _ => ?_) (fun h => absurd (nI_le (by omega) (by omega)) h)
      refine ziload_n dX9_chained_106 rfl ?_
      refine zif_ne (tgt := 114) dX9_chained_107 (by decide) (fun _ => ?_) (fun h => absurd h hw)
      refine ziload_n dX9_chained_114 rfl ?_
      exact zireturn dX9_chained_115 rfl rfl ⟨by rw [← hr, if_neg hw]; rfl, rfl⟩
  | succ k ih =>
    intro i a c hi hr
    have hs1 : sF (fun p => bI (decide (¬ (sT σ) 4 p = 9 ∧ ¬ (sT σ) 4 p = nI p))) (k + 1) i a = sF (fun p => bI (decide (¬ (sT σ) 4 p = 9 ∧ ¬ (sT σ) 4 p = nI p))) k (i + 1) (a + bI (decide (¬ (sT σ) 4 i = 9 ∧ ¬ (sT σ) 4 i = nI i))) := rfl
    have hs2 : oF (fun p => if (sT σ) 4 p = 9 then 0 else 1 <<< ((sT σ) 4 p &&& 31)) (k + 1) i c = oF (fun p => if (sT σ) 4 p = 9 then 0 else 1 <<< ((sT σ) 4 p &&& 31)) k (i + 1) (c ||| (if (sT σ) 4 i = 9 then (0 : Int32) else 1 <<< ((sT σ) 4 i &&& 31))) := rfl
    rw [hs1, hs2] at hr
    refine ziload dX9_chained_36 rfl ?_
    refine zaload_n dX9_chained_38 rfl ?_
    refine gf_X9_9 rfl dX9_chained_39 ?_
    refine ziconst (v := nI 0) dX9_chained_42 (by decide) ?_
    refine ziald dX9_chained_43 (mrk hr1.2) (mrl hr1.1 hr1.2) (by decide) (by decide) ?_
    rw [hM.1]
    refine zicmp_ge (tgt := 106) dX9_chained_44 (by decide) (fun h => absurd h (nI_ge (by omega) (by omega))) (fun _ => ?_)
    refine zaload_n dX9_chained_47 rfl ?_
    refine gf_X9_9 rfl dX9_chained_48 ?_
    refine ziload dX9_chained_51 rfl ?_
    refine ziconst (v := nI 3) dX9_chained_53 (by decide) ?_
    refine zcSf gk_X9_52 dX9_chained_54 (c_X9_of (j := 3)) rfl (by decide) (Nat.le_of_ble_eq_true rfl) ?_ rfl
    refine zialM (k := 1) (j := 3) (w := 4) dX9_chained_57 hr1 hM rfl (by decide) (by omega) ?_
    refine zistore dX9_chained_58 (by decide) rfl ?_
    refine ziload_n dX9_chained_60 rfl ?_
    refine ziload dX9_chained_61 rfl ?_
    refine zbipush (v := 9) dX9_chained_63 (by decide) ?_
    refine zicmp_eq (tgt := 79) dX9_chained_65 (by decide) (fun h65 => ?_) (fun h65 => ?_)
    · refine ziconst (v := 0) dX9_chained_79 (by decide) ?_
      refine ziadd dX9_chained_80 ?_
      refine zistore_n dX9_chained_81 (by decide) rfl ?_
      refine ziload_n dX9_chained_82 rfl ?_
      refine ziload dX9_chained_83 rfl ?_
      refine zbipush (v := 9) dX9_chained_85 (by decide) ?_
      refine zicmp_ne (tgt := 94) dX9_chained_87 (by decide) (fun h87 => ?_) (fun h87 => ?_)
      · refine ziconst (v := 1) dX9_chained_94 (by decide) ?_
        refine ziload dX9_chained_95 rfl ?_
        refine zishl dX9_chained_97 ?_
        refine zior dX9_chained_98 ?_
        refine zistore_n dX9_chained_99 (by decide) rfl ?_
        refine ziinc dX9_chained_100 rfl rfl (by decide) rfl ?_
        refine zgoto (tgt := 36) dX9_chained_103 (by decide) ?_
        refine zlvs (lv' := [(0, .ref (zad x 0)), (1, .int w), (2, .int _), (3, .int _), (4, .int (nI (i + 1)))]) ⟨rfl, rfl, rfl, rfl, by rw [nI_succ i]; rfl, trivial⟩ ?_
        exact ih (i + 1) _ _ (by omega) (by rw [← hr]; simp_all [bI])
      · refine ziconst (v := 0) dX9_chained_90 (by decide) ?_
        refine zgoto (tgt := 98) dX9_chained_91 (by decide) ?_
        refine zior dX9_chained_98 ?_
        refine zistore_n dX9_chained_99 (by decide) rfl ?_
        refine ziinc dX9_chained_100 rfl rfl (by decide) rfl ?_
        refine zgoto (tgt := 36) dX9_chained_103 (by decide) ?_
        refine zlvs (lv' := [(0, .ref (zad x 0)), (1, .int w), (2, .int _), (3, .int _), (4, .int (nI (i + 1)))]) ⟨rfl, rfl, rfl, rfl, by rw [nI_succ i]; rfl, trivial⟩ ?_
        exact ih (i + 1) _ _ (by omega) (by rw [← hr]; simp_all [bI])
    · refine ziload dX9_chained_68 rfl ?_
      refine ziload dX9_chained_70 rfl ?_
      refine zicmp_eq (tgt := 79) dX9_chained_72 (by decide) (fun h72 => ?_) (fun h72 => ?_)
      · refine ziconst (v := 0) dX9_chained_79 (by decide) ?_
        refine ziadd dX9_chained_80 ?_
        refine zistore_n dX9_chained_81 (by decide) rfl ?_
        refine ziload_n dX9_chained_82 rfl ?_
        refine ziload dX9_chained_83 rfl ?_
        refine zbipush (v := 9) dX9_chained_85 (by decide) ?_
        refine zicmp_ne (tgt := 94) dX9_chained_87 (by decide) (fun h87 => ?_) (fun h87 => ?_)
        · refine ziconst (v := 1) dX9_chained_94 (by decide) ?_
          refine ziload dX9_chained_95 rfl ?_
          refine zishl dX9_chained_97 ?_
          refine zior dX9_chained_98 ?_
          refine zistore_n dX9_chained_99 (by decide) rfl ?_
          refine ziinc dX9_chained_100 rfl rfl (by decide) rfl ?_
          refine zgoto (tgt := 36) dX9_chained_103 (by decide) ?_
          refine zlvs (lv' := [(0, .ref (zad x 0)), (1, .int w), (2, .int _), (3, .int _), (4, .int (nI (i + 1)))]) ⟨rfl, rfl, rfl, rfl, by rw [nI_succ i]; rfl, trivial⟩ ?_
          exact ih (i + 1) _ _ (by omega) (by rw [← hr]; simp_all [bI])
        · refine ziconst (v := 0) dX9_chained_90 (by decide) ?_
          refine zgoto (tgt := 98) dX9_chained_91 (by decide) ?_
          refine zior dX9_chained_98 ?_
          refine zistore_n dX9_chained_99 (by decide) rfl ?_
          refine ziinc dX9_chained_100 rfl rfl (by decide) rfl ?_
          refine zgoto (tgt := 36) dX9_chained_103 (by decide) ?_
          refine zlvs (lv' := [(0, .ref (zad x 0)), (1, .int w), (2, .int _), (3, .int _), (4, .int (nI (i + 1)))]) ⟨rfl, rfl, rfl, rfl, by rw [nI_succ i]; rfl, trivial⟩ ?_
          exact ih (i + 1) _ _ (by omega) (by rw [← hr]; simp_all [bI])
      · refine ziconst (v := 1) dX9_chained_75 (by decide) ?_
        refine zgoto (tgt := 80) dX9_chained_76 (by decide) ?_
        refine ziadd dX9_chained_80 ?_
        refine zistore_n dX9_chained_81 (by decide) rfl ?_
        refine ziload_n dX9_chained_82 rfl ?_
        refine ziload dX9_chained_83 rfl ?_
        refine zbipush (v := 9) dX9_chained_85 (by decide) ?_
        refine zicmp_ne (tgt := 94) dX9_chained_87 (by decide) (fun h87 => ?_) (fun h87 => ?_)
        · refine ziconst (v := 1) dX9_chained_94 (by decide) ?_
          refine ziload dX9_chained_95 rfl ?_
          refine zishl dX9_chained_97 ?_
          refine zior dX9_chained_98 ?_
          refine zistore_n dX9_chained_99 (by decide) rfl ?_
          refine ziinc dX9_chained_100 rfl rfl (by decide) rfl ?_
          refine zgoto (tgt := 36) dX9_chained_103 (by decide) ?_
          refine zlvs (lv' := [(0, .ref (zad x 0)), (1, .int w), (2, .int _), (3, .int _), (4, .int (nI (i + 1)))]) ⟨rfl, rfl, rfl, rfl, by rw [nI_succ i]; rfl, trivial⟩ ?_
          exact ih (i + 1) _ _ (by omega) (by rw [← hr]; simp_all [bI])
        · refine ziconst (v := 0) dX9_chained_90 (by decide) ?_
          refine zgoto (tgt := 98) dX9_chained_91 (by decide) ?_
          refine zior dX9_chained_98 ?_
          refine zistore_n dX9_chained_99 (by decide) rfl ?_
          refine ziinc dX9_chained_100 rfl rfl (by decide) rfl ?_
          refine zgoto (tgt := 36) dX9_chained_103 (by decide) ?_
          refine zlvs (lv' := [(0, .ref (zad x 0)), (1, .int w), (2, .int _), (3, .int _), (4, .int (nI (i + 1)))]) ⟨rfl, rfl, rfl, rfl, by rw [nI_succ i]; rfl, trivial⟩ ?_
          exact ih (i + 1) _ _ (by omega) (by rw [← hr]; simp_all [bI])
set_option maxRecDepth 100000 in
set_option maxHeartbeats 4000000 in
theorem c_X9_chained (hR : RepM σ S) (hW : WS σ) (w : Int32) : zR x false mX9_chained [.ref (zad x 0), .int w] S (qM (whF w 3) (if w = 0 then otherN (sN σ) (sT σ) else if w = 1 then plainB (sN σ) (sT σ) else seenB (sN σ) (sT σ)) σ (σ)) := by
  have hM := hR.1
  have hn8 : sN σ ≤ 8 := hM.2.1
  refine zC_of (by decide +kernel) (Nat.le_of_ble_eq_true rfl) ?_
  by_cases he : whF w 3 = 0
  · by_cases h1 : w = 1
    · refine ziload_n dX9_chained_0 rfl ?_
      refine ziconst (v := 0) dX9_chained_1 (by decide) ?_
      refine ziconst (v := 2) dX9_chained_2 (by decide) ?_
      refine zcSf  gk_X9_44 dX9_chained_3 c_isIn_2 rfl (by decide) (Nat.le_of_ble_eq_true rfl) ?_ rfl
      refine zifb_ne (tgt := 16) dX9_chained_6 (by decide) (fun _ => ?_) (fun h => absurd (h.symm.trans (decide_eq_true he)) (by decide))
      refine ziload_n dX9_chained_16 rfl ?_
      refine ziconst (v := 1) dX9_chained_17 (by decide) ?_
      refine zicmp_ne (tgt := 29) dX9_chained_18 (by decide) (fun h => absurd h1 h) (fun _ => ?_)
      refine zaload_n dX9_chained_21 rfl ?_
      refine gf_X9_9 rfl dX9_chained_22 ?_
      refine zcSf  gk_X9_172 dX9_chained_25 (c_X9_plainSet hr1 hM) rfl (by decide) (Nat.le_of_ble_eq_true rfl) ?_ rfl
      exact zireturn dX9_chained_28 rfl rfl ⟨_, rfl, qM_ok he (by rw [h1]; rfl) hR⟩
    · refine ziload_n dX9_chained_0 rfl ?_
      refine ziconst (v := 0) dX9_chained_1 (by decide) ?_
      refine ziconst (v := 2) dX9_chained_2 (by decide) ?_
      refine zcSf  gk_X9_44 dX9_chained_3 c_isIn_2 rfl (by decide) (Nat.le_of_ble_eq_true rfl) ?_ rfl
      refine zifb_ne (tgt := 16) dX9_chained_6 (by decide) (fun _ => ?_) (fun h => absurd (h.symm.trans (decide_eq_true he)) (by decide))
      refine ziload_n dX9_chained_16 rfl ?_
      refine ziconst (v := 1) dX9_chained_17 (by decide) ?_
      refine zicmp_ne (tgt := 29) dX9_chained_18 (by decide) (fun _ => ?_) (fun h => absurd h h1)
      refine ziconst (v := 0) dX9_chained_29 (by decide) ?_
      refine zistore_n dX9_chained_30 (by decide) rfl ?_
      refine ziconst (v := 0) dX9_chained_31 (by decide) ?_
      refine zistore_n dX9_chained_32 (by decide) rfl ?_
      refine ziconst (v := 0) dX9_chained_33 (by decide) ?_
      refine zistore dX9_chained_34 (by decide) rfl ?_
      refine zlvs (lv' := [(0, .ref (zad x 0)), (1, .int w), (2, .int 0), (3, .int 0), (4, .int (nI 0))]) ⟨rfl, rfl, rfl, rfl, rfl, trivial⟩ ?_
      exact zZ_mono (l_X9_chained hR w _ (sN σ) 0 0 0 (by omega) rfl) (fun q U h => ⟨_, h.1, by rw [h.2]; exact qM_ok he (by rw [if_neg h1]; rfl) hR⟩)
  · refine ziload_n dX9_chained_0 rfl ?_
    refine ziconst (v := 0) dX9_chained_1 (by decide) ?_
    refine ziconst (v := 2) dX9_chained_2 (by decide) ?_
    refine zcSf  gk_X9_44 dX9_chained_3 c_isIn_2 rfl (by decide) (Nat.le_of_ble_eq_true rfl) ?_ rfl
    refine zifb_ne (tgt := 16) dX9_chained_6 (by decide) (fun h => absurd (h.symm.trans (decide_eq_false he)) (by decide)) (fun _ => ?_)
    refine zaload_n dX9_chained_9 rfl ?_
    refine zbipush (v := -2) dX9_chained_10 (by decide) ?_
    refine zcVf ob_Mo gk_X9_38 dX9_chained_12 (c_X9_no isE_2) rfl (by decide) (Nat.le_of_ble_eq_true rfl) ?_ rfl
    exact zireturn dX9_chained_15 rfl rfl ⟨_, rfl, qM_no (whF_2 he) isE_2 hR⟩
def widF (n : Nat) (T : Tw) (a b : Nat) : Int32 := if kbit T (nI b) a = 1 ∧ ¬ wF (T 4) (nI b) n 0 = -9 ∧ ¬ wF (T 4) (nI b) n 0 = nI b ∧ ¬ wF (T 4) (nI b) n 0 = nI a then wF (T 4) (nI b) n 0 else -9
set_option maxRecDepth 100000 in
set_option maxHeartbeats 4000000 in
theorem c_X8_widow (hR : RepC σ S) (hW : WS σ) (a b : Int32) : zR x true mX8_widow [.ref (zad x 0), .int a, .int b] S (qC (twF (sN σ) a b) (widF (sN σ) (sT σ) a.toNatClampNeg b.toNatClampNeg) σ (σ)) := by
  have hT := hR.1
  have hn8 : sN σ ≤ 8 := hT.2.1
  refine zC_of (by decide +kernel) (Nat.le_of_ble_eq_true rfl) ?_
  by_cases he : twF (sN σ) a b = 0
  · obtain ⟨i, j, hi, hj, hij, rfl, rfl⟩ := twF_of (by omega) he
    refine zaload_n dX8_widow_0 rfl ?_
    refine ziload_n dX8_widow_1 rfl ?_
    refine ziload_n dX8_widow_2 rfl ?_
    refine zcVf ob_X gk_X8_127 dX8_widow_3 (c_X8_twoFault hT) rfl (by decide) (Nat.le_of_ble_eq_true rfl) ?_ rfl
    refine zistore_n dX8_widow_6 (by decide) rfl ?_
    refine ziload_n dX8_widow_7 rfl ?_
    refine zif_eq (tgt := 17) dX8_widow_8 (by decide) (fun _ => ?_) (fun h => absurd he h)
    refine zaload_n dX8_widow_17 rfl ?_
    refine gf_X8_30 rfl dX8_widow_18 ?_
    refine ziload_n dX8_widow_21 rfl ?_
    refine zcVf (ob_town (t := 0) (by decide)) gk_X8_204 dX8_widow_22 (c_X7_wearerOf (by decide) hT _) rfl (by decide) (Nat.le_of_ble_eq_true rfl) ?_ rfl
    refine zistore dX8_widow_25 (by decide) rfl ?_
    refine ziload dX8_widow_27 rfl ?_
    refine zbipush (v := -9) dX8_widow_29 (by decide) ?_
    refine zicmp_eq (tgt := 46) dX8_widow_31 (by decide) (fun h31 => ?_) (fun h31 => ?_)
    · refine zbipush (v := -9) dX8_widow_46 (by decide) ?_
      exact zireturn dX8_widow_48 rfl rfl ⟨_, rfl, qC_ok he (by rw [nI_clamp (n := i) (by omega), nI_clamp (n := j) (by omega)]; unfold widF; simp_all) hR⟩
    · refine ziload dX8_widow_34 rfl ?_
      refine ziload_n dX8_widow_36 rfl ?_
      refine zicmp_eq (tgt := 46) dX8_widow_37 (by decide) (fun h37 => ?_) (fun h37 => ?_)
      · refine zbipush (v := -9) dX8_widow_46 (by decide) ?_
        exact zireturn dX8_widow_48 rfl rfl ⟨_, rfl, qC_ok he (by rw [nI_clamp (n := i) (by omega), nI_clamp (n := j) (by omega)]; unfold widF; simp_all) hR⟩
      · refine ziload dX8_widow_40 rfl ?_
        refine ziload_n dX8_widow_42 rfl ?_
        refine zicmp_ne (tgt := 49) dX8_widow_43 (by decide) (fun h43 => ?_) (fun h43 => ?_)
        · refine zaload_n dX8_widow_49 rfl ?_
          refine gf_X8_30 rfl dX8_widow_50 ?_
          refine ziload_n dX8_widow_53 rfl ?_
          refine ziload_n dX8_widow_54 rfl ?_
          refine zcVf (ob_town (t := 0) (by decide)) gk_X8_151 dX8_widow_55 (c_X7_knowsFace (by decide) hT (by omega)) rfl (by decide) (Nat.le_of_ble_eq_true rfl) ?_ rfl
          refine zifb_eq (tgt := 66) dX8_widow_58 (by decide) (fun h58 => ?_) (fun h58 => ?_)
          · refine zbipush (v := -9) dX8_widow_66 (by decide) ?_
            exact zireturn dX8_widow_68 rfl rfl ⟨_, rfl, qC_ok he (by rw [nI_clamp (n := i) (by omega), nI_clamp (n := j) (by omega)]; unfold widF; simp_all) hR⟩
          · refine ziload dX8_widow_61 rfl ?_
            refine zgoto (tgt := 68) dX8_widow_63 (by decide) ?_
            exact zireturn dX8_widow_68 rfl rfl ⟨_, rfl, qC_ok he (by rw [nI_clamp (n := i) (by omega), nI_clamp (n := j) (by omega)]; unfold widF; simp_all) hR⟩
        · refine zbipush (v := -9) dX8_widow_46 (by decide) ?_
          exact zireturn dX8_widow_48 rfl rfl ⟨_, rfl, qC_ok he (by rw [nI_clamp (n := i) (by omega), nI_clamp (n := j) (by omega)]; unfold widF; simp_all) hR⟩
  · refine zaload_n dX8_widow_0 rfl ?_
    refine ziload_n dX8_widow_1 rfl ?_
    refine ziload_n dX8_widow_2 rfl ?_
    refine zcVf ob_X gk_X8_127 dX8_widow_3 (c_X8_twoFault hT) rfl (by decide) (Nat.le_of_ble_eq_true rfl) ?_ rfl
    refine zistore_n dX8_widow_6 (by decide) rfl ?_
    refine ziload_n dX8_widow_7 rfl ?_
    refine zif_eq (tgt := 17) dX8_widow_8 (by decide) (fun h => absurd h he) (fun _ => ?_)
    refine zaload_n dX8_widow_11 rfl ?_
    refine ziload_n dX8_widow_12 rfl ?_
    refine zcVf ob_X gk_X8_77 dX8_widow_13 (c_X8_refuse (okE.e (okE_twF _ _ _) he)) rfl (by decide) (Nat.le_of_ble_eq_true rfl) ?_ rfl
    exact zireturn dX8_widow_16 rfl rfl ⟨_, rfl, qC_no rfl (okE.e (okE_twF _ _ _) he) hR⟩
set_option maxRecDepth 100000 in
set_option maxHeartbeats 4000000 in
theorem c_X9_widow (hR : RepM σ S) (hW : WS σ) (a b : Int32) : zR x false mX9_widow [.ref (zad x 0), .int a, .int b] S (qM (twF (sN σ) a b) (widF (sN σ) (sT σ) a.toNatClampNeg b.toNatClampNeg) σ (σ)) := by
  have hM := hR.1
  have hn8 : sN σ ≤ 8 := hM.2.1
  refine zC_of (by decide +kernel) (Nat.le_of_ble_eq_true rfl) ?_
  by_cases he : twF (sN σ) a b = 0
  · obtain ⟨i, j, hi, hj, hij, rfl, rfl⟩ := twF_of (by omega) he
    have h9 : (wF ((sT σ) 4) (nI j) (sN σ) 0 < 0) ↔ wF ((sT σ) 4) (nI j) (sN σ) 0 = -9 := by
      rcases wF_cases ((sT σ) 4) (nI j) (sN σ) 0 with h | ⟨r, -, h2, h3, -⟩
      · rw [h]; decide
      · rw [h3]; exact ⟨fun z => absurd z (nI_pos (by omega)), fun z => absurd z (nI_neN (by omega))⟩
    refine zaload_n dX9_widow_0 rfl ?_
    refine ziload_n dX9_widow_1 rfl ?_
    refine ziload_n dX9_widow_2 rfl ?_
    refine zcVf ob_Mo gk_X9_115 dX9_widow_3 (c_X9_areTwo hM) rfl (by decide) (Nat.le_of_ble_eq_true rfl) ?_ rfl
    refine zifb_ne (tgt := 15) dX9_widow_6 (by decide) (fun _ => ?_) (fun h => absurd (h.symm.trans (decide_eq_true he)) (by decide))
    refine zaload_n dX9_widow_15 rfl ?_
    refine gf_X9_9 rfl dX9_widow_16 ?_
    refine ziload_n dX9_widow_19 rfl ?_
    refine zcSf  gk_X9_68 dX9_widow_20 (c_X9_wearerOf hr1 hM _) rfl (by decide) (Nat.le_of_ble_eq_true rfl) ?_ rfl
    refine zistore_n dX9_widow_23 (by decide) rfl ?_
    refine zaload_n dX9_widow_24 rfl ?_
    refine gf_X9_9 rfl dX9_widow_25 ?_
    refine ziload_n dX9_widow_28 rfl ?_
    refine ziconst (v := nI 2) dX9_widow_29 (by decide) ?_
    refine zcSf gk_X9_52 dX9_widow_30 (c_X9_of (j := 2)) rfl (by decide) (Nat.le_of_ble_eq_true rfl) ?_ rfl
    refine zialM (k := 1) (j := 2) (w := 3) dX9_widow_33 hr1 hM rfl (by decide) (by omega) ?_
    refine ziload_n dX9_widow_34 rfl ?_
    refine zcSf  gk_X9_56 dX9_widow_35 c_X9_has rfl (by decide) (Nat.le_of_ble_eq_true rfl) ?_ rfl
    refine zifb_eq (tgt := 59) dX9_widow_38 (by decide) (fun h38 => ?_) (fun h38 => ?_)
    · refine zbipush (v := -9) dX9_widow_59 (by decide) ?_
      exact zireturn dX9_widow_61 rfl rfl ⟨_, rfl, qM_ok he (by rw [nI_clamp (n := i) (by omega), nI_clamp (n := j) (by omega)]; unfold widF kbit; simp_all) hR⟩
    · refine ziload_n dX9_widow_41 rfl ?_
      refine zif_lt (tgt := 59) dX9_widow_42 (by decide) (fun h42 => ?_) (fun h42 => ?_)
      · refine zbipush (v := -9) dX9_widow_59 (by decide) ?_
        exact zireturn dX9_widow_61 rfl rfl ⟨_, rfl, qM_ok he (by rw [nI_clamp (n := i) (by omega), nI_clamp (n := j) (by omega)]; unfold widF kbit; simp_all) hR⟩
      · refine ziload_n dX9_widow_45 rfl ?_
        refine ziload_n dX9_widow_46 rfl ?_
        refine zicmp_eq (tgt := 59) dX9_widow_47 (by decide) (fun h47 => ?_) (fun h47 => ?_)
        · refine zbipush (v := -9) dX9_widow_59 (by decide) ?_
          exact zireturn dX9_widow_61 rfl rfl ⟨_, rfl, qM_ok he (by rw [nI_clamp (n := i) (by omega), nI_clamp (n := j) (by omega)]; unfold widF kbit; simp_all) hR⟩
        · refine ziload_n dX9_widow_50 rfl ?_
          refine ziload_n dX9_widow_51 rfl ?_
          refine zicmp_eq (tgt := 59) dX9_widow_52 (by decide) (fun h52 => ?_) (fun h52 => ?_)
          · refine zbipush (v := -9) dX9_widow_59 (by decide) ?_
            exact zireturn dX9_widow_61 rfl rfl ⟨_, rfl, qM_ok he (by rw [nI_clamp (n := i) (by omega), nI_clamp (n := j) (by omega)]; unfold widF kbit; simp_all) hR⟩
          · refine ziload_n dX9_widow_55 rfl ?_
            refine zgoto (tgt := 61) dX9_widow_56 (by decide) ?_
            exact zireturn dX9_widow_61 rfl rfl ⟨_, rfl, qM_ok he (by rw [nI_clamp (n := i) (by omega), nI_clamp (n := j) (by omega)]; unfold widF kbit; simp_all) hR⟩
  · refine zaload_n dX9_widow_0 rfl ?_
    refine ziload_n dX9_widow_1 rfl ?_
    refine ziload_n dX9_widow_2 rfl ?_
    refine zcVf ob_Mo gk_X9_115 dX9_widow_3 (c_X9_areTwo hM) rfl (by decide) (Nat.le_of_ble_eq_true rfl) ?_ rfl
    refine zifb_ne (tgt := 15) dX9_widow_6 (by decide) (fun h => absurd (h.symm.trans (decide_eq_false he)) (by decide)) (fun _ => ?_)
    refine zaload_n dX9_widow_9 rfl ?_
    refine ziconst (v := -1) dX9_widow_10 (by decide) ?_
    refine zcVf ob_Mo gk_X9_38 dX9_widow_11 (c_X9_no isE_1) rfl (by decide) (Nat.le_of_ble_eq_true rfl) ?_ rfl
    exact zireturn dX9_widow_14 rfl rfl ⟨_, rfl, qM_no (twF_1 he) isE_1 hR⟩
def knowN (n : Nat) (T : Tw) (p : Nat) : Int32 := sF (fun q => bI (decide (¬ nI q = nI p ∧ kbit T (T 4 p) q = 1))) n 0 0
def decF (n : Nat) (T : Tw) (p : Nat) (w : Int32) : Int32 := if T 4 p = 9 ∨ (w = 0 ∧ T 4 p = nI p) then 0 else knowN n T p
theorem sF_zero : ∀ (k i : Nat) (a : Int32), sF (fun _ => 0) k i a = a := by
  intro k
  induction k with
  | zero => intro i a; rfl
  | succ k ih => intro i a; show sF _ k (i + 1) (a + 0) = a; rw [ih, Int32.add_zero]
def takF (T : Tw) (p q : Nat) : Int32 := if T 4 p = 9 then 9 else if kbit T (T 4 p) q = 1 then T 4 p else 9
theorem dec_eq {n : Nat} {T : Tw} {p : Nat} {w : Int32} (h : ¬ (w = 0 ∧ T 4 p = nI p)) : sF (fun q => bI (decide (¬ nI q = nI p ∧ ¬ takF T p q = 9))) n 0 0 = decF n T p w := by
  unfold decF
  by_cases h9 : T 4 p = 9
  · rw [if_pos (Or.inl h9)]
    refine Eq.trans (sF_congr n 0 0 (fun j _ _ => ?_)) (sF_zero n 0 0)
    unfold takF; simp [h9, bI]
  · rw [if_neg (fun z => z.elim h9 h)]
    refine sF_congr n 0 0 (fun j _ _ => ?_)
    unfold takF
    by_cases hk : kbit T (T 4 p) j = 1 <;> simp [h9, hk]
set_option maxRecDepth 100000 in
set_option maxHeartbeats 4000000 in
theorem l_X8_deceived (hR : RepC σ S) {p : Nat} (hp : p < sN σ) (r : Int32) : ∀ (k i : Nat) (a : Int32), i + k = sN σ → sF (fun q => bI (decide (¬ nI q = nI p ∧ ¬ takF (sT σ) p q = 9))) k i a = r → zZ x true mX8_deceived (fun q T => q = some (.int r) ∧ T = S) 47 [(0, .ref (zad x 0)), (1, .int (nI p)), (4, .int a), (5, .int (nI i))] [] S := by
  have hT := hR.1
  have hn8 : sN σ ≤ 8 := hT.2.1
  intro k
  induction k with
  | zero =>
    intro i a hi hr
    refine ziload dX8_deceived_47 rfl ?_
    refine zaload_n dX8_deceived_49 rfl ?_
    refine gf_X8_30 rfl dX8_deceived_50 ?_
    refine gf_X8_192 (t := 0) (by decide) rfl dX8_deceived_53 ?_
    rw [hT.1]
    refine zicmp_ge (tgt := 89) dX8_deceived_56 (by decide) (fun _ => ?_) (fun h => absurd (nI_le (by omega) (by omega)) h)
    refine ziload dX8_deceived_89 rfl ?_
    exact zireturn dX8_deceived_91 rfl rfl ⟨congrArg (fun q => some (Value.int q)) hr, rfl⟩
  | succ k ih =>
    intro i a hi hr
    have hs : sF (fun q => bI (decide (¬ nI q = nI p ∧ ¬ takF (sT σ) p q = 9))) (k + 1) i a = sF (fun q => bI (decide (¬ nI q = nI p ∧ ¬ takF (sT σ) p q = 9))) k (i + 1) (a + bI (decide (¬ nI i = nI p ∧ ¬ takF (sT σ) p i = 9))) := rfl
    rw [hs] at hr
    refine ziload dX8_deceived_47 rfl ?_
    refine zaload_n dX8_deceived_49 rfl ?_
    refine gf_X8_30 rfl dX8_deceived_50 ?_
    refine gf_X8_192 (t := 0) (by decide) rfl dX8_deceived_53 ?_
    rw [hT.1]
    refine zicmp_ge (tgt := 89) dX8_deceived_56 (by decide) (fun h => absurd h (nI_ge (by omega) (by omega))) (fun _ => ?_)
    refine ziload dX8_deceived_59 rfl ?_
    refine ziload_n dX8_deceived_61 rfl ?_
    refine zicmp_eq (tgt := 83) dX8_deceived_62 (by decide) (fun h62 => ?_) (fun h62 => ?_)
    · refine ziinc dX8_deceived_83 rfl rfl (by decide) rfl ?_
      refine zgoto (tgt := 47) dX8_deceived_86 (by decide) ?_
      refine zlvs (lv' := [(0, .ref (zad x 0)), (1, .int (nI p)), (4, .int _), (5, .int (nI (i + 1)))]) ⟨rfl, rfl, rfl, by rw [nI_succ i]; rfl, trivial⟩ ?_
      exact ih (i + 1) _ (by omega) (by rw [← hr]; simp [bI, *])
    · refine zaload_n dX8_deceived_65 rfl ?_
      refine gf_X8_30 rfl dX8_deceived_66 ?_
      refine ziload dX8_deceived_69 rfl ?_
      refine ziload_n dX8_deceived_71 rfl ?_
      refine zcVf (ob_town (t := 0) (by decide)) gk_X8_186 dX8_deceived_72 (show zF x true mX7_takenFor _ S (some (.int (takF (sT σ) p i))) S from c_X7_takenFor (by decide) hT (by omega) hp) rfl (by decide) (Nat.le_of_ble_eq_true rfl) ?_ rfl
      refine zbipush (v := 9) dX8_deceived_75 (by decide) ?_
      refine zicmp_eq (tgt := 83) dX8_deceived_77 (by decide) (fun h77 => ?_) (fun h77 => ?_)
      · refine ziinc dX8_deceived_83 rfl rfl (by decide) rfl ?_
        refine zgoto (tgt := 47) dX8_deceived_86 (by decide) ?_
        refine zlvs (lv' := [(0, .ref (zad x 0)), (1, .int (nI p)), (4, .int _), (5, .int (nI (i + 1)))]) ⟨rfl, rfl, rfl, by rw [nI_succ i]; rfl, trivial⟩ ?_
        exact ih (i + 1) _ (by omega) (by rw [← hr]; simp [bI, *])
      · refine ziinc dX8_deceived_80 rfl rfl (by decide) rfl ?_
        refine ziinc dX8_deceived_83 rfl rfl (by decide) rfl ?_
        refine zgoto (tgt := 47) dX8_deceived_86 (by decide) ?_
        refine zlvs (lv' := [(0, .ref (zad x 0)), (1, .int (nI p)), (4, .int _), (5, .int (nI (i + 1)))]) ⟨rfl, rfl, rfl, by rw [nI_succ i]; rfl, trivial⟩ ?_
        exact ih (i + 1) _ (by omega) (by rw [← hr]; simp [bI, *])
set_option maxRecDepth 100000 in
set_option maxHeartbeats 4000000 in
theorem c_X8_deceived (hR : RepC σ S) (hW : WS σ) (p w : Int32) : zR x true mX8_deceived [.ref (zad x 0), .int p, .int w] S (qC (fO (pF (sN σ) p) (whF w 2)) (decF (sN σ) (sT σ) p.toNatClampNeg w) σ (σ)) := by
  have hT := hR.1
  have hn8 : sN σ ≤ 8 := hT.2.1
  refine zC_of (by decide +kernel) (Nat.le_of_ble_eq_true rfl) ?_
  by_cases he : fO (pF (sN σ) p) (whF w 2) = 0
  · obtain ⟨h1, h2⟩ := fO_0 he
    have h1p := pF_0 h1
    obtain ⟨i, hi, rfl⟩ := pF_of (by omega) h1
    by_cases hw : w = 0
    · by_cases ho : (sT σ) 4 i = nI i
      · refine zaload_n dX8_deceived_0 rfl ?_
        refine ziload_n dX8_deceived_1 rfl ?_
        refine zcVf ob_X gk_X8_96 dX8_deceived_2 (c_X8_personFault hT) rfl (by decide) (Nat.le_of_ble_eq_true rfl) ?_ rfl
        refine ziload_n dX8_deceived_5 rfl ?_
        refine ziconst (v := 2) dX8_deceived_6 (by decide) ?_
        refine zcSf  gk_X8_99 dX8_deceived_7 c_X8_whatFault rfl (by decide) (Nat.le_of_ble_eq_true rfl) ?_ rfl
        refine zcSf  gk_X8_103 dX8_deceived_10 c_X8_firstOf rfl (by decide) (Nat.le_of_ble_eq_true rfl) ?_ rfl
        refine zistore_n dX8_deceived_13 (by decide) rfl ?_
        refine ziload_n dX8_deceived_14 rfl ?_
        refine zif_eq (tgt := 24) dX8_deceived_15 (by decide) (fun _ => ?_) (fun h => absurd he h)
        refine ziload_n dX8_deceived_24 rfl ?_
        refine zif_ne (tgt := 41) dX8_deceived_25 (by decide) (fun h => absurd hw h) (fun _ => ?_)
        refine zaload_n dX8_deceived_28 rfl ?_
        refine gf_X8_30 rfl dX8_deceived_29 ?_
        refine ziload_n dX8_deceived_32 rfl ?_
        refine zcVf (ob_town (t := 0) (by decide)) gk_X8_189 dX8_deceived_33 (c_X7_wearsOwn (by decide) hT (by omega)) rfl (by decide) (Nat.le_of_ble_eq_true rfl) ?_ rfl
        refine zifb_eq (tgt := 41) dX8_deceived_36 (by decide) (fun h => absurd (h.symm.trans (decide_eq_true ho)) (by decide)) (fun _ => ?_)
        refine ziconst (v := 0) dX8_deceived_39 (by decide) ?_
        exact zireturn dX8_deceived_40 rfl rfl ⟨_, rfl, qC_ok he (by rw [nI_clamp (n := i) (by omega)]; unfold decF; rw [if_pos (Or.inr ⟨hw, ho⟩)]) hR⟩
      · refine zaload_n dX8_deceived_0 rfl ?_
        refine ziload_n dX8_deceived_1 rfl ?_
        refine zcVf ob_X gk_X8_96 dX8_deceived_2 (c_X8_personFault hT) rfl (by decide) (Nat.le_of_ble_eq_true rfl) ?_ rfl
        refine ziload_n dX8_deceived_5 rfl ?_
        refine ziconst (v := 2) dX8_deceived_6 (by decide) ?_
        refine zcSf  gk_X8_99 dX8_deceived_7 c_X8_whatFault rfl (by decide) (Nat.le_of_ble_eq_true rfl) ?_ rfl
        refine zcSf  gk_X8_103 dX8_deceived_10 c_X8_firstOf rfl (by decide) (Nat.le_of_ble_eq_true rfl) ?_ rfl
        refine zistore_n dX8_deceived_13 (by decide) rfl ?_
        refine ziload_n dX8_deceived_14 rfl ?_
        refine zif_eq (tgt := 24) dX8_deceived_15 (by decide) (fun _ => ?_) (fun h => absurd he h)
        refine ziload_n dX8_deceived_24 rfl ?_
        refine zif_ne (tgt := 41) dX8_deceived_25 (by decide) (fun h => absurd hw h) (fun _ => ?_)
        refine zaload_n dX8_deceived_28 rfl ?_
        refine gf_X8_30 rfl dX8_deceived_29 ?_
        refine ziload_n dX8_deceived_32 rfl ?_
        refine zcVf (ob_town (t := 0) (by decide)) gk_X8_189 dX8_deceived_33 (c_X7_wearsOwn (by decide) hT (by omega)) rfl (by decide) (Nat.le_of_ble_eq_true rfl) ?_ rfl
        refine zifb_eq (tgt := 41) dX8_deceived_36 (by decide) (fun _ => ?_) (fun h => absurd (h.symm.trans (decide_eq_false ho)) (by decide))
        refine ziconst (v := 0) dX8_deceived_41 (by decide) ?_
        refine zistore dX8_deceived_42 (by decide) rfl ?_
        refine ziconst (v := 0) dX8_deceived_44 (by decide) ?_
        refine zistore dX8_deceived_45 (by decide) rfl ?_
        refine zlvs (lv' := [(0, .ref (zad x 0)), (1, .int (nI i)), (4, .int 0), (5, .int (nI 0))]) ⟨rfl, rfl, rfl, rfl, trivial⟩ ?_
        exact zZ_mono (l_X8_deceived hR hi _ (sN σ) 0 0 (by omega) rfl) (fun q U h => ⟨_, h.1, by rw [h.2]; exact qC_ok he (by rw [nI_clamp (n := i) (by omega)]; exact dec_eq (fun z => ho z.2)) hR⟩)
    · refine zaload_n dX8_deceived_0 rfl ?_
      refine ziload_n dX8_deceived_1 rfl ?_
      refine zcVf ob_X gk_X8_96 dX8_deceived_2 (c_X8_personFault hT) rfl (by decide) (Nat.le_of_ble_eq_true rfl) ?_ rfl
      refine ziload_n dX8_deceived_5 rfl ?_
      refine ziconst (v := 2) dX8_deceived_6 (by decide) ?_
      refine zcSf  gk_X8_99 dX8_deceived_7 c_X8_whatFault rfl (by decide) (Nat.le_of_ble_eq_true rfl) ?_ rfl
      refine zcSf  gk_X8_103 dX8_deceived_10 c_X8_firstOf rfl (by decide) (Nat.le_of_ble_eq_true rfl) ?_ rfl
      refine zistore_n dX8_deceived_13 (by decide) rfl ?_
      refine ziload_n dX8_deceived_14 rfl ?_
      refine zif_eq (tgt := 24) dX8_deceived_15 (by decide) (fun _ => ?_) (fun h => absurd he h)
      refine ziload_n dX8_deceived_24 rfl ?_
      refine zif_ne (tgt := 41) dX8_deceived_25 (by decide) (fun _ => ?_) (fun h => absurd h hw)
      refine ziconst (v := 0) dX8_deceived_41 (by decide) ?_
      refine zistore dX8_deceived_42 (by decide) rfl ?_
      refine ziconst (v := 0) dX8_deceived_44 (by decide) ?_
      refine zistore dX8_deceived_45 (by decide) rfl ?_
      refine zlvs (lv' := [(0, .ref (zad x 0)), (1, .int (nI i)), (4, .int 0), (5, .int (nI 0))]) ⟨rfl, rfl, rfl, rfl, trivial⟩ ?_
      exact zZ_mono (l_X8_deceived hR hi _ (sN σ) 0 0 (by omega) rfl) (fun q U h => ⟨_, h.1, by rw [h.2]; exact qC_ok he (by rw [nI_clamp (n := i) (by omega)]; exact dec_eq (fun z => hw z.1)) hR⟩)
  · refine zaload_n dX8_deceived_0 rfl ?_
    refine ziload_n dX8_deceived_1 rfl ?_
    refine zcVf ob_X gk_X8_96 dX8_deceived_2 (c_X8_personFault hT) rfl (by decide) (Nat.le_of_ble_eq_true rfl) ?_ rfl
    refine ziload_n dX8_deceived_5 rfl ?_
    refine ziconst (v := 2) dX8_deceived_6 (by decide) ?_
    refine zcSf  gk_X8_99 dX8_deceived_7 c_X8_whatFault rfl (by decide) (Nat.le_of_ble_eq_true rfl) ?_ rfl
    refine zcSf  gk_X8_103 dX8_deceived_10 c_X8_firstOf rfl (by decide) (Nat.le_of_ble_eq_true rfl) ?_ rfl
    refine zistore_n dX8_deceived_13 (by decide) rfl ?_
    refine ziload_n dX8_deceived_14 rfl ?_
    refine zif_eq (tgt := 24) dX8_deceived_15 (by decide) (fun h => absurd h he) (fun _ => ?_)
    refine zaload_n dX8_deceived_18 rfl ?_
    refine ziload_n dX8_deceived_19 rfl ?_
    refine zcVf ob_X gk_X8_77 dX8_deceived_20 (c_X8_refuse (okE.e (okE_fO (okE_pF _ _) (okE_whF _ _)) he)) rfl (by decide) (Nat.le_of_ble_eq_true rfl) ?_ rfl
    exact zireturn dX8_deceived_23 rfl rfl ⟨_, rfl, qC_no rfl (okE.e (okE_fO (okE_pF _ _) (okE_whF _ _)) he) hR⟩
set_option maxRecDepth 100000 in
set_option maxHeartbeats 4000000 in
theorem c_X9_deceived (hR : RepM σ S) (hW : WS σ) (p w : Int32) : zR x false mX9_deceived [.ref (zad x 0), .int p, .int w] S (qM (fO (pF (sN σ) p) (whF w 2)) (decF (sN σ) (sT σ) p.toNatClampNeg w) σ (σ)) := by
  have hM := hR.1
  have hn8 : sN σ ≤ 8 := hM.2.1
  refine zC_of (by decide +kernel) (Nat.le_of_ble_eq_true rfl) ?_
  by_cases he : fO (pF (sN σ) p) (whF w 2) = 0
  · obtain ⟨h1, h2⟩ := fO_0 he
    have h1p := pF_0 h1
    obtain ⟨i, hi, rfl⟩ := pF_of (by omega) h1
    refine zaload_n dX9_deceived_0 rfl ?_
    refine ziload_n dX9_deceived_1 rfl ?_
    refine zcVf ob_Mo gk_X9_48 dX9_deceived_2 (c_X9_isOne hM) rfl (by decide) (Nat.le_of_ble_eq_true rfl) ?_ rfl
    refine zifb_ne (tgt := 14) dX9_deceived_5 (by decide) (fun _ => ?_) (fun h => absurd (h.symm.trans h1p) (by decide))
    refine ziload_n dX9_deceived_14 rfl ?_
    refine ziconst (v := 0) dX9_deceived_15 (by decide) ?_
    refine ziconst (v := 1) dX9_deceived_16 (by decide) ?_
    refine zcSf  gk_X9_44 dX9_deceived_17 c_isIn_1 rfl (by decide) (Nat.le_of_ble_eq_true rfl) ?_ rfl
    refine zifb_ne (tgt := 30) dX9_deceived_20 (by decide) (fun _ => ?_) (fun h => absurd (h.symm.trans (decide_eq_true h2)) (by decide))
    refine zaload_n dX9_deceived_30 rfl ?_
    refine gf_X9_9 rfl dX9_deceived_31 ?_
    refine ziload_n dX9_deceived_34 rfl ?_
    refine ziconst (v := nI 3) dX9_deceived_35 (by decide) ?_
    refine zcSf gk_X9_52 dX9_deceived_36 (c_X9_of (j := 3)) rfl (by decide) (Nat.le_of_ble_eq_true rfl) ?_ rfl
    refine zialM (k := 1) (j := 3) (w := 4) dX9_deceived_39 hr1 hM rfl (by decide) (by omega) ?_
    refine zistore_n dX9_deceived_40 (by decide) rfl ?_
    refine ziload_n dX9_deceived_41 rfl ?_
    refine zbipush (v := 9) dX9_deceived_42 (by decide) ?_
    refine zicmp_eq (tgt := 56) dX9_deceived_44 (by decide) (fun h44 => ?_) (fun h44 => ?_)
    · refine ziconst (v := 0) dX9_deceived_56 (by decide) ?_
      refine zgoto (tgt := 69) dX9_deceived_57 (by decide) ?_
      exact zireturn dX9_deceived_69 rfl rfl ⟨_, rfl, qM_ok he (by rw [nI_clamp (n := i) (by omega)]; unfold decF knowN; simp_all) hR⟩
    · refine ziload_n dX9_deceived_47 rfl ?_
      refine zif_ne (tgt := 60) dX9_deceived_48 (by decide) (fun h48 => ?_) (fun h48 => ?_)
      · refine zaload_n dX9_deceived_60 rfl ?_
        refine gf_X9_9 rfl dX9_deceived_61 ?_
        refine ziload_n dX9_deceived_64 rfl ?_
        refine ziload_n dX9_deceived_65 rfl ?_
        refine zcSf  gk_X9_60 dX9_deceived_66 (c_X9_knowing hr1 hM _ _) rfl (by decide) (Nat.le_of_ble_eq_true rfl) ?_ rfl
        exact zireturn dX9_deceived_69 rfl rfl ⟨_, rfl, qM_ok he (by rw [nI_clamp (n := i) (by omega)]; unfold decF knowN; simp_all) hR⟩
      · refine ziload_n dX9_deceived_51 rfl ?_
        refine ziload_n dX9_deceived_52 rfl ?_
        refine zicmp_ne (tgt := 60) dX9_deceived_53 (by decide) (fun h53 => ?_) (fun h53 => ?_)
        · refine zaload_n dX9_deceived_60 rfl ?_
          refine gf_X9_9 rfl dX9_deceived_61 ?_
          refine ziload_n dX9_deceived_64 rfl ?_
          refine ziload_n dX9_deceived_65 rfl ?_
          refine zcSf  gk_X9_60 dX9_deceived_66 (c_X9_knowing hr1 hM _ _) rfl (by decide) (Nat.le_of_ble_eq_true rfl) ?_ rfl
          exact zireturn dX9_deceived_69 rfl rfl ⟨_, rfl, qM_ok he (by rw [nI_clamp (n := i) (by omega)]; unfold decF knowN; simp_all) hR⟩
        · refine ziconst (v := 0) dX9_deceived_56 (by decide) ?_
          refine zgoto (tgt := 69) dX9_deceived_57 (by decide) ?_
          exact zireturn dX9_deceived_69 rfl rfl ⟨_, rfl, qM_ok he (by rw [nI_clamp (n := i) (by omega)]; unfold decF knowN; simp_all) hR⟩
  · refine zaload_n dX9_deceived_0 rfl ?_
    refine ziload_n dX9_deceived_1 rfl ?_
    refine zcVf ob_Mo gk_X9_48 dX9_deceived_2 (c_X9_isOne hM) rfl (by decide) (Nat.le_of_ble_eq_true rfl) ?_ rfl
    refine zifb_ne (tgt := 14) dX9_deceived_5 (by decide) (fun h5 => ?_) (fun h5 => ?_)
    · refine ziload_n dX9_deceived_14 rfl ?_
      refine ziconst (v := 0) dX9_deceived_15 (by decide) ?_
      refine ziconst (v := 1) dX9_deceived_16 (by decide) ?_
      refine zcSf  gk_X9_44 dX9_deceived_17 c_isIn_1 rfl (by decide) (Nat.le_of_ble_eq_true rfl) ?_ rfl
      refine zifb_ne (tgt := 30) dX9_deceived_20 (by decide) (fun h20 => ?_) (fun h20 => ?_)
      · exact absurd (show fO (pF (sN σ) p) (whF w 2) = 0 by rw [pF_yes h5, of_decide_eq_true h20]; rfl) he
      · refine zaload_n dX9_deceived_23 rfl ?_
        refine zbipush (v := -2) dX9_deceived_24 (by decide) ?_
        refine zcVf ob_Mo gk_X9_38 dX9_deceived_26 (c_X9_no isE_2) rfl (by decide) (Nat.le_of_ble_eq_true rfl) ?_ rfl
        exact zireturn dX9_deceived_29 rfl rfl ⟨_, rfl, qM_no (by rw [pF_yes h5, whF_2 (of_decide_eq_false h20)]; rfl) isE_2 hR⟩
    · refine zaload_n dX9_deceived_8 rfl ?_
      refine ziconst (v := -1) dX9_deceived_9 (by decide) ?_
      refine zcVf ob_Mo gk_X9_38 dX9_deceived_10 (c_X9_no isE_1) rfl (by decide) (Nat.le_of_ble_eq_true rfl) ?_ rfl
      exact zireturn dX9_deceived_13 rfl rfl ⟨_, rfl, qM_no (by rw [pF_1 h5, fO_1]) isE_1 hR⟩
def mxF (g : Nat → Int32) : Nat → Nat → Int32 → Int32 → Int32
  | 0, _, b, _ => b
  | k + 1, i, b, m => if m < g i then mxF g k (i + 1) (nI i) (g i) else mxF g k (i + 1) b m
set_option maxRecDepth 100000 in
set_option maxHeartbeats 4000000 in
theorem l_X8_famous0 (hR : RepC σ S) (r : Int32) : ∀ (k i : Nat) (b m : Int32), i + k = sN σ → mxF ((sT σ) 5) k i b m = r → zZ x true mX8_famous (fun q T => q = some (.int r) ∧ T = S) 48 [(0, .ref (zad x 0)), (3, .ref (zad x (tp 0 + 5))), (4, .int b), (5, .int m), (6, .int (nI i))] [] S := by
  have hT := hR.1
  have hn8 : sN σ ≤ 8 := hT.2.1
  intro k
  induction k with
  | zero =>
    intro i b m hi hr
    refine ziload dX8_famous_48 rfl ?_
    refine zaload_n dX8_famous_50 rfl ?_
    refine gf_X8_30 rfl dX8_famous_51 ?_
    refine gf_X8_192 (t := 0) (by decide) rfl dX8_famous_54 ?_
    rw [hT.1]
    refine zicmp_ge (tgt := 85) dX8_famous_57 (by decide) (fun _ => ?_) (fun h => absurd (nI_le (by omega) (by omega)) h)
    refine ziload dX8_famous_85 rfl ?_
    exact zireturn dX8_famous_87 rfl rfl ⟨congrArg (fun q => some (Value.int q)) hr, rfl⟩
  | succ k ih =>
    intro i b m hi hr
    rw [mxF] at hr
    refine ziload dX8_famous_48 rfl ?_
    refine zaload_n dX8_famous_50 rfl ?_
    refine gf_X8_30 rfl dX8_famous_51 ?_
    refine gf_X8_192 (t := 0) (by decide) rfl dX8_famous_54 ?_
    rw [hT.1]
    refine zicmp_ge (tgt := 85) dX8_famous_57 (by decide) (fun h => absurd h (nI_ge (by omega) (by omega))) (fun _ => ?_)
    refine zaload_n dX8_famous_60 rfl ?_
    refine ziload dX8_famous_61 rfl ?_
    refine zialT (t := 0) (w := 5) dX8_famous_63 (by decide) hT (by decide) (by decide) (by omega) ?_
    refine ziload dX8_famous_64 rfl ?_
    refine zicmp_le (tgt := 79) dX8_famous_66 (by decide) (fun h66 => ?_) (fun h66 => ?_)
    · refine ziinc dX8_famous_79 rfl rfl (by decide) rfl ?_
      refine zgoto (tgt := 48) dX8_famous_82 (by decide) ?_
      refine zlvs (lv' := [(0, .ref (zad x 0)), (3, .ref (zad x (tp 0 + 5))), (4, .int _), (5, .int _), (6, .int (nI (i + 1)))]) ⟨rfl, rfl, rfl, rfl, by rw [nI_succ i]; rfl, trivial⟩ ?_
      first
      | exact ih (i + 1) _ _ (by omega) (by rw [if_neg (Int32.not_lt.mpr h66)] at hr; exact hr)
      | exact ih (i + 1) _ _ (by omega) (by rw [if_pos (Int32.not_le.mp h66)] at hr; exact hr)
    · refine ziload dX8_famous_69 rfl ?_
      refine zistore dX8_famous_71 (by decide) rfl ?_
      refine zaload_n dX8_famous_73 rfl ?_
      refine ziload dX8_famous_74 rfl ?_
      refine zialT (t := 0) (w := 5) dX8_famous_76 (by decide) hT (by decide) (by decide) (by omega) ?_
      refine zistore dX8_famous_77 (by decide) rfl ?_
      refine ziinc dX8_famous_79 rfl rfl (by decide) rfl ?_
      refine zgoto (tgt := 48) dX8_famous_82 (by decide) ?_
      refine zlvs (lv' := [(0, .ref (zad x 0)), (3, .ref (zad x (tp 0 + 5))), (4, .int _), (5, .int _), (6, .int (nI (i + 1)))]) ⟨rfl, rfl, rfl, rfl, by rw [nI_succ i]; rfl, trivial⟩ ?_
      first
      | exact ih (i + 1) _ _ (by omega) (by rw [if_neg (Int32.not_lt.mpr h66)] at hr; exact hr)
      | exact ih (i + 1) _ _ (by omega) (by rw [if_pos (Int32.not_le.mp h66)] at hr; exact hr)
set_option maxRecDepth 100000 in
set_option maxHeartbeats 4000000 in
theorem l_X8_famous1 (hR : RepC σ S) (r : Int32) : ∀ (k i : Nat) (b m : Int32), i + k = sN σ → mxF ((sT σ) 6) k i b m = r → zZ x true mX8_famous (fun q T => q = some (.int r) ∧ T = S) 48 [(0, .ref (zad x 0)), (3, .ref (zad x (tp 0 + 6))), (4, .int b), (5, .int m), (6, .int (nI i))] [] S := by
  have hT := hR.1
  have hn8 : sN σ ≤ 8 := hT.2.1
  intro k
  induction k with
  | zero =>
    intro i b m hi hr
    refine ziload dX8_famous_48 rfl ?_
    refine zaload_n dX8_famous_50 rfl ?_
    refine gf_X8_30 rfl dX8_famous_51 ?_
    refine gf_X8_192 (t := 0) (by decide) rfl dX8_famous_54 ?_
    rw [hT.1]
    refine zicmp_ge (tgt := 85) dX8_famous_57 (by decide) (fun _ => ?_) (fun h => absurd (nI_le (by omega) (by omega)) h)
    refine ziload dX8_famous_85 rfl ?_
    exact zireturn dX8_famous_87 rfl rfl ⟨congrArg (fun q => some (Value.int q)) hr, rfl⟩
  | succ k ih =>
    intro i b m hi hr
    rw [mxF] at hr
    refine ziload dX8_famous_48 rfl ?_
    refine zaload_n dX8_famous_50 rfl ?_
    refine gf_X8_30 rfl dX8_famous_51 ?_
    refine gf_X8_192 (t := 0) (by decide) rfl dX8_famous_54 ?_
    rw [hT.1]
    refine zicmp_ge (tgt := 85) dX8_famous_57 (by decide) (fun h => absurd h (nI_ge (by omega) (by omega))) (fun _ => ?_)
    refine zaload_n dX8_famous_60 rfl ?_
    refine ziload dX8_famous_61 rfl ?_
    refine zialT (t := 0) (w := 6) dX8_famous_63 (by decide) hT (by decide) (by decide) (by omega) ?_
    refine ziload dX8_famous_64 rfl ?_
    refine zicmp_le (tgt := 79) dX8_famous_66 (by decide) (fun h66 => ?_) (fun h66 => ?_)
    · refine ziinc dX8_famous_79 rfl rfl (by decide) rfl ?_
      refine zgoto (tgt := 48) dX8_famous_82 (by decide) ?_
      refine zlvs (lv' := [(0, .ref (zad x 0)), (3, .ref (zad x (tp 0 + 6))), (4, .int _), (5, .int _), (6, .int (nI (i + 1)))]) ⟨rfl, rfl, rfl, rfl, by rw [nI_succ i]; rfl, trivial⟩ ?_
      first
      | exact ih (i + 1) _ _ (by omega) (by rw [if_neg (Int32.not_lt.mpr h66)] at hr; exact hr)
      | exact ih (i + 1) _ _ (by omega) (by rw [if_pos (Int32.not_le.mp h66)] at hr; exact hr)
    · refine ziload dX8_famous_69 rfl ?_
      refine zistore dX8_famous_71 (by decide) rfl ?_
      refine zaload_n dX8_famous_73 rfl ?_
      refine ziload dX8_famous_74 rfl ?_
      refine zialT (t := 0) (w := 6) dX8_famous_76 (by decide) hT (by decide) (by decide) (by omega) ?_
      refine zistore dX8_famous_77 (by decide) rfl ?_
      refine ziinc dX8_famous_79 rfl rfl (by decide) rfl ?_
      refine zgoto (tgt := 48) dX8_famous_82 (by decide) ?_
      refine zlvs (lv' := [(0, .ref (zad x 0)), (3, .ref (zad x (tp 0 + 6))), (4, .int _), (5, .int _), (6, .int (nI (i + 1)))]) ⟨rfl, rfl, rfl, rfl, by rw [nI_succ i]; rfl, trivial⟩ ?_
      first
      | exact ih (i + 1) _ _ (by omega) (by rw [if_neg (Int32.not_lt.mpr h66)] at hr; exact hr)
      | exact ih (i + 1) _ _ (by omega) (by rw [if_pos (Int32.not_le.mp h66)] at hr; exact hr)
set_option maxRecDepth 100000 in
set_option maxHeartbeats 4000000 in
theorem c_X8_famous (hR : RepC σ S) (hW : WS σ) (w : Int32) : zR x true mX8_famous [.ref (zad x 0), .int w] S (qC (whF w 2) (mxF ((sT σ) (w.toNatClampNeg + 5)) (sN σ) 0 (-9) (-1)) σ (σ)) := by
  have hT := hR.1
  have hn8 : sN σ ≤ 8 := hT.2.1
  refine zC_of (by decide +kernel) (Nat.le_of_ble_eq_true rfl) ?_
  by_cases he : whF w 2 = 0
  · obtain ⟨j, hj, rfl⟩ := whF_of (k := 2) (by decide) he
    rcases (show j = 0 ∨ j = 1 by omega) with rfl | rfl
    · refine ziload_n dX8_famous_0 rfl ?_
      refine ziconst (v := 2) dX8_famous_1 (by decide) ?_
      refine zcSf  gk_X8_99 dX8_famous_2 c_X8_whatFault rfl (by decide) (Nat.le_of_ble_eq_true rfl) ?_ rfl
      refine zistore_n dX8_famous_5 (by decide) rfl ?_
      refine ziload_n dX8_famous_6 rfl ?_
      refine zif_eq (tgt := 16) dX8_famous_7 (by decide) (fun _ => ?_) (fun h => absurd he h)
      refine ziload_n dX8_famous_16 rfl ?_
      refine zif_ne (tgt := 30) dX8_famous_17 (by decide) (fun h => absurd rfl h) (fun _ => ?_)
      refine zaload_n dX8_famous_20 rfl ?_
      refine gf_X8_30 rfl dX8_famous_21 ?_
      refine gf_X8_157 (t := 0) (by decide) rfl dX8_famous_24 ?_
      refine zgoto (tgt := 37) dX8_famous_27 (by decide) ?_
      refine zastore_n dX8_famous_37 (by decide) rfl ?_
      refine zbipush (v := -9) dX8_famous_38 (by decide) ?_
      refine zistore dX8_famous_40 (by decide) rfl ?_
      refine ziconst (v := -1) dX8_famous_42 (by decide) ?_
      refine zistore dX8_famous_43 (by decide) rfl ?_
      refine ziconst (v := 0) dX8_famous_45 (by decide) ?_
      refine zistore dX8_famous_46 (by decide) rfl ?_
      refine zlvs (lv' := [(0, .ref (zad x 0)), (3, .ref (zad x (tp 0 + 5))), (4, .int (-9)), (5, .int (-1)), (6, .int (nI 0))]) ⟨rfl, rfl, rfl, rfl, rfl, trivial⟩ ?_
      exact zZ_mono (l_X8_famous0 hR _ (sN σ) 0 (-9) (-1) (by omega) rfl) (fun q U h => ⟨_, h.1, by rw [h.2]; exact qC_ok he rfl hR⟩)
    · refine ziload_n dX8_famous_0 rfl ?_
      refine ziconst (v := 2) dX8_famous_1 (by decide) ?_
      refine zcSf  gk_X8_99 dX8_famous_2 c_X8_whatFault rfl (by decide) (Nat.le_of_ble_eq_true rfl) ?_ rfl
      refine zistore_n dX8_famous_5 (by decide) rfl ?_
      refine ziload_n dX8_famous_6 rfl ?_
      refine zif_eq (tgt := 16) dX8_famous_7 (by decide) (fun _ => ?_) (fun h => absurd he h)
      refine ziload_n dX8_famous_16 rfl ?_
      refine zif_ne (tgt := 30) dX8_famous_17 (by decide) (fun _ => ?_) (fun h => absurd h (by decide))
      refine zaload_n dX8_famous_30 rfl ?_
      refine gf_X8_30 rfl dX8_famous_31 ?_
      refine gf_X8_160 (t := 0) (by decide) rfl dX8_famous_34 ?_
      refine zastore_n dX8_famous_37 (by decide) rfl ?_
      refine zbipush (v := -9) dX8_famous_38 (by decide) ?_
      refine zistore dX8_famous_40 (by decide) rfl ?_
      refine ziconst (v := -1) dX8_famous_42 (by decide) ?_
      refine zistore dX8_famous_43 (by decide) rfl ?_
      refine ziconst (v := 0) dX8_famous_45 (by decide) ?_
      refine zistore dX8_famous_46 (by decide) rfl ?_
      refine zlvs (lv' := [(0, .ref (zad x 0)), (3, .ref (zad x (tp 0 + 6))), (4, .int (-9)), (5, .int (-1)), (6, .int (nI 0))]) ⟨rfl, rfl, rfl, rfl, rfl, trivial⟩ ?_
      exact zZ_mono (l_X8_famous1 hR _ (sN σ) 0 (-9) (-1) (by omega) rfl) (fun q U h => ⟨_, h.1, by rw [h.2]; exact qC_ok he rfl hR⟩)
  · refine ziload_n dX8_famous_0 rfl ?_
    refine ziconst (v := 2) dX8_famous_1 (by decide) ?_
    refine zcSf  gk_X8_99 dX8_famous_2 c_X8_whatFault rfl (by decide) (Nat.le_of_ble_eq_true rfl) ?_ rfl
    refine zistore_n dX8_famous_5 (by decide) rfl ?_
    refine ziload_n dX8_famous_6 rfl ?_
    refine zif_eq (tgt := 16) dX8_famous_7 (by decide) (fun h => absurd h he) (fun _ => ?_)
    refine zaload_n dX8_famous_10 rfl ?_
    refine ziload_n dX8_famous_11 rfl ?_
    refine zcVf ob_X gk_X8_77 dX8_famous_12 (c_X8_refuse (okE.e (okE_whF _ _) he)) rfl (by decide) (Nat.le_of_ble_eq_true rfl) ?_ rfl
    exact zireturn dX8_famous_15 rfl rfl ⟨_, rfl, qC_no rfl (okE.e (okE_whF _ _) he) hR⟩
set_option maxRecDepth 100000 in
set_option maxHeartbeats 4000000 in
theorem l_X9_famous0 (hR : RepM σ S) (hW : WS σ) (r : Int32) : ∀ (k i : Nat) (b m : Int32), i + k = sN σ → (b = -9 ∧ m = -1 ∨ ∃ c, c < sN σ ∧ b = nI c ∧ m = (sT σ) 5 c) → mxF ((sT σ) 5) k i b m = r → zZ x false mX9_famous (fun q T => q = some (.int r) ∧ T = S) 21 [(0, .ref (zad x 0)), (1, .int (nI 0)), (2, .int b), (3, .int (nI i))] [] S := by
  have hM := hR.1
  have hn8 : sN σ ≤ 8 := hM.2.1
  intro k
  induction k with
  | zero =>
    intro i b m hi hb hr
    refine ziload_n dX9_famous_21 rfl ?_
    refine zaload_n dX9_famous_22 rfl ?_
    refine gf_X9_9 rfl dX9_famous_23 ?_
    refine ziconst (v := nI 0) dX9_famous_26 (by decide) ?_
    refine ziald dX9_famous_27 (mrk hr1.2) (mrl hr1.1 hr1.2) (by decide) (by decide) ?_
    rw [hM.1]
    refine zicmp_ge (tgt := 70) dX9_famous_28 (by decide) (fun _ => ?_) (fun h => absurd (nI_le (by omega) (by omega)) h)
    refine ziload_n dX9_famous_70 rfl ?_
    exact zireturn dX9_famous_71 rfl rfl ⟨congrArg (fun q => some (Value.int q)) hr, rfl⟩
  | succ k ih =>
    intro i b m hi hb hr
    rw [mxF] at hr
    rcases hb with ⟨rfl, rfl⟩ | ⟨c, hc, rfl, rfl⟩
    · obtain ⟨v, v1, v2⟩ := (hW.1.2.2.2.2 i (by omega)).1
      have h0 : (-1 : Int32) < (sT σ) 5 i := by rw [v2]; exact Int32.lt_of_lt_of_le (by decide) (nI_pos' (by omega))
      rw [if_pos h0] at hr
      refine ziload_n dX9_famous_21 rfl ?_
      refine zaload_n dX9_famous_22 rfl ?_
      refine gf_X9_9 rfl dX9_famous_23 ?_
      refine ziconst (v := nI 0) dX9_famous_26 (by decide) ?_
      refine ziald dX9_famous_27 (mrk hr1.2) (mrl hr1.1 hr1.2) (by decide) (by decide) ?_
      rw [hM.1]
      refine zicmp_ge (tgt := 70) dX9_famous_28 (by decide) (fun h => absurd h (nI_ge (by omega) (by omega))) (fun _ => ?_)
      refine ziload_n dX9_famous_31 rfl ?_
      refine zif_lt (tgt := 62) dX9_famous_32 (by decide) (fun _ => ?_) (fun h => absurd (by decide) h)
      refine ziload_n dX9_famous_62 rfl ?_
      refine zistore_n dX9_famous_63 (by decide) rfl ?_
      refine ziinc dX9_famous_64 rfl rfl (by decide) rfl ?_
      refine zgoto (tgt := 21) dX9_famous_67 (by decide) ?_
      refine zlvs (lv' := [(0, .ref (zad x 0)), (1, .int (nI 0)), (2, .int _), (3, .int (nI (i + 1)))]) ⟨rfl, rfl, rfl, by rw [nI_succ i]; rfl, trivial⟩ ?_
      exact ih (i + 1) _ _ (by omega) (Or.inr ⟨i, by omega, rfl, rfl⟩) hr
    · by_cases hg : (sT σ) 5 c < (sT σ) 5 i
      · rw [if_pos hg] at hr
        refine ziload_n dX9_famous_21 rfl ?_
        refine zaload_n dX9_famous_22 rfl ?_
        refine gf_X9_9 rfl dX9_famous_23 ?_
        refine ziconst (v := nI 0) dX9_famous_26 (by decide) ?_
        refine ziald dX9_famous_27 (mrk hr1.2) (mrl hr1.1 hr1.2) (by decide) (by decide) ?_
        rw [hM.1]
        refine zicmp_ge (tgt := 70) dX9_famous_28 (by decide) (fun h => absurd h (nI_ge (by omega) (by omega))) (fun _ => ?_)
        refine ziload_n dX9_famous_31 rfl ?_
        refine zif_lt (tgt := 62) dX9_famous_32 (by decide) (fun h => absurd h (nI_pos (by omega))) (fun _ => ?_)
        refine zaload_n dX9_famous_35 rfl ?_
        refine gf_X9_9 rfl dX9_famous_36 ?_
        refine ziload_n dX9_famous_39 rfl ?_
        refine ziconst (v := 4) dX9_famous_40 (by decide) ?_
        refine ziload_n dX9_famous_41 rfl ?_
        refine ziadd dX9_famous_42 ?_
        rw [show (4 : Int32) + nI 0 = nI 4 from rfl]
        refine zcSf  gk_X9_52 dX9_famous_43 (c_X9_of (j := 4)) rfl (by decide) (Nat.le_of_ble_eq_true rfl) ?_ rfl
        refine zialM (k := 1) (j := 4) (w := 5) dX9_famous_46 hr1 hM rfl (by decide) (by omega) ?_
        refine zaload_n dX9_famous_47 rfl ?_
        refine gf_X9_9 rfl dX9_famous_48 ?_
        refine ziload_n dX9_famous_51 rfl ?_
        refine ziconst (v := 4) dX9_famous_52 (by decide) ?_
        refine ziload_n dX9_famous_53 rfl ?_
        refine ziadd dX9_famous_54 ?_
        rw [show (4 : Int32) + nI 0 = nI 4 from rfl]
        refine zcSf  gk_X9_52 dX9_famous_55 (c_X9_of (j := 4)) rfl (by decide) (Nat.le_of_ble_eq_true rfl) ?_ rfl
        refine zialM (k := 1) (j := 4) (w := 5) dX9_famous_58 hr1 hM rfl (by decide) (by omega) ?_
        refine zicmp_le (tgt := 64) dX9_famous_59 (by decide) (fun h => absurd h (Int32.not_le.mpr hg)) (fun _ => ?_)
        refine ziload_n dX9_famous_62 rfl ?_
        refine zistore_n dX9_famous_63 (by decide) rfl ?_
        refine ziinc dX9_famous_64 rfl rfl (by decide) rfl ?_
        refine zgoto (tgt := 21) dX9_famous_67 (by decide) ?_
        refine zlvs (lv' := [(0, .ref (zad x 0)), (1, .int (nI 0)), (2, .int _), (3, .int (nI (i + 1)))]) ⟨rfl, rfl, rfl, by rw [nI_succ i]; rfl, trivial⟩ ?_
        exact ih (i + 1) _ _ (by omega) (Or.inr ⟨i, by omega, rfl, rfl⟩) hr
      · rw [if_neg hg] at hr
        refine ziload_n dX9_famous_21 rfl ?_
        refine zaload_n dX9_famous_22 rfl ?_
        refine gf_X9_9 rfl dX9_famous_23 ?_
        refine ziconst (v := nI 0) dX9_famous_26 (by decide) ?_
        refine ziald dX9_famous_27 (mrk hr1.2) (mrl hr1.1 hr1.2) (by decide) (by decide) ?_
        rw [hM.1]
        refine zicmp_ge (tgt := 70) dX9_famous_28 (by decide) (fun h => absurd h (nI_ge (by omega) (by omega))) (fun _ => ?_)
        refine ziload_n dX9_famous_31 rfl ?_
        refine zif_lt (tgt := 62) dX9_famous_32 (by decide) (fun h => absurd h (nI_pos (by omega))) (fun _ => ?_)
        refine zaload_n dX9_famous_35 rfl ?_
        refine gf_X9_9 rfl dX9_famous_36 ?_
        refine ziload_n dX9_famous_39 rfl ?_
        refine ziconst (v := 4) dX9_famous_40 (by decide) ?_
        refine ziload_n dX9_famous_41 rfl ?_
        refine ziadd dX9_famous_42 ?_
        rw [show (4 : Int32) + nI 0 = nI 4 from rfl]
        refine zcSf  gk_X9_52 dX9_famous_43 (c_X9_of (j := 4)) rfl (by decide) (Nat.le_of_ble_eq_true rfl) ?_ rfl
        refine zialM (k := 1) (j := 4) (w := 5) dX9_famous_46 hr1 hM rfl (by decide) (by omega) ?_
        refine zaload_n dX9_famous_47 rfl ?_
        refine gf_X9_9 rfl dX9_famous_48 ?_
        refine ziload_n dX9_famous_51 rfl ?_
        refine ziconst (v := 4) dX9_famous_52 (by decide) ?_
        refine ziload_n dX9_famous_53 rfl ?_
        refine ziadd dX9_famous_54 ?_
        rw [show (4 : Int32) + nI 0 = nI 4 from rfl]
        refine zcSf  gk_X9_52 dX9_famous_55 (c_X9_of (j := 4)) rfl (by decide) (Nat.le_of_ble_eq_true rfl) ?_ rfl
        refine zialM (k := 1) (j := 4) (w := 5) dX9_famous_58 hr1 hM rfl (by decide) (by omega) ?_
        refine zicmp_le (tgt := 64) dX9_famous_59 (by decide) (fun _ => ?_) (fun h => absurd (Int32.not_lt.mp hg) h)
        refine ziinc dX9_famous_64 rfl rfl (by decide) rfl ?_
        refine zgoto (tgt := 21) dX9_famous_67 (by decide) ?_
        refine zlvs (lv' := [(0, .ref (zad x 0)), (1, .int (nI 0)), (2, .int _), (3, .int (nI (i + 1)))]) ⟨rfl, rfl, rfl, by rw [nI_succ i]; rfl, trivial⟩ ?_
        exact ih (i + 1) _ _ (by omega) (Or.inr ⟨c, hc, rfl, rfl⟩) hr
set_option maxRecDepth 100000 in
set_option maxHeartbeats 4000000 in
theorem l_X9_famous1 (hR : RepM σ S) (hW : WS σ) (r : Int32) : ∀ (k i : Nat) (b m : Int32), i + k = sN σ → (b = -9 ∧ m = -1 ∨ ∃ c, c < sN σ ∧ b = nI c ∧ m = (sT σ) 6 c) → mxF ((sT σ) 6) k i b m = r → zZ x false mX9_famous (fun q T => q = some (.int r) ∧ T = S) 21 [(0, .ref (zad x 0)), (1, .int (nI 1)), (2, .int b), (3, .int (nI i))] [] S := by
  have hM := hR.1
  have hn8 : sN σ ≤ 8 := hM.2.1
  intro k
  induction k with
  | zero =>
    intro i b m hi hb hr
    refine ziload_n dX9_famous_21 rfl ?_
    refine zaload_n dX9_famous_22 rfl ?_
    refine gf_X9_9 rfl dX9_famous_23 ?_
    refine ziconst (v := nI 0) dX9_famous_26 (by decide) ?_
    refine ziald dX9_famous_27 (mrk hr1.2) (mrl hr1.1 hr1.2) (by decide) (by decide) ?_
    rw [hM.1]
    refine zicmp_ge (tgt := 70) dX9_famous_28 (by decide) (fun _ => ?_) (fun h => absurd (nI_le (by omega) (by omega)) h)
    refine ziload_n dX9_famous_70 rfl ?_
    exact zireturn dX9_famous_71 rfl rfl ⟨congrArg (fun q => some (Value.int q)) hr, rfl⟩
  | succ k ih =>
    intro i b m hi hb hr
    rw [mxF] at hr
    rcases hb with ⟨rfl, rfl⟩ | ⟨c, hc, rfl, rfl⟩
    · obtain ⟨v, v1, v2⟩ := (hW.1.2.2.2.2 i (by omega)).2
      have h0 : (-1 : Int32) < (sT σ) 6 i := by rw [v2]; exact Int32.lt_of_lt_of_le (by decide) (nI_pos' (by omega))
      rw [if_pos h0] at hr
      refine ziload_n dX9_famous_21 rfl ?_
      refine zaload_n dX9_famous_22 rfl ?_
      refine gf_X9_9 rfl dX9_famous_23 ?_
      refine ziconst (v := nI 0) dX9_famous_26 (by decide) ?_
      refine ziald dX9_famous_27 (mrk hr1.2) (mrl hr1.1 hr1.2) (by decide) (by decide) ?_
      rw [hM.1]
      refine zicmp_ge (tgt := 70) dX9_famous_28 (by decide) (fun h => absurd h (nI_ge (by omega) (by omega))) (fun _ => ?_)
      refine ziload_n dX9_famous_31 rfl ?_
      refine zif_lt (tgt := 62) dX9_famous_32 (by decide) (fun _ => ?_) (fun h => absurd (by decide) h)
      refine ziload_n dX9_famous_62 rfl ?_
      refine zistore_n dX9_famous_63 (by decide) rfl ?_
      refine ziinc dX9_famous_64 rfl rfl (by decide) rfl ?_
      refine zgoto (tgt := 21) dX9_famous_67 (by decide) ?_
      refine zlvs (lv' := [(0, .ref (zad x 0)), (1, .int (nI 1)), (2, .int _), (3, .int (nI (i + 1)))]) ⟨rfl, rfl, rfl, by rw [nI_succ i]; rfl, trivial⟩ ?_
      exact ih (i + 1) _ _ (by omega) (Or.inr ⟨i, by omega, rfl, rfl⟩) hr
    · by_cases hg : (sT σ) 6 c < (sT σ) 6 i
      · rw [if_pos hg] at hr
        refine ziload_n dX9_famous_21 rfl ?_
        refine zaload_n dX9_famous_22 rfl ?_
        refine gf_X9_9 rfl dX9_famous_23 ?_
        refine ziconst (v := nI 0) dX9_famous_26 (by decide) ?_
        refine ziald dX9_famous_27 (mrk hr1.2) (mrl hr1.1 hr1.2) (by decide) (by decide) ?_
        rw [hM.1]
        refine zicmp_ge (tgt := 70) dX9_famous_28 (by decide) (fun h => absurd h (nI_ge (by omega) (by omega))) (fun _ => ?_)
        refine ziload_n dX9_famous_31 rfl ?_
        refine zif_lt (tgt := 62) dX9_famous_32 (by decide) (fun h => absurd h (nI_pos (by omega))) (fun _ => ?_)
        refine zaload_n dX9_famous_35 rfl ?_
        refine gf_X9_9 rfl dX9_famous_36 ?_
        refine ziload_n dX9_famous_39 rfl ?_
        refine ziconst (v := 4) dX9_famous_40 (by decide) ?_
        refine ziload_n dX9_famous_41 rfl ?_
        refine ziadd dX9_famous_42 ?_
        rw [show (4 : Int32) + nI 1 = nI 5 from rfl]
        refine zcSf  gk_X9_52 dX9_famous_43 (c_X9_of (j := 5)) rfl (by decide) (Nat.le_of_ble_eq_true rfl) ?_ rfl
        refine zialM (k := 1) (j := 5) (w := 6) dX9_famous_46 hr1 hM rfl (by decide) (by omega) ?_
        refine zaload_n dX9_famous_47 rfl ?_
        refine gf_X9_9 rfl dX9_famous_48 ?_
        refine ziload_n dX9_famous_51 rfl ?_
        refine ziconst (v := 4) dX9_famous_52 (by decide) ?_
        refine ziload_n dX9_famous_53 rfl ?_
        refine ziadd dX9_famous_54 ?_
        rw [show (4 : Int32) + nI 1 = nI 5 from rfl]
        refine zcSf  gk_X9_52 dX9_famous_55 (c_X9_of (j := 5)) rfl (by decide) (Nat.le_of_ble_eq_true rfl) ?_ rfl
        refine zialM (k := 1) (j := 5) (w := 6) dX9_famous_58 hr1 hM rfl (by decide) (by omega) ?_
        refine zicmp_le (tgt := 64) dX9_famous_59 (by decide) (fun h => absurd h (Int32.not_le.mpr hg)) (fun _ => ?_)
        refine ziload_n dX9_famous_62 rfl ?_
        refine zistore_n dX9_famous_63 (by decide) rfl ?_
        refine ziinc dX9_famous_64 rfl rfl (by decide) rfl ?_
        refine zgoto (tgt := 21) dX9_famous_67 (by decide) ?_
        refine zlvs (lv' := [(0, .ref (zad x 0)), (1, .int (nI 1)), (2, .int _), (3, .int (nI (i + 1)))]) ⟨rfl, rfl, rfl, by rw [nI_succ i]; rfl, trivial⟩ ?_
        exact ih (i + 1) _ _ (by omega) (Or.inr ⟨i, by omega, rfl, rfl⟩) hr
      · rw [if_neg hg] at hr
        refine ziload_n dX9_famous_21 rfl ?_
        refine zaload_n dX9_famous_22 rfl ?_
        refine gf_X9_9 rfl dX9_famous_23 ?_
        refine ziconst (v := nI 0) dX9_famous_26 (by decide) ?_
        refine ziald dX9_famous_27 (mrk hr1.2) (mrl hr1.1 hr1.2) (by decide) (by decide) ?_
        rw [hM.1]
        refine zicmp_ge (tgt := 70) dX9_famous_28 (by decide) (fun h => absurd h (nI_ge (by omega) (by omega))) (fun _ => ?_)
        refine ziload_n dX9_famous_31 rfl ?_
        refine zif_lt (tgt := 62) dX9_famous_32 (by decide) (fun h => absurd h (nI_pos (by omega))) (fun _ => ?_)
        refine zaload_n dX9_famous_35 rfl ?_
        refine gf_X9_9 rfl dX9_famous_36 ?_
        refine ziload_n dX9_famous_39 rfl ?_
        refine ziconst (v := 4) dX9_famous_40 (by decide) ?_
        refine ziload_n dX9_famous_41 rfl ?_
        refine ziadd dX9_famous_42 ?_
        rw [show (4 : Int32) + nI 1 = nI 5 from rfl]
        refine zcSf  gk_X9_52 dX9_famous_43 (c_X9_of (j := 5)) rfl (by decide) (Nat.le_of_ble_eq_true rfl) ?_ rfl
        refine zialM (k := 1) (j := 5) (w := 6) dX9_famous_46 hr1 hM rfl (by decide) (by omega) ?_
        refine zaload_n dX9_famous_47 rfl ?_
        refine gf_X9_9 rfl dX9_famous_48 ?_
        refine ziload_n dX9_famous_51 rfl ?_
        refine ziconst (v := 4) dX9_famous_52 (by decide) ?_
        refine ziload_n dX9_famous_53 rfl ?_
        refine ziadd dX9_famous_54 ?_
        rw [show (4 : Int32) + nI 1 = nI 5 from rfl]
        refine zcSf  gk_X9_52 dX9_famous_55 (c_X9_of (j := 5)) rfl (by decide) (Nat.le_of_ble_eq_true rfl) ?_ rfl
        refine zialM (k := 1) (j := 5) (w := 6) dX9_famous_58 hr1 hM rfl (by decide) (by omega) ?_
        refine zicmp_le (tgt := 64) dX9_famous_59 (by decide) (fun _ => ?_) (fun h => absurd (Int32.not_lt.mp hg) h)
        refine ziinc dX9_famous_64 rfl rfl (by decide) rfl ?_
        refine zgoto (tgt := 21) dX9_famous_67 (by decide) ?_
        refine zlvs (lv' := [(0, .ref (zad x 0)), (1, .int (nI 1)), (2, .int _), (3, .int (nI (i + 1)))]) ⟨rfl, rfl, rfl, by rw [nI_succ i]; rfl, trivial⟩ ?_
        exact ih (i + 1) _ _ (by omega) (Or.inr ⟨c, hc, rfl, rfl⟩) hr
set_option maxRecDepth 100000 in
set_option maxHeartbeats 4000000 in
theorem c_X9_famous (hR : RepM σ S) (hW : WS σ) (w : Int32) : zR x false mX9_famous [.ref (zad x 0), .int w] S (qM (whF w 2) (mxF ((sT σ) (w.toNatClampNeg + 5)) (sN σ) 0 (-9) (-1)) σ (σ)) := by
  have hM := hR.1
  have hn8 : sN σ ≤ 8 := hM.2.1
  refine zC_of (by decide +kernel) (Nat.le_of_ble_eq_true rfl) ?_
  by_cases he : whF w 2 = 0
  · have he2 := he
    obtain ⟨j, hj, rfl⟩ := whF_of (k := 2) (by decide) he
    rcases (show j = 0 ∨ j = 1 by omega) with rfl | rfl
    · refine ziload_n dX9_famous_0 rfl ?_
      refine ziconst (v := 0) dX9_famous_1 (by decide) ?_
      refine ziconst (v := 1) dX9_famous_2 (by decide) ?_
      refine zcSf  gk_X9_44 dX9_famous_3 c_isIn_1 rfl (by decide) (Nat.le_of_ble_eq_true rfl) ?_ rfl
      refine zifb_ne (tgt := 16) dX9_famous_6 (by decide) (fun _ => ?_) (fun h => absurd (h.symm.trans (decide_eq_true he)) (by decide))
      refine zbipush (v := -9) dX9_famous_16 (by decide) ?_
      refine zistore_n dX9_famous_18 (by decide) rfl ?_
      refine ziconst (v := 0) dX9_famous_19 (by decide) ?_
      refine zistore_n dX9_famous_20 (by decide) rfl ?_
      refine zlvs (lv' := [(0, .ref (zad x 0)), (1, .int (nI 0)), (2, .int (-9)), (3, .int (nI 0))]) ⟨rfl, rfl, rfl, rfl, trivial⟩ ?_
      exact zZ_mono (l_X9_famous0 hR hW _ (sN σ) 0 (-9) (-1) (by omega) (Or.inl ⟨rfl, rfl⟩) rfl) (fun q U h => ⟨_, h.1, by rw [h.2]; exact qM_ok he rfl hR⟩)
    · refine ziload_n dX9_famous_0 rfl ?_
      refine ziconst (v := 0) dX9_famous_1 (by decide) ?_
      refine ziconst (v := 1) dX9_famous_2 (by decide) ?_
      refine zcSf  gk_X9_44 dX9_famous_3 c_isIn_1 rfl (by decide) (Nat.le_of_ble_eq_true rfl) ?_ rfl
      refine zifb_ne (tgt := 16) dX9_famous_6 (by decide) (fun _ => ?_) (fun h => absurd (h.symm.trans (decide_eq_true he)) (by decide))
      refine zbipush (v := -9) dX9_famous_16 (by decide) ?_
      refine zistore_n dX9_famous_18 (by decide) rfl ?_
      refine ziconst (v := 0) dX9_famous_19 (by decide) ?_
      refine zistore_n dX9_famous_20 (by decide) rfl ?_
      refine zlvs (lv' := [(0, .ref (zad x 0)), (1, .int (nI 1)), (2, .int (-9)), (3, .int (nI 0))]) ⟨rfl, rfl, rfl, rfl, trivial⟩ ?_
      exact zZ_mono (l_X9_famous1 hR hW _ (sN σ) 0 (-9) (-1) (by omega) (Or.inl ⟨rfl, rfl⟩) rfl) (fun q U h => ⟨_, h.1, by rw [h.2]; exact qM_ok he rfl hR⟩)
  · refine ziload_n dX9_famous_0 rfl ?_
    refine ziconst (v := 0) dX9_famous_1 (by decide) ?_
    refine ziconst (v := 1) dX9_famous_2 (by decide) ?_
    refine zcSf  gk_X9_44 dX9_famous_3 c_isIn_1 rfl (by decide) (Nat.le_of_ble_eq_true rfl) ?_ rfl
    refine zifb_ne (tgt := 16) dX9_famous_6 (by decide) (fun h => absurd (h.symm.trans (decide_eq_false he)) (by decide)) (fun _ => ?_)
    refine zaload_n dX9_famous_9 rfl ?_
    refine zbipush (v := -2) dX9_famous_10 (by decide) ?_
    refine zcVf ob_Mo gk_X9_38 dX9_famous_12 (c_X9_no isE_2) rfl (by decide) (Nat.le_of_ble_eq_true rfl) ?_ rfl
    exact zireturn dX9_famous_15 rfl rfl ⟨_, rfl, qM_no (whF_2 he) isE_2 hR⟩
end PUB6
