/-! who, whatIs, lots -/
section WHO
variable {x : zCx} {S : zSt} {σ σ' : Sig}
def ftF (r : Nat → Int32) (ch : Int32) : Nat → Nat → Int32 → Bool
  | 0, _, _ => true
  | k + 1, i, a => if r i = a then ftF r ch k (i + 1) (held (a + ch)) else false
theorem bI_and (a c : Bool) : bI a &&& bI c = bI (a && c) := by cases a <;> cases c <;> decide
def chF (n : Nat) (T : Tw) (p f : Nat) : Int32 := fch (T 1 p) (T 2 p) (knowers n T (nI f))
def whoA (n : Nat) (T : Tw) (R : Nat × (Nat → Int32)) (f : Nat) : Int32 := oF (fun p => if ftF R.2 (chF n T p f) R.1 0 (T 5 f) = true then 1 <<< (nI p &&& 31) else 0) n 0 0

set_option maxRecDepth 100000 in
set_option maxHeartbeats 4000000 in
theorem l_X8_wearingFits (hR : RepC σ S) (hW : WS σ) {ch : Int32} (r : Bool) : ∀ (k i : Nat) (a : Int32), i + k = (sR σ).1 → ftF (sR σ).2 ch k i a = r → zZ x true mX8_wearingFits (fun q U => q = some (.int (bI r)) ∧ U = S) 24 [(0, .ref (zad x 0)), (3, .int ch), (4, .int a), (5, .int (nI i))] [] S := by
  have hr16 := hW.2.2.2.1
  intro k
  induction k with
  | zero =>
    intro i a hi hr
    refine ziload dX8_wearingFits_24 rfl ?_
    refine zaload_n dX8_wearingFits_26 rfl ?_
    refine gf_X8_65 rfl dX8_wearingFits_27 ?_
    rw [hR.2.2.2.2.1.1]
    refine zicmp_ge (tgt := 62) dX8_wearingFits_30 (by decide) (fun _ => ?_) (fun h => absurd (nI_le (by omega) (by omega)) h)
    refine ziconst (v := 1) dX8_wearingFits_62 (by decide) ?_
    exact zbret (q := true) dX8_wearingFits_63 rfl rfl ⟨congrArg (fun q => some (Value.int (bI q))) hr, rfl⟩
  | succ k ih =>
    intro i a hi hr
    rw [ftF] at hr
    refine ziload dX8_wearingFits_24 rfl ?_
    refine zaload_n dX8_wearingFits_26 rfl ?_
    refine gf_X8_65 rfl dX8_wearingFits_27 ?_
    rw [hR.2.2.2.2.1.1]
    refine zicmp_ge (tgt := 62) dX8_wearingFits_30 (by decide) (fun h => absurd h (nI_ge (by omega) (by omega))) (fun _ => ?_)
    refine zaload_n dX8_wearingFits_33 rfl ?_
    refine gf_X8_49 rfl dX8_wearingFits_34 ?_
    refine ziload dX8_wearingFits_37 rfl ?_
    refine ziald dX8_wearingFits_39 (by decide) rfl (by decide) (by omega) ?_
    rw [hR.2.2.2.2.1.2 i (by omega)]
    refine ziload dX8_wearingFits_40 rfl ?_
    refine zicmp_eq (tgt := 47) dX8_wearingFits_42 (by decide) (fun h42 => ?_) (fun h42 => ?_)
    · refine ziload dX8_wearingFits_47 rfl ?_
      refine ziload_n dX8_wearingFits_49 rfl ?_
      refine ziadd dX8_wearingFits_50 ?_
      refine zcSf  gk_X8_276 dX8_wearingFits_51 c_X8_withinMarks rfl (by decide) (Nat.le_of_ble_eq_true rfl) ?_ rfl
      refine zistore dX8_wearingFits_54 (by decide) rfl ?_
      refine ziinc dX8_wearingFits_56 rfl rfl (by decide) rfl ?_
      refine zgoto (tgt := 24) dX8_wearingFits_59 (by decide) ?_
      refine zlvs (lv' := [(0, .ref (zad x 0)), (3, .int ch), (4, .int _), (5, .int (nI (i + 1)))]) ⟨rfl, rfl, rfl, by rw [nI_succ i]; rfl, trivial⟩ ?_
      exact ih (i + 1) _ (by omega) (by rw [if_pos h42] at hr; exact hr)
    · refine ziconst (v := 0) dX8_wearingFits_45 (by decide) ?_
      exact zbret (q := false) dX8_wearingFits_46 rfl rfl ⟨congrArg (fun q => some (Value.int (bI q))) (by rw [if_neg h42] at hr; exact hr), rfl⟩
set_option maxRecDepth 100000 in
set_option maxHeartbeats 4000000 in
theorem c_X8_wearingFits (hR : RepC σ S) (hW : WS σ) {p f : Nat} (hp : p < sN σ) (hf : f < sN σ) : zF x true mX8_wearingFits [.ref (zad x 0), .int (nI p), .int (nI f)] S (some (.int (bI (ftF (sR σ).2 (chF (sN σ) (sT σ) p f) (sR σ).1 0 ((sT σ) 5 f))))) S := by
  have hT := hR.1
  have hn8 : sN σ ≤ 8 := hT.2.1
  obtain ⟨-, kd, hkd, hk⟩ := hW.1.vw p hp
  refine zC_of (by decide +kernel) (Nat.le_of_ble_eq_true rfl) ?_
  refine zaload_n dX8_wearingFits_0 rfl ?_
  refine gf_X8_30 rfl dX8_wearingFits_1 ?_
  refine ziload_n dX8_wearingFits_4 rfl ?_
  refine ziload_n dX8_wearingFits_5 rfl ?_
  refine zcVf (ob_town (t := 0) (by decide)) gk_X8_273 dX8_wearingFits_6 (c_X7_changeOfFame (by decide) hT hp hkd hk) rfl (by decide) (Nat.le_of_ble_eq_true rfl) ?_ rfl
  refine zistore_n dX8_wearingFits_9 (by decide) rfl ?_
  refine zaload_n dX8_wearingFits_10 rfl ?_
  refine gf_X8_30 rfl dX8_wearingFits_11 ?_
  refine gf_X8_157 (t := 0) (by decide) rfl dX8_wearingFits_14 ?_
  refine ziload_n dX8_wearingFits_17 rfl ?_
  refine zialT (t := 0) (w := 5) dX8_wearingFits_18 (by decide) hT (by decide) (by decide) (by omega) ?_
  refine zistore dX8_wearingFits_19 (by decide) rfl ?_
  refine ziconst (v := 0) dX8_wearingFits_21 (by decide) ?_
  refine zistore dX8_wearingFits_22 (by decide) rfl ?_
  refine zlvs (lv' := [(0, .ref (zad x 0)), (3, .int (chF (sN σ) (sT σ) p f)), (4, .int _), (5, .int (nI 0))]) ⟨rfl, rfl, rfl, rfl, trivial⟩ ?_
  exact l_X8_wearingFits hR hW _ (sR σ).1 0 _ (by omega) rfl
set_option maxRecDepth 100000 in
set_option maxHeartbeats 4000000 in
theorem l_X8_who (hR : RepC σ S) (hW : WS σ) {f : Nat} (hf : f < sN σ) (r : Int32) : ∀ (k i : Nat) (a : Int32), i + k = sN σ → oF (fun p => if ftF (sR σ).2 (chF (sN σ) (sT σ) p f) (sR σ).1 0 ((sT σ) 5 f) = true then 1 <<< (nI p &&& 31) else 0) k i a = r → zZ x true mX8_who (fun q U => q = some (.int r) ∧ U = S) 21 [(0, .ref (zad x 0)), (1, .int (nI f)), (3, .int a), (4, .int (nI i))] [] S := by
  have hT := hR.1
  have hn8 : sN σ ≤ 8 := hT.2.1
  intro k
  induction k with
  | zero =>
    intro i a hi hr
    refine ziload dX8_who_21 rfl ?_
    refine zaload_n dX8_who_23 rfl ?_
    refine gf_X8_30 rfl dX8_who_24 ?_
    refine gf_X8_192 (t := 0) (by decide) rfl dX8_who_27 ?_
    rw [hT.1]
    refine zicmp_ge (tgt := 56) dX8_who_30 (by decide) (fun _ => ?_) (fun h => absurd (nI_le (by omega) (by omega)) h)
    refine ziload_n dX8_who_56 rfl ?_
    exact zireturn dX8_who_57 rfl rfl ⟨congrArg (fun q => some (Value.int q)) hr, rfl⟩
  | succ k ih =>
    intro i a hi hr
    have hs : oF (fun p => if ftF (sR σ).2 (chF (sN σ) (sT σ) p f) (sR σ).1 0 ((sT σ) 5 f) = true then 1 <<< (nI p &&& 31) else 0) (k + 1) i a = oF (fun p => if ftF (sR σ).2 (chF (sN σ) (sT σ) p f) (sR σ).1 0 ((sT σ) 5 f) = true then 1 <<< (nI p &&& 31) else 0) k (i + 1) (a ||| (if ftF (sR σ).2 (chF (sN σ) (sT σ) i f) (sR σ).1 0 ((sT σ) 5 f) = true then (1 : Int32) <<< (nI i &&& 31) else 0)) := rfl
    rw [hs] at hr
    refine ziload dX8_who_21 rfl ?_
    refine zaload_n dX8_who_23 rfl ?_
    refine gf_X8_30 rfl dX8_who_24 ?_
    refine gf_X8_192 (t := 0) (by decide) rfl dX8_who_27 ?_
    rw [hT.1]
    refine zicmp_ge (tgt := 56) dX8_who_30 (by decide) (fun h => absurd h (nI_ge (by omega) (by omega))) (fun _ => ?_)
    refine zaload_n dX8_who_33 rfl ?_
    refine ziload dX8_who_34 rfl ?_
    refine ziload_n dX8_who_36 rfl ?_
    refine zcVf ob_X gk_X8_270 dX8_who_37 (c_X8_wearingFits hR hW (by omega) hf) rfl (by decide) (Nat.le_of_ble_eq_true rfl) ?_ rfl
    refine zifb_eq (tgt := 50) dX8_who_40 (by decide) (fun h40 => ?_) (fun h40 => ?_)
    · refine ziinc dX8_who_50 rfl rfl (by decide) rfl ?_
      refine zgoto (tgt := 21) dX8_who_53 (by decide) ?_
      refine zlvs (lv' := [(0, .ref (zad x 0)), (1, .int (nI f)), (3, .int _), (4, .int (nI (i + 1)))]) ⟨rfl, rfl, rfl, by rw [nI_succ i]; rfl, trivial⟩ ?_
      exact ih (i + 1) _ (by omega) (by rw [← hr]; simp [h40])
    · refine ziload_n dX8_who_43 rfl ?_
      refine ziconst (v := 1) dX8_who_44 (by decide) ?_
      refine ziload dX8_who_45 rfl ?_
      refine zishl dX8_who_47 ?_
      refine zior dX8_who_48 ?_
      refine zistore_n dX8_who_49 (by decide) rfl ?_
      refine ziinc dX8_who_50 rfl rfl (by decide) rfl ?_
      refine zgoto (tgt := 21) dX8_who_53 (by decide) ?_
      refine zlvs (lv' := [(0, .ref (zad x 0)), (1, .int (nI f)), (3, .int _), (4, .int (nI (i + 1)))]) ⟨rfl, rfl, rfl, by rw [nI_succ i]; rfl, trivial⟩ ?_
      exact ih (i + 1) _ (by omega) (by rw [← hr]; simp [h40])
set_option maxRecDepth 100000 in
set_option maxHeartbeats 4000000 in
theorem c_X8_who (hR : RepC σ S) (hW : WS σ) (f : Int32) : zR x true mX8_who [.ref (zad x 0), .int f] S (qC (pF (sN σ) f) (whoA (sN σ) (sT σ) (sR σ) f.toNatClampNeg) σ (σ)) := by
  have hT := hR.1
  have hn8 : sN σ ≤ 8 := hT.2.1
  refine zC_of (by decide +kernel) (Nat.le_of_ble_eq_true rfl) ?_
  by_cases he : pF (sN σ) f = 0
  · obtain ⟨i, hi, rfl⟩ := pF_of (by omega) he
    refine zaload_n dX8_who_0 rfl ?_
    refine ziload_n dX8_who_1 rfl ?_
    refine zcVf ob_X gk_X8_96 dX8_who_2 (c_X8_personFault hT) rfl (by decide) (Nat.le_of_ble_eq_true rfl) ?_ rfl
    refine zistore_n dX8_who_5 (by decide) rfl ?_
    refine ziload_n dX8_who_6 rfl ?_
    refine zif_eq (tgt := 16) dX8_who_7 (by decide) (fun _ => ?_) (fun h => absurd he h)
    refine ziconst (v := 0) dX8_who_16 (by decide) ?_
    refine zistore_n dX8_who_17 (by decide) rfl ?_
    refine ziconst (v := 0) dX8_who_18 (by decide) ?_
    refine zistore dX8_who_19 (by decide) rfl ?_
    refine zlvs (lv' := [(0, .ref (zad x 0)), (1, .int (nI i)), (3, .int 0), (4, .int (nI 0))]) ⟨rfl, rfl, rfl, rfl, trivial⟩ ?_
    exact zZ_mono (l_X8_who hR hW hi _ (sN σ) 0 0 (by omega) rfl) (fun q U h => ⟨_, h.1, by rw [h.2]; exact qC_ok he (by rw [nI_clamp (n := i) (by omega)]; rfl) hR⟩)
  · refine zaload_n dX8_who_0 rfl ?_
    refine ziload_n dX8_who_1 rfl ?_
    refine zcVf ob_X gk_X8_96 dX8_who_2 (c_X8_personFault hT) rfl (by decide) (Nat.le_of_ble_eq_true rfl) ?_ rfl
    refine zistore_n dX8_who_5 (by decide) rfl ?_
    refine ziload_n dX8_who_6 rfl ?_
    refine zif_eq (tgt := 16) dX8_who_7 (by decide) (fun h => absurd h he) (fun _ => ?_)
    refine zaload_n dX8_who_10 rfl ?_
    refine ziload_n dX8_who_11 rfl ?_
    refine zcVf ob_X gk_X8_77 dX8_who_12 (c_X8_refuse (okE.e (okE_pF _ _) he)) rfl (by decide) (Nat.le_of_ble_eq_true rfl) ?_ rfl
    exact zireturn dX8_who_15 rfl rfl ⟨_, rfl, qC_no rfl (okE.e (okE_pF _ _) he) hR⟩
set_option maxRecDepth 100000 in
set_option maxHeartbeats 4000000 in
theorem l1_X9_who (hR : RepM σ S) (hW : WS σ) {f p : Nat} {c : Int32} (hf : f < sN σ) (hp : p < sN σ) {post : Option Value → zSt → Prop} (bb : Bool) (hn : zZ x false mX9_who post 100 [(0, .ref (zad x 0)), (1, .int (nI f)), (2, .int c), (3, .int (nI p)), (5, .int (bI bb))] [] S) : ∀ (k i : Nat) (a : Int32) (b : Bool), i + k = (sR σ).1 → (b && ftF (sR σ).2 (chF (sN σ) (sT σ) p f) k i a) = bb → zZ x false mX9_who post 46 [(0, .ref (zad x 0)), (1, .int (nI f)), (2, .int c), (3, .int (nI p)), (4, .int a), (5, .int (bI b)), (6, .int (nI i))] [] S := by
  have hM := hR.1
  have hn8 : sN σ ≤ 8 := hM.2.1
  have hr16 := hW.2.2.2.1
  obtain ⟨-, kd, hkd, hkk⟩ := hW.1.vw p hp
  intro k
  induction k with
  | zero =>
    intro i a b hi hr
    have hr : b = bb := by rw [← hr]; exact (Bool.and_true b).symm
    subst hr
    refine ziload dX9_who_46 rfl ?_
    refine zaload_n dX9_who_48 rfl ?_
    refine gf_X9_189 rfl dX9_who_49 ?_
    rw [hR.2.2.2.2.1.1]
    refine zicmp_ge (tgt := 100) dX9_who_52 (by decide) (fun _ => ?_) (fun h => absurd (nI_le (by omega) (by omega)) h)
    refine zlvs (lv' := [(0, .ref (zad x 0)), (1, .int (nI f)), (2, .int c), (3, .int (nI p)), (5, .int (bI b))]) ⟨rfl, rfl, rfl, rfl, rfl, trivial⟩ ?_
    exact hn
  | succ k ih =>
    intro i a b hi hr
    rw [ftF] at hr
    by_cases hq : (sR σ).2 i = a
    · rw [if_pos hq] at hr
      refine ziload dX9_who_46 rfl ?_
      refine zaload_n dX9_who_48 rfl ?_
      refine gf_X9_189 rfl dX9_who_49 ?_
      rw [hR.2.2.2.2.1.1]
      refine zicmp_ge (tgt := 100) dX9_who_52 (by decide) (fun h => absurd h (nI_ge (by omega) (by omega))) (fun _ => ?_)
      refine ziload dX9_who_55 rfl ?_
      refine ziload dX9_who_57 rfl ?_
      refine zaload_n dX9_who_59 rfl ?_
      refine gf_X9_28 rfl dX9_who_60 ?_
      refine ziload dX9_who_63 rfl ?_
      refine ziald dX9_who_65 (by decide) rfl (by decide) (by omega) ?_
      rw [hR.2.2.2.2.1.2 i (by omega)]
      refine zicmp_ne (tgt := 73) dX9_who_66 (by decide) (fun h => absurd hq.symm h) (fun _ => ?_)
      refine ziconst (v := 1) dX9_who_69 (by decide) ?_
      refine zgoto (tgt := 74) dX9_who_70 (by decide) ?_
      refine ziand dX9_who_74 ?_
      rw [show bI b &&& 1 = bI b by cases b <;> decide]
      refine zistore dX9_who_75 (by decide) rfl ?_
      refine ziload dX9_who_77 rfl ?_
      refine zaload_n dX9_who_79 rfl ?_
      refine gf_X9_9 rfl dX9_who_80 ?_
      refine ziload_n dX9_who_83 rfl ?_
      refine ziload_n dX9_who_84 rfl ?_
      refine zcSf  gk_X9_72 dX9_who_85 (c_X9_fameBy hr1 hM hp hkd hkk) rfl (by decide) (Nat.le_of_ble_eq_true rfl) ?_ rfl
      refine ziadd dX9_who_88 ?_
      refine zcSf  gk_X9_75 dX9_who_89 c_X9_held rfl (by decide) (Nat.le_of_ble_eq_true rfl) ?_ rfl
      refine zistore dX9_who_92 (by decide) rfl ?_
      refine ziinc dX9_who_94 rfl rfl (by decide) rfl ?_
      refine zgoto (tgt := 46) dX9_who_97 (by decide) ?_
      refine zlvs (lv' := [(0, .ref (zad x 0)), (1, .int (nI f)), (2, .int c), (3, .int (nI p)), (4, .int _), (5, .int (bI b)), (6, .int (nI (i + 1)))]) ⟨rfl, rfl, rfl, rfl, rfl, rfl, by rw [nI_succ i]; rfl, trivial⟩ ?_
      exact ih (i + 1) _ b (by omega) hr
    · rw [if_neg hq] at hr
      have hff : ∀ z : Bool, (false && z) = bb := fun z => by rw [← hr]; cases b <;> rfl
      refine ziload dX9_who_46 rfl ?_
      refine zaload_n dX9_who_48 rfl ?_
      refine gf_X9_189 rfl dX9_who_49 ?_
      rw [hR.2.2.2.2.1.1]
      refine zicmp_ge (tgt := 100) dX9_who_52 (by decide) (fun h => absurd h (nI_ge (by omega) (by omega))) (fun _ => ?_)
      refine ziload dX9_who_55 rfl ?_
      refine ziload dX9_who_57 rfl ?_
      refine zaload_n dX9_who_59 rfl ?_
      refine gf_X9_28 rfl dX9_who_60 ?_
      refine ziload dX9_who_63 rfl ?_
      refine ziald dX9_who_65 (by decide) rfl (by decide) (by omega) ?_
      rw [hR.2.2.2.2.1.2 i (by omega)]
      refine zicmp_ne (tgt := 73) dX9_who_66 (by decide) (fun _ => ?_) (fun h => absurd h (fun z => hq z.symm))
      refine ziconst (v := 0) dX9_who_73 (by decide) ?_
      refine ziand dX9_who_74 ?_
      rw [show bI b &&& 0 = bI false by cases b <;> decide]
      refine zistore dX9_who_75 (by decide) rfl ?_
      refine ziload dX9_who_77 rfl ?_
      refine zaload_n dX9_who_79 rfl ?_
      refine gf_X9_9 rfl dX9_who_80 ?_
      refine ziload_n dX9_who_83 rfl ?_
      refine ziload_n dX9_who_84 rfl ?_
      refine zcSf  gk_X9_72 dX9_who_85 (c_X9_fameBy hr1 hM hp hkd hkk) rfl (by decide) (Nat.le_of_ble_eq_true rfl) ?_ rfl
      refine ziadd dX9_who_88 ?_
      refine zcSf  gk_X9_75 dX9_who_89 c_X9_held rfl (by decide) (Nat.le_of_ble_eq_true rfl) ?_ rfl
      refine zistore dX9_who_92 (by decide) rfl ?_
      refine ziinc dX9_who_94 rfl rfl (by decide) rfl ?_
      refine zgoto (tgt := 46) dX9_who_97 (by decide) ?_
      refine zlvs (lv' := [(0, .ref (zad x 0)), (1, .int (nI f)), (2, .int c), (3, .int (nI p)), (4, .int _), (5, .int (bI false)), (6, .int (nI (i + 1)))]) ⟨rfl, rfl, rfl, rfl, rfl, rfl, by rw [nI_succ i]; rfl, trivial⟩ ?_
      exact ih (i + 1) _ false (by omega) (hff _)
set_option maxRecDepth 100000 in
set_option maxHeartbeats 4000000 in
theorem l_X9_who (hR : RepM σ S) (hW : WS σ) {f : Nat} (hf : f < sN σ) (r : Int32) : ∀ (k p : Nat) (a : Int32), p + k = sN σ → oF (fun p => if ftF (sR σ).2 (chF (sN σ) (sT σ) p f) (sR σ).1 0 ((sT σ) 5 f) = true then 1 <<< (nI p &&& 31) else 0) k p a = r → zZ x false mX9_who (fun q U => q = some (.int r) ∧ U = S) 18 [(0, .ref (zad x 0)), (1, .int (nI f)), (2, .int a), (3, .int (nI p))] [] S := by
  have hM := hR.1
  have hn8 : sN σ ≤ 8 := hM.2.1
  intro k
  induction k with
  | zero =>
    intro p a hi hr
    refine ziload_n dX9_who_18 rfl ?_
    refine zaload_n dX9_who_19 rfl ?_
    refine gf_X9_9 rfl dX9_who_20 ?_
    refine ziconst (v := nI 0) dX9_who_23 (by decide) ?_
    refine ziald dX9_who_24 (mrk hr1.2) (mrl hr1.1 hr1.2) (by decide) (by decide) ?_
    rw [hM.1]
    refine zicmp_ge (tgt := 121) dX9_who_25 (by decide) (fun _ => ?_) (fun h => absurd (nI_le (by omega) (by omega)) h)
    refine ziload_n dX9_who_121 rfl ?_
    exact zireturn dX9_who_122 rfl rfl ⟨congrArg (fun q => some (Value.int q)) hr, rfl⟩
  | succ k ih =>
    intro p a hi hr
    have hs : oF (fun p => if ftF (sR σ).2 (chF (sN σ) (sT σ) p f) (sR σ).1 0 ((sT σ) 5 f) = true then 1 <<< (nI p &&& 31) else 0) (k + 1) p a = oF (fun p => if ftF (sR σ).2 (chF (sN σ) (sT σ) p f) (sR σ).1 0 ((sT σ) 5 f) = true then 1 <<< (nI p &&& 31) else 0) k (p + 1) (a ||| (if ftF (sR σ).2 (chF (sN σ) (sT σ) p f) (sR σ).1 0 ((sT σ) 5 f) = true then (1 : Int32) <<< (nI p &&& 31) else 0)) := rfl
    rw [hs] at hr
    refine ziload_n dX9_who_18 rfl ?_
    refine zaload_n dX9_who_19 rfl ?_
    refine gf_X9_9 rfl dX9_who_20 ?_
    refine ziconst (v := nI 0) dX9_who_23 (by decide) ?_
    refine ziald dX9_who_24 (mrk hr1.2) (mrl hr1.1 hr1.2) (by decide) (by decide) ?_
    rw [hM.1]
    refine zicmp_ge (tgt := 121) dX9_who_25 (by decide) (fun h => absurd h (nI_ge (by omega) (by omega))) (fun _ => ?_)
    refine zaload_n dX9_who_28 rfl ?_
    refine gf_X9_9 rfl dX9_who_29 ?_
    refine ziload_n dX9_who_32 rfl ?_
    refine ziconst (v := nI 4) dX9_who_33 (by decide) ?_
    refine zcSf gk_X9_52 dX9_who_34 (c_X9_of (j := 4)) rfl (by decide) (Nat.le_of_ble_eq_true rfl) ?_ rfl
    refine zialM (k := 1) (j := 4) (w := 5) dX9_who_37 hr1 hM rfl (by decide) (by omega) ?_
    refine zistore dX9_who_38 (by decide) rfl ?_
    refine ziconst (v := 1) dX9_who_40 (by decide) ?_
    refine zistore dX9_who_41 (by decide) rfl ?_
    refine ziconst (v := 0) dX9_who_43 (by decide) ?_
    refine zistore dX9_who_44 (by decide) rfl ?_
    refine zlvs (lv' := [(0, .ref (zad x 0)), (1, .int (nI f)), (2, .int a), (3, .int (nI p)), (4, .int _), (5, .int (bI true)), (6, .int (nI 0))]) ⟨rfl, rfl, rfl, rfl, rfl, rfl, rfl, trivial⟩ ?_
    refine l1_X9_who hR hW hf (by omega) _ ?_ (sR σ).1 0 _ true (by omega) rfl
    rw [Bool.true_and]
    refine ziload_n dX9_who_100 rfl ?_
    refine ziload dX9_who_101 rfl ?_
    refine zifb_eq (tgt := 112) dX9_who_103 (by decide) (fun h103 => ?_) (fun h103 => ?_)
    · refine ziconst (v := 0) dX9_who_112 (by decide) ?_
      refine zior dX9_who_113 ?_
      refine zistore_n dX9_who_114 (by decide) rfl ?_
      refine ziinc dX9_who_115 rfl rfl (by decide) rfl ?_
      refine zgoto (tgt := 18) dX9_who_118 (by decide) ?_
      refine zlvs (lv' := [(0, .ref (zad x 0)), (1, .int (nI f)), (2, .int _), (3, .int (nI (p + 1)))]) ⟨rfl, rfl, rfl, by rw [nI_succ p]; rfl, trivial⟩ ?_
      exact ih (p + 1) _ (by omega) (by rw [← hr]; simp [h103])
    · refine ziconst (v := 1) dX9_who_106 (by decide) ?_
      refine ziload_n dX9_who_107 rfl ?_
      refine zishl dX9_who_108 ?_
      refine zgoto (tgt := 113) dX9_who_109 (by decide) ?_
      refine zior dX9_who_113 ?_
      refine zistore_n dX9_who_114 (by decide) rfl ?_
      refine ziinc dX9_who_115 rfl rfl (by decide) rfl ?_
      refine zgoto (tgt := 18) dX9_who_118 (by decide) ?_
      refine zlvs (lv' := [(0, .ref (zad x 0)), (1, .int (nI f)), (2, .int _), (3, .int (nI (p + 1)))]) ⟨rfl, rfl, rfl, by rw [nI_succ p]; rfl, trivial⟩ ?_
      exact ih (p + 1) _ (by omega) (by rw [← hr]; simp [h103])
set_option maxRecDepth 100000 in
set_option maxHeartbeats 4000000 in
theorem c_X9_who (hR : RepM σ S) (hW : WS σ) (f : Int32) : zR x false mX9_who [.ref (zad x 0), .int f] S (qM (pF (sN σ) f) (whoA (sN σ) (sT σ) (sR σ) f.toNatClampNeg) σ (σ)) := by
  have hM := hR.1
  have hn8 : sN σ ≤ 8 := hM.2.1
  refine zC_of (by decide +kernel) (Nat.le_of_ble_eq_true rfl) ?_
  by_cases he : pF (sN σ) f = 0
  · have h1p := pF_0 he
    obtain ⟨i, hi, rfl⟩ := pF_of (by omega) he
    refine zaload_n dX9_who_0 rfl ?_
    refine ziload_n dX9_who_1 rfl ?_
    refine zcVf ob_Mo gk_X9_48 dX9_who_2 (c_X9_isOne hM) rfl (by decide) (Nat.le_of_ble_eq_true rfl) ?_ rfl
    refine zifb_ne (tgt := 14) dX9_who_5 (by decide) (fun _ => ?_) (fun h => absurd (h.symm.trans h1p) (by decide))
    refine ziconst (v := 0) dX9_who_14 (by decide) ?_
    refine zistore_n dX9_who_15 (by decide) rfl ?_
    refine ziconst (v := 0) dX9_who_16 (by decide) ?_
    refine zistore_n dX9_who_17 (by decide) rfl ?_
    refine zlvs (lv' := [(0, .ref (zad x 0)), (1, .int (nI i)), (2, .int 0), (3, .int (nI 0))]) ⟨rfl, rfl, rfl, rfl, trivial⟩ ?_
    exact zZ_mono (l_X9_who hR hW hi _ (sN σ) 0 0 (by omega) rfl) (fun q U h => ⟨_, h.1, by rw [h.2]; exact qM_ok he (by rw [nI_clamp (n := i) (by omega)]; rfl) hR⟩)
  · refine zaload_n dX9_who_0 rfl ?_
    refine ziload_n dX9_who_1 rfl ?_
    refine zcVf ob_Mo gk_X9_48 dX9_who_2 (c_X9_isOne hM) rfl (by decide) (Nat.le_of_ble_eq_true rfl) ?_ rfl
    refine zifb_ne (tgt := 14) dX9_who_5 (by decide) (fun h => absurd (h.symm.trans (pF_no he)) (by decide)) (fun _ => ?_)
    refine zaload_n dX9_who_8 rfl ?_
    refine ziconst (v := -1) dX9_who_9 (by decide) ?_
    refine zcVf ob_Mo gk_X9_38 dX9_who_10 (c_X9_no isE_1) rfl (by decide) (Nat.le_of_ble_eq_true rfl) ?_ rfl
    exact zireturn dX9_who_13 rfl rfl ⟨_, rfl, qM_no (pF_1 (pF_no he)) isE_1 hR⟩
def mfF (n : Nat) (r : Nat → Int32) (f : Nat) : Nat → Nat → Tw → Bool
  | 0, _, _ => true
  | k + 1, i, T => if r i = T 5 f then mfF n r f k (i + 1) (monthT n T) else false
def wiA (n : Nat) (T : Tw) (R : Nat × (Nat → Int32)) (p : Nat) (w : Int32) : Int32 :=
  if T 4 p = 9 then 0 else oF (fun y => if mfF n R.2 (T 4 p).toNatClampNeg R.1 0 (u2 T (w.toNatClampNeg + 1) p (nI y)) = true then 1 <<< (nI y &&& 31) else 0) (if w = 0 then 6 else 10) 0 0
theorem WFT.kf {n p y j : Nat} {T : Tw} (h : WFT n T) (hj : j = 0 ∧ y < 6 ∨ j = 1) : WFT n (u2 T (j + 1) p (nI y)) := by
  refine h.put (by omega) (by omega) (fun z => ?_) (fun z => by omega)
  rcases hj with ⟨-, h⟩ | h
  · exact ⟨y, h, rfl⟩
  · omega
set_option maxRecDepth 100000 in
set_option maxHeartbeats 4000000 in
theorem l_X8_mindFits (hW : WS σ) {f : Nat} (hf : f < sN σ) (r : Bool) : ∀ (k i : Nat) (S : zSt) (T : Tw), i + k = (sR σ).1 → RepC σ S → isT S 1 (sN σ) T → VW (sN σ) T → mfF (sN σ) (sR σ).2 f k i T = r → zZ x true mX8_mindFits (fun q U => ∃ v : Int32, q = some (.int v) ∧ v = bI r ∧ RepC σ U) 2 [(0, .ref (zad x 0)), (1, .int (nI f)), (2, .int (nI i))] [] S := by
  have hr16 := hW.2.2.2.1
  intro k
  induction k with
  | zero =>
    intro i S T hi hR hT2 hV hr
    refine ziload_n dX8_mindFits_2 rfl ?_
    refine zaload_n dX8_mindFits_3 rfl ?_
    refine gf_X8_65 rfl dX8_mindFits_4 ?_
    rw [hR.2.2.2.2.1.1]
    refine zicmp_ge (tgt := 44) dX8_mindFits_7 (by decide) (fun _ => ?_) (fun h => absurd (nI_le (by omega) (by omega)) h)
    refine ziconst (v := 1) dX8_mindFits_44 (by decide) ?_
    exact zbret (q := true) dX8_mindFits_45 rfl rfl ⟨_, rfl, by rw [← hr]; rfl, hR⟩
  | succ k ih =>
    intro i S T hi hR hT2 hV hr
    have hn8 := hT2.2.1
    rw [mfF] at hr
    refine ziload_n dX8_mindFits_2 rfl ?_
    refine zaload_n dX8_mindFits_3 rfl ?_
    refine gf_X8_65 rfl dX8_mindFits_4 ?_
    rw [hR.2.2.2.2.1.1]
    refine zicmp_ge (tgt := 44) dX8_mindFits_7 (by decide) (fun h => absurd h (nI_ge (by omega) (by omega))) (fun _ => ?_)
    refine zaload_n dX8_mindFits_10 rfl ?_
    refine gf_X8_49 rfl dX8_mindFits_11 ?_
    refine ziload_n dX8_mindFits_14 rfl ?_
    refine ziald dX8_mindFits_15 (by decide) rfl (by decide) (by omega) ?_
    rw [hR.2.2.2.2.1.2 i (by omega)]
    refine zaload_n dX8_mindFits_16 rfl ?_
    refine gf_X8_36 rfl dX8_mindFits_17 ?_
    refine gf_X8_157 (t := 1) (by decide) rfl dX8_mindFits_20 ?_
    refine ziload_n dX8_mindFits_23 rfl ?_
    refine zialT (t := 1) (w := 5) dX8_mindFits_24 (by decide) hT2 (by decide) (by decide) (by omega) ?_
    refine zicmp_eq (tgt := 30) dX8_mindFits_25 (by decide) (fun h25 => ?_) (fun h25 => ?_)
    · refine zaload_n dX8_mindFits_30 rfl ?_
      refine gf_X8_36 rfl dX8_mindFits_31 ?_
      refine ziconst (v := nI 1) dX8_mindFits_34 (by decide) ?_
      refine zcVn (ob_town (t := 1) (by decide)) gk_X8_166 dX8_mindFits_35 (c_X7_goOn (t := 1) (by decide) hT2 hV (K := 1) (by decide)) rfl (by decide) (Nat.le_of_ble_eq_true rfl) (fun S3 hp3 => ?_) rfl
      obtain ⟨hT3, hV3, -, hf3⟩ := hp3
      refine ziinc dX8_mindFits_38 rfl rfl (by decide) rfl ?_
      refine zgoto (tgt := 2) dX8_mindFits_41 (by decide) ?_
      refine zlvs (lv' := [(0, .ref (zad x 0)), (1, .int (nI f)), (2, .int (nI (i + 1)))]) ⟨rfl, rfl, by rw [nI_succ i]; rfl, trivial⟩ ?_
      exact ih (i + 1) S3 _ (by omega) (hR.mind hf3) hT3 hV3 (by rw [← hr, if_pos h25]; rfl)
    · refine ziconst (v := 0) dX8_mindFits_28 (by decide) ?_
      exact zbret (q := false) dX8_mindFits_29 rfl rfl ⟨_, rfl, by rw [← hr, if_neg h25], hR⟩
set_option maxRecDepth 100000 in
set_option maxHeartbeats 4000000 in
theorem c_X8_mindFits (hR : RepC σ S) (hW : WS σ) {f : Nat} {T : Tw} (hf : f < sN σ) (hT2 : isT S 1 (sN σ) T) (hV : VW (sN σ) T) : zR x true mX8_mindFits [.ref (zad x 0), .int (nI f)] S (fun r S' => r = bI (mfF (sN σ) (sR σ).2 f (sR σ).1 0 T) ∧ RepC σ S') := by
  refine zC_of (by decide +kernel) (Nat.le_of_ble_eq_true rfl) ?_
  refine ziconst (v := 0) dX8_mindFits_0 (by decide) ?_
  refine zistore_n dX8_mindFits_1 (by decide) rfl ?_
  refine zlvs (lv' := [(0, .ref (zad x 0)), (1, .int (nI f)), (2, .int (nI 0))]) ⟨rfl, rfl, rfl, trivial⟩ ?_
  exact l_X8_mindFits hW hf _ (sR σ).1 0 S T (by omega) hR hT2 hV rfl
set_option maxRecDepth 100000 in
set_option maxHeartbeats 4000000 in
theorem l_X8_whatIs0 (hW : WS σ) {p f : Nat} (hp : p < sN σ) (hf : f < sN σ) (h4 : (sT σ) 4 p = nI f) (r : Int32) : ∀ (k i : Nat) (S : zSt) (a : Int32), i + k = 6 → RepC σ S → oF (fun y => if mfF (sN σ) (sR σ).2 f (sR σ).1 0 (u2 (sT σ) 1 p (nI y)) = true then 1 <<< (nI y &&& 31) else 0) k i a = r → zZ x true mX8_whatIs (fun q U => ∃ v : Int32, q = some (.int v) ∧ v = r ∧ RepC σ U) 68 [(0, .ref (zad x 0)), (1, .int (nI p)), (2, .int (nI 0)), (4, .int (nI f)), (5, .int a), (6, .int (nI 6)), (7, .int (nI i))] [] S := by
  intro k
  induction k with
  | zero =>
    intro i S a hi hR hr
    refine ziload dX8_whatIs_68 rfl ?_
    refine ziload dX8_whatIs_70 rfl ?_
    refine zicmp_ge (tgt := 139) dX8_whatIs_72 (by decide) (fun _ => ?_) (fun h => absurd (nI_le (by omega) (by omega)) h)
    refine ziload dX8_whatIs_139 rfl ?_
    exact zireturn dX8_whatIs_141 rfl rfl ⟨_, rfl, hr, hR⟩
  | succ k ih =>
    intro i S a hi hR hr
    have hT := hR.1
    have hn8 : sN σ ≤ 8 := hT.2.1
    have hs : oF (fun y => if mfF (sN σ) (sR σ).2 f (sR σ).1 0 (u2 (sT σ) 1 p (nI y)) = true then 1 <<< (nI y &&& 31) else 0) (k + 1) i a = oF (fun y => if mfF (sN σ) (sR σ).2 f (sR σ).1 0 (u2 (sT σ) 1 p (nI y)) = true then 1 <<< (nI y &&& 31) else 0) k (i + 1) (a ||| (if mfF (sN σ) (sR σ).2 f (sR σ).1 0 (u2 (sT σ) 1 p (nI i)) = true then (1 : Int32) <<< (nI i &&& 31) else 0)) := rfl
    rw [hs] at hr
    refine ziload dX8_whatIs_68 rfl ?_
    refine ziload dX8_whatIs_70 rfl ?_
    refine zicmp_ge (tgt := 139) dX8_whatIs_72 (by decide) (fun h => absurd h (nI_ge (by omega) (by omega))) (fun _ => ?_)
    refine zaload_n dX8_whatIs_75 rfl ?_
    refine gf_X8_36 rfl dX8_whatIs_76 ?_
    refine zaload_n dX8_whatIs_79 rfl ?_
    refine gf_X8_30 rfl dX8_whatIs_80 ?_
    refine zcVn (ob_town (t := 1) (by decide)) gk_X8_88 dX8_whatIs_83 (c_X7_becomeLike (t := 1) (u := 0) (by decide) (by decide) (by decide) hT) rfl (by decide) (Nat.le_of_ble_eq_true rfl) (fun S2 hp2 => ?_) rfl
    obtain ⟨hT2, -, hf2⟩ := hp2
    have hR2 := hR.mind hf2
    refine ziload_n dX8_whatIs_86 rfl ?_
    refine zif_ne (tgt := 100) dX8_whatIs_87 (by decide) (fun h => absurd rfl h) (fun _ => ?_)
    refine zaload_n dX8_whatIs_90 rfl ?_
    refine gf_X8_36 rfl dX8_whatIs_91 ?_
    refine gf_X8_106 (t := 1) (by decide) rfl dX8_whatIs_94 ?_
    refine zgoto (tgt := 107) dX8_whatIs_97 (by decide) ?_
    refine zastore dX8_whatIs_107 (by decide) rfl ?_
    refine zaload dX8_whatIs_109 rfl ?_
    refine ziload_n dX8_whatIs_111 rfl ?_
    refine ziload dX8_whatIs_112 rfl ?_
    refine ziast dX8_whatIs_114 (tpk (by decide) (by decide)) (tpa (by decide) (by decide) (by decide)) (by decide) (by omega) ?_
    have hR3 := hR2.mind (frT.put (t := 1) (w := 1) (p := p) (v := nI i) (frT.rf (S := S2)) (by decide) (by decide))
    have hT9 := hR3.1
    refine zaload_n dX8_whatIs_115 rfl ?_
    refine ziload dX8_whatIs_116 rfl ?_
    refine zcVr ob_X gk_X8_282 dX8_whatIs_118 (c_X8_mindFits hR3 hW hf (isT_put (w := 1) (p := p) (v := nI i) hT2) (WFT.kf (j := 0) (y := i) hW.1 (Or.inl ⟨rfl, by omega⟩)).vw) rfl (by decide) (Nat.le_of_ble_eq_true rfl) (fun r4 S4 hp4 => ?_) rfl
    obtain ⟨rfl, hR4⟩ := hp4
    refine zifb_eq (tgt := 133) dX8_whatIs_121 (by decide) (fun h121 => ?_) (fun h121 => ?_)
    · refine ziinc dX8_whatIs_133 rfl rfl (by decide) rfl ?_
      refine zgoto (tgt := 68) dX8_whatIs_136 (by decide) ?_
      refine zlvs (lv' := [(0, .ref (zad x 0)), (1, .int (nI p)), (2, .int (nI 0)), (4, .int (nI f)), (5, .int _), (6, .int (nI 6)), (7, .int (nI (i + 1)))]) ⟨rfl, rfl, rfl, rfl, rfl, rfl, by rw [nI_succ i]; rfl, trivial⟩ ?_
      exact ih (i + 1) S4 _ (by omega) hR4 (by rw [← hr]; simp [h121])
    · refine ziload dX8_whatIs_124 rfl ?_
      refine ziconst (v := 1) dX8_whatIs_126 (by decide) ?_
      refine ziload dX8_whatIs_127 rfl ?_
      refine zishl dX8_whatIs_129 ?_
      refine zior dX8_whatIs_130 ?_
      refine zistore dX8_whatIs_131 (by decide) rfl ?_
      refine ziinc dX8_whatIs_133 rfl rfl (by decide) rfl ?_
      refine zgoto (tgt := 68) dX8_whatIs_136 (by decide) ?_
      refine zlvs (lv' := [(0, .ref (zad x 0)), (1, .int (nI p)), (2, .int (nI 0)), (4, .int (nI f)), (5, .int _), (6, .int (nI 6)), (7, .int (nI (i + 1)))]) ⟨rfl, rfl, rfl, rfl, rfl, rfl, by rw [nI_succ i]; rfl, trivial⟩ ?_
      exact ih (i + 1) S4 _ (by omega) hR4 (by rw [← hr]; simp [h121])
set_option maxRecDepth 100000 in
set_option maxHeartbeats 4000000 in
theorem l_X8_whatIs1 (hW : WS σ) {p f : Nat} (hp : p < sN σ) (hf : f < sN σ) (h4 : (sT σ) 4 p = nI f) (r : Int32) : ∀ (k i : Nat) (S : zSt) (a : Int32), i + k = 10 → RepC σ S → oF (fun y => if mfF (sN σ) (sR σ).2 f (sR σ).1 0 (u2 (sT σ) 2 p (nI y)) = true then 1 <<< (nI y &&& 31) else 0) k i a = r → zZ x true mX8_whatIs (fun q U => ∃ v : Int32, q = some (.int v) ∧ v = r ∧ RepC σ U) 68 [(0, .ref (zad x 0)), (1, .int (nI p)), (2, .int (nI 1)), (4, .int (nI f)), (5, .int a), (6, .int (nI 10)), (7, .int (nI i))] [] S := by
  intro k
  induction k with
  | zero =>
    intro i S a hi hR hr
    refine ziload dX8_whatIs_68 rfl ?_
    refine ziload dX8_whatIs_70 rfl ?_
    refine zicmp_ge (tgt := 139) dX8_whatIs_72 (by decide) (fun _ => ?_) (fun h => absurd (nI_le (by omega) (by omega)) h)
    refine ziload dX8_whatIs_139 rfl ?_
    exact zireturn dX8_whatIs_141 rfl rfl ⟨_, rfl, hr, hR⟩
  | succ k ih =>
    intro i S a hi hR hr
    have hT := hR.1
    have hn8 : sN σ ≤ 8 := hT.2.1
    have hs : oF (fun y => if mfF (sN σ) (sR σ).2 f (sR σ).1 0 (u2 (sT σ) 2 p (nI y)) = true then 1 <<< (nI y &&& 31) else 0) (k + 1) i a = oF (fun y => if mfF (sN σ) (sR σ).2 f (sR σ).1 0 (u2 (sT σ) 2 p (nI y)) = true then 1 <<< (nI y &&& 31) else 0) k (i + 1) (a ||| (if mfF (sN σ) (sR σ).2 f (sR σ).1 0 (u2 (sT σ) 2 p (nI i)) = true then (1 : Int32) <<< (nI i &&& 31) else 0)) := rfl
    rw [hs] at hr
    refine ziload dX8_whatIs_68 rfl ?_
    refine ziload dX8_whatIs_70 rfl ?_
    refine zicmp_ge (tgt := 139) dX8_whatIs_72 (by decide) (fun h => absurd h (nI_ge (by omega) (by omega))) (fun _ => ?_)
    refine zaload_n dX8_whatIs_75 rfl ?_
    refine gf_X8_36 rfl dX8_whatIs_76 ?_
    refine zaload_n dX8_whatIs_79 rfl ?_
    refine gf_X8_30 rfl dX8_whatIs_80 ?_
    refine zcVn (ob_town (t := 1) (by decide)) gk_X8_88 dX8_whatIs_83 (c_X7_becomeLike (t := 1) (u := 0) (by decide) (by decide) (by decide) hT) rfl (by decide) (Nat.le_of_ble_eq_true rfl) (fun S2 hp2 => ?_) rfl
    obtain ⟨hT2, -, hf2⟩ := hp2
    have hR2 := hR.mind hf2
    refine ziload_n dX8_whatIs_86 rfl ?_
    refine zif_ne (tgt := 100) dX8_whatIs_87 (by decide) (fun _ => ?_) (fun h => absurd h (by decide))
    refine zaload_n dX8_whatIs_100 rfl ?_
    refine gf_X8_36 rfl dX8_whatIs_101 ?_
    refine gf_X8_109 (t := 1) (by decide) rfl dX8_whatIs_104 ?_
    refine zastore dX8_whatIs_107 (by decide) rfl ?_
    refine zaload dX8_whatIs_109 rfl ?_
    refine ziload_n dX8_whatIs_111 rfl ?_
    refine ziload dX8_whatIs_112 rfl ?_
    refine ziast dX8_whatIs_114 (tpk (by decide) (by decide)) (tpa (by decide) (by decide) (by decide)) (by decide) (by omega) ?_
    have hR3 := hR2.mind (frT.put (t := 1) (w := 2) (p := p) (v := nI i) (frT.rf (S := S2)) (by decide) (by decide))
    have hT9 := hR3.1
    refine zaload_n dX8_whatIs_115 rfl ?_
    refine ziload dX8_whatIs_116 rfl ?_
    refine zcVr ob_X gk_X8_282 dX8_whatIs_118 (c_X8_mindFits hR3 hW hf (isT_put (w := 2) (p := p) (v := nI i) hT2) (WFT.kf (j := 1) (y := i) hW.1 (Or.inr rfl)).vw) rfl (by decide) (Nat.le_of_ble_eq_true rfl) (fun r4 S4 hp4 => ?_) rfl
    obtain ⟨rfl, hR4⟩ := hp4
    refine zifb_eq (tgt := 133) dX8_whatIs_121 (by decide) (fun h121 => ?_) (fun h121 => ?_)
    · refine ziinc dX8_whatIs_133 rfl rfl (by decide) rfl ?_
      refine zgoto (tgt := 68) dX8_whatIs_136 (by decide) ?_
      refine zlvs (lv' := [(0, .ref (zad x 0)), (1, .int (nI p)), (2, .int (nI 1)), (4, .int (nI f)), (5, .int _), (6, .int (nI 10)), (7, .int (nI (i + 1)))]) ⟨rfl, rfl, rfl, rfl, rfl, rfl, by rw [nI_succ i]; rfl, trivial⟩ ?_
      exact ih (i + 1) S4 _ (by omega) hR4 (by rw [← hr]; simp [h121])
    · refine ziload dX8_whatIs_124 rfl ?_
      refine ziconst (v := 1) dX8_whatIs_126 (by decide) ?_
      refine ziload dX8_whatIs_127 rfl ?_
      refine zishl dX8_whatIs_129 ?_
      refine zior dX8_whatIs_130 ?_
      refine zistore dX8_whatIs_131 (by decide) rfl ?_
      refine ziinc dX8_whatIs_133 rfl rfl (by decide) rfl ?_
      refine zgoto (tgt := 68) dX8_whatIs_136 (by decide) ?_
      refine zlvs (lv' := [(0, .ref (zad x 0)), (1, .int (nI p)), (2, .int (nI 1)), (4, .int (nI f)), (5, .int _), (6, .int (nI 10)), (7, .int (nI (i + 1)))]) ⟨rfl, rfl, rfl, rfl, rfl, rfl, by rw [nI_succ i]; rfl, trivial⟩ ?_
      exact ih (i + 1) S4 _ (by omega) hR4 (by rw [← hr]; simp [h121])
set_option maxRecDepth 100000 in
set_option maxHeartbeats 4000000 in
theorem c_X8_whatIs (hR : RepC σ S) (hW : WS σ) (p w : Int32) : zR x true mX8_whatIs [.ref (zad x 0), .int p, .int w] S (qC (fO (pF (sN σ) p) (whF w 2)) (wiA (sN σ) (sT σ) (sR σ) p.toNatClampNeg w) σ (σ)) := by
  have hT := hR.1
  have hn8 : sN σ ≤ 8 := hT.2.1
  refine zC_of (by decide +kernel) (Nat.le_of_ble_eq_true rfl) ?_
  by_cases he : fO (pF (sN σ) p) (whF w 2) = 0
  · obtain ⟨h1, h2⟩ := fO_0 he
    obtain ⟨i, hi, rfl⟩ := pF_of (by omega) h1
    obtain ⟨j, hj, rfl⟩ := whF_of (k := 2) (by decide) h2
    rcases (hW.1.vw i hi).1 with h9 | ⟨f, hf, h4⟩
    · refine zaload_n dX8_whatIs_0 rfl ?_
      refine ziload_n dX8_whatIs_1 rfl ?_
      refine zcVf ob_X gk_X8_96 dX8_whatIs_2 (c_X8_personFault hT) rfl (by decide) (Nat.le_of_ble_eq_true rfl) ?_ rfl
      refine ziload_n dX8_whatIs_5 rfl ?_
      refine ziconst (v := 2) dX8_whatIs_6 (by decide) ?_
      refine zcSf  gk_X8_99 dX8_whatIs_7 c_X8_whatFault rfl (by decide) (Nat.le_of_ble_eq_true rfl) ?_ rfl
      refine zcSf  gk_X8_103 dX8_whatIs_10 c_X8_firstOf rfl (by decide) (Nat.le_of_ble_eq_true rfl) ?_ rfl
      refine zistore_n dX8_whatIs_13 (by decide) rfl ?_
      refine ziload_n dX8_whatIs_14 rfl ?_
      refine zif_eq (tgt := 24) dX8_whatIs_15 (by decide) (fun _ => ?_) (fun h => absurd he h)
      refine zaload_n dX8_whatIs_24 rfl ?_
      refine gf_X8_30 rfl dX8_whatIs_25 ?_
      refine gf_X8_115 (t := 0) (by decide) rfl dX8_whatIs_28 ?_
      refine ziload_n dX8_whatIs_31 rfl ?_
      refine zialT (t := 0) (w := 4) dX8_whatIs_32 (by decide) hT (by decide) (by decide) (by omega) ?_
      rw [h9]
      refine zistore dX8_whatIs_33 (by decide) rfl ?_
      refine zaload_n dX8_whatIs_35 rfl ?_
      refine gf_X8_30 rfl dX8_whatIs_36 ?_
      refine ziload dX8_whatIs_39 rfl ?_
      refine zcVf (ob_town (t := 0) (by decide)) gk_X8_279 dX8_whatIs_41 (c_X7_isThere (by decide) hT) rfl (by decide) (Nat.le_of_ble_eq_true rfl) ?_ rfl
      refine zifb_ne (tgt := 49) dX8_whatIs_44 (by decide) (fun h => absurd (h.symm.trans (decide_eq_false (nine_out hT.2.1))) (by decide)) (fun _ => ?_)
      refine ziconst (v := 0) dX8_whatIs_47 (by decide) ?_
      exact zireturn dX8_whatIs_48 rfl rfl ⟨_, rfl, qC_ok he (by rw [nI_clamp (n := i) (by omega)]; unfold wiA; rw [if_pos h9]) hR⟩
    · rcases (show j = 0 ∨ j = 1 by omega) with rfl | rfl
      · refine zaload_n dX8_whatIs_0 rfl ?_
        refine ziload_n dX8_whatIs_1 rfl ?_
        refine zcVf ob_X gk_X8_96 dX8_whatIs_2 (c_X8_personFault hT) rfl (by decide) (Nat.le_of_ble_eq_true rfl) ?_ rfl
        refine ziload_n dX8_whatIs_5 rfl ?_
        refine ziconst (v := 2) dX8_whatIs_6 (by decide) ?_
        refine zcSf  gk_X8_99 dX8_whatIs_7 c_X8_whatFault rfl (by decide) (Nat.le_of_ble_eq_true rfl) ?_ rfl
        refine zcSf  gk_X8_103 dX8_whatIs_10 c_X8_firstOf rfl (by decide) (Nat.le_of_ble_eq_true rfl) ?_ rfl
        refine zistore_n dX8_whatIs_13 (by decide) rfl ?_
        refine ziload_n dX8_whatIs_14 rfl ?_
        refine zif_eq (tgt := 24) dX8_whatIs_15 (by decide) (fun _ => ?_) (fun h => absurd he h)
        refine zaload_n dX8_whatIs_24 rfl ?_
        refine gf_X8_30 rfl dX8_whatIs_25 ?_
        refine gf_X8_115 (t := 0) (by decide) rfl dX8_whatIs_28 ?_
        refine ziload_n dX8_whatIs_31 rfl ?_
        refine zialT (t := 0) (w := 4) dX8_whatIs_32 (by decide) hT (by decide) (by decide) (by omega) ?_
        rw [h4]
        refine zistore dX8_whatIs_33 (by decide) rfl ?_
        refine zaload_n dX8_whatIs_35 rfl ?_
        refine gf_X8_30 rfl dX8_whatIs_36 ?_
        refine ziload dX8_whatIs_39 rfl ?_
        refine zcVf (ob_town (t := 0) (by decide)) gk_X8_279 dX8_whatIs_41 (c_X7_isThere (by decide) hT) rfl (by decide) (Nat.le_of_ble_eq_true rfl) ?_ rfl
        refine zifb_ne (tgt := 49) dX8_whatIs_44 (by decide) (fun _ => ?_) (fun h => absurd (h.symm.trans (decide_eq_true (is_in hT.2.1 hf))) (by decide))
        refine ziconst (v := 0) dX8_whatIs_49 (by decide) ?_
        refine zistore dX8_whatIs_50 (by decide) rfl ?_
        refine ziload_n dX8_whatIs_52 rfl ?_
        refine zif_ne (tgt := 61) dX8_whatIs_53 (by decide) (fun h => absurd rfl h) (fun _ => ?_)
        refine zbipush (v := 6) dX8_whatIs_56 (by decide) ?_
        refine zgoto (tgt := 63) dX8_whatIs_58 (by decide) ?_
        refine zistore dX8_whatIs_63 (by decide) rfl ?_
        refine ziconst (v := 0) dX8_whatIs_65 (by decide) ?_
        refine zistore dX8_whatIs_66 (by decide) rfl ?_
        refine zlvs (lv' := [(0, .ref (zad x 0)), (1, .int (nI i)), (2, .int (nI 0)), (4, .int (nI f)), (5, .int 0), (6, .int (nI 6)), (7, .int (nI 0))]) ⟨rfl, rfl, rfl, rfl, rfl, rfl, rfl, trivial⟩ ?_
        exact zZ_mono (l_X8_whatIs0 hW hi hf h4 _ 6 0 S 0 (by omega) hR rfl) (fun q U h => by obtain ⟨v, g1, g2, g3⟩ := h; exact ⟨v, g1, qC_ok he (by rw [g2, nI_clamp (n := i) (by omega)]; unfold wiA; rw [if_neg (by rw [h4]; exact nI_ne9 (by omega)), h4, nI_clamp (n := f) (by omega)]; rfl) g3⟩)
      · refine zaload_n dX8_whatIs_0 rfl ?_
        refine ziload_n dX8_whatIs_1 rfl ?_
        refine zcVf ob_X gk_X8_96 dX8_whatIs_2 (c_X8_personFault hT) rfl (by decide) (Nat.le_of_ble_eq_true rfl) ?_ rfl
        refine ziload_n dX8_whatIs_5 rfl ?_
        refine ziconst (v := 2) dX8_whatIs_6 (by decide) ?_
        refine zcSf  gk_X8_99 dX8_whatIs_7 c_X8_whatFault rfl (by decide) (Nat.le_of_ble_eq_true rfl) ?_ rfl
        refine zcSf  gk_X8_103 dX8_whatIs_10 c_X8_firstOf rfl (by decide) (Nat.le_of_ble_eq_true rfl) ?_ rfl
        refine zistore_n dX8_whatIs_13 (by decide) rfl ?_
        refine ziload_n dX8_whatIs_14 rfl ?_
        refine zif_eq (tgt := 24) dX8_whatIs_15 (by decide) (fun _ => ?_) (fun h => absurd he h)
        refine zaload_n dX8_whatIs_24 rfl ?_
        refine gf_X8_30 rfl dX8_whatIs_25 ?_
        refine gf_X8_115 (t := 0) (by decide) rfl dX8_whatIs_28 ?_
        refine ziload_n dX8_whatIs_31 rfl ?_
        refine zialT (t := 0) (w := 4) dX8_whatIs_32 (by decide) hT (by decide) (by decide) (by omega) ?_
        rw [h4]
        refine zistore dX8_whatIs_33 (by decide) rfl ?_
        refine zaload_n dX8_whatIs_35 rfl ?_
        refine gf_X8_30 rfl dX8_whatIs_36 ?_
        refine ziload dX8_whatIs_39 rfl ?_
        refine zcVf (ob_town (t := 0) (by decide)) gk_X8_279 dX8_whatIs_41 (c_X7_isThere (by decide) hT) rfl (by decide) (Nat.le_of_ble_eq_true rfl) ?_ rfl
        refine zifb_ne (tgt := 49) dX8_whatIs_44 (by decide) (fun _ => ?_) (fun h => absurd (h.symm.trans (decide_eq_true (is_in hT.2.1 hf))) (by decide))
        refine ziconst (v := 0) dX8_whatIs_49 (by decide) ?_
        refine zistore dX8_whatIs_50 (by decide) rfl ?_
        refine ziload_n dX8_whatIs_52 rfl ?_
        refine zif_ne (tgt := 61) dX8_whatIs_53 (by decide) (fun _ => ?_) (fun h => absurd h (by decide))
        refine zbipush (v := 10) dX8_whatIs_61 (by decide) ?_
        refine zistore dX8_whatIs_63 (by decide) rfl ?_
        refine ziconst (v := 0) dX8_whatIs_65 (by decide) ?_
        refine zistore dX8_whatIs_66 (by decide) rfl ?_
        refine zlvs (lv' := [(0, .ref (zad x 0)), (1, .int (nI i)), (2, .int (nI 1)), (4, .int (nI f)), (5, .int 0), (6, .int (nI 10)), (7, .int (nI 0))]) ⟨rfl, rfl, rfl, rfl, rfl, rfl, rfl, trivial⟩ ?_
        exact zZ_mono (l_X8_whatIs1 hW hi hf h4 _ 10 0 S 0 (by omega) hR rfl) (fun q U h => by obtain ⟨v, g1, g2, g3⟩ := h; exact ⟨v, g1, qC_ok he (by rw [g2, nI_clamp (n := i) (by omega)]; unfold wiA; rw [if_neg (by rw [h4]; exact nI_ne9 (by omega)), h4, nI_clamp (n := f) (by omega)]; rfl) g3⟩)
  · refine zaload_n dX8_whatIs_0 rfl ?_
    refine ziload_n dX8_whatIs_1 rfl ?_
    refine zcVf ob_X gk_X8_96 dX8_whatIs_2 (c_X8_personFault hT) rfl (by decide) (Nat.le_of_ble_eq_true rfl) ?_ rfl
    refine ziload_n dX8_whatIs_5 rfl ?_
    refine ziconst (v := 2) dX8_whatIs_6 (by decide) ?_
    refine zcSf  gk_X8_99 dX8_whatIs_7 c_X8_whatFault rfl (by decide) (Nat.le_of_ble_eq_true rfl) ?_ rfl
    refine zcSf  gk_X8_103 dX8_whatIs_10 c_X8_firstOf rfl (by decide) (Nat.le_of_ble_eq_true rfl) ?_ rfl
    refine zistore_n dX8_whatIs_13 (by decide) rfl ?_
    refine ziload_n dX8_whatIs_14 rfl ?_
    refine zif_eq (tgt := 24) dX8_whatIs_15 (by decide) (fun h => absurd h he) (fun _ => ?_)
    refine zaload_n dX8_whatIs_18 rfl ?_
    refine ziload_n dX8_whatIs_19 rfl ?_
    refine zcVf ob_X gk_X8_77 dX8_whatIs_20 (c_X8_refuse (okE.e (okE_fO (okE_pF _ _) (okE_whF _ _)) he)) rfl (by decide) (Nat.le_of_ble_eq_true rfl) ?_ rfl
    exact zireturn dX8_whatIs_23 rfl rfl ⟨_, rfl, qC_no rfl (okE.e (okE_fO (okE_pF _ _) (okE_whF _ _)) he) hR⟩
set_option maxRecDepth 100000 in
set_option maxHeartbeats 4000000 in
theorem l1_X9_whatIs0 (hW : WS σ) {p f y : Nat} {c : Int32} (hf : f < sN σ) {post : Option Value → zSt → Prop} (bb : Bool) (hn : ∀ S', RepM σ S' → zZ x false mX9_whatIs post 150 [(0, .ref (zad x 0)), (1, .int (nI p)), (2, .int (nI 0)), (3, .int (nI f)), (4, .int c), (5, .int (nI y)), (6, .int (bI bb))] [] S') : ∀ (k i : Nat) (S : zSt) (T : Tw) (b : Bool), i + k = (sR σ).1 → RepM σ S → isM S 2 (sN σ) T → MW (sN σ) T → (b && mfF (sN σ) (sR σ).2 f k i T) = bb → zZ x false mX9_whatIs post 98 [(0, .ref (zad x 0)), (1, .int (nI p)), (2, .int (nI 0)), (3, .int (nI f)), (4, .int c), (5, .int (nI y)), (6, .int (bI b)), (7, .int (nI i))] [] S := by
  have hr16 := hW.2.2.2.1
  intro k
  induction k with
  | zero =>
    intro i S T b hi hR hM2 hWT hr
    have hr : b = bb := by rw [← hr]; exact (Bool.and_true b).symm
    subst hr
    refine ziload dX9_whatIs_98 rfl ?_
    refine zaload_n dX9_whatIs_100 rfl ?_
    refine gf_X9_189 rfl dX9_whatIs_101 ?_
    rw [hR.2.2.2.2.1.1]
    refine zicmp_ge (tgt := 150) dX9_whatIs_104 (by decide) (fun _ => ?_) (fun h => absurd (nI_le (by omega) (by omega)) h)
    refine zlvs (lv' := [(0, .ref (zad x 0)), (1, .int (nI p)), (2, .int (nI 0)), (3, .int (nI f)), (4, .int c), (5, .int (nI y)), (6, .int (bI b))]) ⟨rfl, rfl, rfl, rfl, rfl, rfl, rfl, trivial⟩ ?_
    exact hn S hR
  | succ k ih =>
    intro i S T b hi hR hM2 hWT hr
    have hn8 := hM2.2.1
    rw [mfF] at hr
    by_cases hq : (sR σ).2 i = T 5 f
    · rw [if_pos hq] at hr
      refine ziload dX9_whatIs_98 rfl ?_
      refine zaload_n dX9_whatIs_100 rfl ?_
      refine gf_X9_189 rfl dX9_whatIs_101 ?_
      rw [hR.2.2.2.2.1.1]
      refine zicmp_ge (tgt := 150) dX9_whatIs_104 (by decide) (fun h => absurd h (nI_ge (by omega) (by omega))) (fun _ => ?_)
      refine ziload dX9_whatIs_107 rfl ?_
      refine zaload_n dX9_whatIs_109 rfl ?_
      refine gf_X9_13 rfl dX9_whatIs_110 ?_
      refine ziload_n dX9_whatIs_113 rfl ?_
      refine ziconst (v := nI 4) dX9_whatIs_114 (by decide) ?_
      refine zcSf gk_X9_52 dX9_whatIs_115 (c_X9_of (j := 4)) rfl (by decide) (Nat.le_of_ble_eq_true rfl) ?_ rfl
      refine zialM (k := 2) (j := 4) (w := 5) dX9_whatIs_118 hr2 hM2 rfl (by decide) (by omega) ?_
      refine zaload_n dX9_whatIs_119 rfl ?_
      refine gf_X9_28 rfl dX9_whatIs_120 ?_
      refine ziload dX9_whatIs_123 rfl ?_
      refine ziald dX9_whatIs_125 (by decide) rfl (by decide) (by omega) ?_
      rw [hR.2.2.2.2.1.2 i (by omega)]
      refine zicmp_ne (tgt := 133) dX9_whatIs_126 (by decide) (fun h => absurd hq.symm h) (fun _ => ?_)
      refine ziconst (v := 1) dX9_whatIs_129 (by decide) ?_
      refine zgoto (tgt := 134) dX9_whatIs_130 (by decide) ?_
      refine ziand dX9_whatIs_134 ?_
      rw [show bI b &&& 1 = bI b by cases b <;> decide]
      refine zistore dX9_whatIs_135 (by decide) rfl ?_
      refine zaload_n dX9_whatIs_137 rfl ?_
      refine gf_X9_13 rfl dX9_whatIs_138 ?_
      refine zcSn  gk_X9_84 dX9_whatIs_141 (c_X9_month hr2 hM2 hWT) rfl (by decide) (Nat.le_of_ble_eq_true rfl) (fun S3 hp3 => ?_) rfl
      obtain ⟨hM3, hW3, -, hf3⟩ := hp3
      refine ziinc dX9_whatIs_144 rfl rfl (by decide) rfl ?_
      refine zgoto (tgt := 98) dX9_whatIs_147 (by decide) ?_
      refine zlvs (lv' := [(0, .ref (zad x 0)), (1, .int (nI p)), (2, .int (nI 0)), (3, .int (nI f)), (4, .int c), (5, .int (nI y)), (6, .int (bI b)), (7, .int (nI (i + 1)))]) ⟨rfl, rfl, rfl, rfl, rfl, rfl, rfl, by rw [nI_succ i]; rfl, trivial⟩ ?_
      exact ih (i + 1) S3 _ b (by omega) (hR.mind hf3 (Or.inl rfl)) hM3 hW3 hr
    · rw [if_neg hq] at hr
      have hff : ∀ z : Bool, (false && z) = bb := fun z => by rw [← hr]; cases b <;> rfl
      refine ziload dX9_whatIs_98 rfl ?_
      refine zaload_n dX9_whatIs_100 rfl ?_
      refine gf_X9_189 rfl dX9_whatIs_101 ?_
      rw [hR.2.2.2.2.1.1]
      refine zicmp_ge (tgt := 150) dX9_whatIs_104 (by decide) (fun h => absurd h (nI_ge (by omega) (by omega))) (fun _ => ?_)
      refine ziload dX9_whatIs_107 rfl ?_
      refine zaload_n dX9_whatIs_109 rfl ?_
      refine gf_X9_13 rfl dX9_whatIs_110 ?_
      refine ziload_n dX9_whatIs_113 rfl ?_
      refine ziconst (v := nI 4) dX9_whatIs_114 (by decide) ?_
      refine zcSf gk_X9_52 dX9_whatIs_115 (c_X9_of (j := 4)) rfl (by decide) (Nat.le_of_ble_eq_true rfl) ?_ rfl
      refine zialM (k := 2) (j := 4) (w := 5) dX9_whatIs_118 hr2 hM2 rfl (by decide) (by omega) ?_
      refine zaload_n dX9_whatIs_119 rfl ?_
      refine gf_X9_28 rfl dX9_whatIs_120 ?_
      refine ziload dX9_whatIs_123 rfl ?_
      refine ziald dX9_whatIs_125 (by decide) rfl (by decide) (by omega) ?_
      rw [hR.2.2.2.2.1.2 i (by omega)]
      refine zicmp_ne (tgt := 133) dX9_whatIs_126 (by decide) (fun _ => ?_) (fun h => absurd h (fun z => hq z.symm))
      refine ziconst (v := 0) dX9_whatIs_133 (by decide) ?_
      refine ziand dX9_whatIs_134 ?_
      rw [show bI b &&& 0 = bI false by cases b <;> decide]
      refine zistore dX9_whatIs_135 (by decide) rfl ?_
      refine zaload_n dX9_whatIs_137 rfl ?_
      refine gf_X9_13 rfl dX9_whatIs_138 ?_
      refine zcSn  gk_X9_84 dX9_whatIs_141 (c_X9_month hr2 hM2 hWT) rfl (by decide) (Nat.le_of_ble_eq_true rfl) (fun S3 hp3 => ?_) rfl
      obtain ⟨hM3, hW3, -, hf3⟩ := hp3
      refine ziinc dX9_whatIs_144 rfl rfl (by decide) rfl ?_
      refine zgoto (tgt := 98) dX9_whatIs_147 (by decide) ?_
      refine zlvs (lv' := [(0, .ref (zad x 0)), (1, .int (nI p)), (2, .int (nI 0)), (3, .int (nI f)), (4, .int c), (5, .int (nI y)), (6, .int (bI false)), (7, .int (nI (i + 1)))]) ⟨rfl, rfl, rfl, rfl, rfl, rfl, rfl, by rw [nI_succ i]; rfl, trivial⟩ ?_
      exact ih (i + 1) S3 _ false (by omega) (hR.mind hf3 (Or.inl rfl)) hM3 hW3 (hff _)
set_option maxRecDepth 100000 in
set_option maxHeartbeats 4000000 in
theorem l_X9_whatIs0 (hW : WS σ) {p f : Nat} (hp : p < sN σ) (hf : f < sN σ) (r : Int32) : ∀ (k y : Nat) (S : zSt) (a : Int32), y + k = 6 → RepM σ S → oF (fun y => if mfF (sN σ) (sR σ).2 f (sR σ).1 0 (u2 (sT σ) 1 p (nI y)) = true then 1 <<< (nI y &&& 31) else 0) k y a = r → zZ x false mX9_whatIs (fun q U => ∃ v : Int32, q = some (.int v) ∧ v = r ∧ RepM σ U) 47 [(0, .ref (zad x 0)), (1, .int (nI p)), (2, .int (nI 0)), (3, .int (nI f)), (4, .int a), (5, .int (nI y))] [] S := by
  intro k
  induction k with
  | zero =>
    intro y S a hi hR hr
    refine ziload dX9_whatIs_47 rfl ?_
    refine ziload_n dX9_whatIs_49 rfl ?_
    refine zif_ne (tgt := 58) dX9_whatIs_50 (by decide) (fun h => absurd rfl h) (fun _ => ?_)
    refine zbipush (v := 6) dX9_whatIs_53 (by decide) ?_
    refine zgoto (tgt := 60) dX9_whatIs_55 (by decide) ?_
    refine zicmp_ge (tgt := 174) dX9_whatIs_60 (by decide) (fun _ => ?_) (fun h => absurd (nI_le (a := 6) (by omega) (by omega)) h)
    refine ziload dX9_whatIs_174 rfl ?_
    exact zireturn dX9_whatIs_176 rfl rfl ⟨_, rfl, hr, hR⟩
  | succ k ih =>
    intro y S a hi hR hr
    have hM := hR.1
    have hn8 : sN σ ≤ 8 := hM.2.1
    have hs : oF (fun y => if mfF (sN σ) (sR σ).2 f (sR σ).1 0 (u2 (sT σ) 1 p (nI y)) = true then 1 <<< (nI y &&& 31) else 0) (k + 1) y a = oF (fun y => if mfF (sN σ) (sR σ).2 f (sR σ).1 0 (u2 (sT σ) 1 p (nI y)) = true then 1 <<< (nI y &&& 31) else 0) k (y + 1) (a ||| (if mfF (sN σ) (sR σ).2 f (sR σ).1 0 (u2 (sT σ) 1 p (nI y)) = true then (1 : Int32) <<< (nI y &&& 31) else 0)) := rfl
    rw [hs] at hr
    refine ziload dX9_whatIs_47 rfl ?_
    refine ziload_n dX9_whatIs_49 rfl ?_
    refine zif_ne (tgt := 58) dX9_whatIs_50 (by decide) (fun h => absurd rfl h) (fun _ => ?_)
    refine zbipush (v := 6) dX9_whatIs_53 (by decide) ?_
    refine zgoto (tgt := 60) dX9_whatIs_55 (by decide) ?_
    refine zicmp_ge (tgt := 174) dX9_whatIs_60 (by decide) (fun h => absurd h (nI_ge (b := 6) (by omega) (by omega))) (fun _ => ?_)
    refine ziload_n dX9_whatIs_63 rfl ?_
    refine zbipush (v := 9) dX9_whatIs_64 (by decide) ?_
    refine zicmp_eq (tgt := 174) dX9_whatIs_66 (by decide) (fun h => absurd h (nI_ne9 (by omega))) (fun _ => ?_)
    refine ziconst (v := 1) dX9_whatIs_69 (by decide) ?_
    refine zistore dX9_whatIs_70 (by decide) rfl ?_
    refine zaload_n dX9_whatIs_72 rfl ?_
    refine gf_X9_9 rfl dX9_whatIs_73 ?_
    refine zaload_n dX9_whatIs_76 rfl ?_
    refine gf_X9_13 rfl dX9_whatIs_77 ?_
    refine zcSn  gk_X9_133 dX9_whatIs_80 (c_X9_copies hr1 hr2 (by decide) hM) rfl (by decide) (Nat.le_of_ble_eq_true rfl) (fun S2 hp2 => ?_) rfl
    obtain ⟨hM2, -, hf2⟩ := hp2
    refine zaload_n dX9_whatIs_83 rfl ?_
    refine gf_X9_13 rfl dX9_whatIs_84 ?_
    refine ziload_n dX9_whatIs_87 rfl ?_
    refine ziload_n dX9_whatIs_88 rfl ?_
    refine zcSf  gk_X9_52 dX9_whatIs_89 (c_X9_of (j := 0)) rfl (by decide) (Nat.le_of_ble_eq_true rfl) ?_ rfl
    refine ziload dX9_whatIs_92 rfl ?_
    refine ziast dX9_whatIs_94 (by decide) rfl (by decide) (by omega) ?_
    refine ziconst (v := 0) dX9_whatIs_95 (by decide) ?_
    refine zistore dX9_whatIs_96 (by decide) rfl ?_
    have hM3 := isM_put (j := 0) (p := p) (v := nI y) hM2 rfl (by decide)
    refine zlvs (lv' := [(0, .ref (zad x 0)), (1, .int (nI p)), (2, .int (nI 0)), (3, .int (nI f)), (4, .int a), (5, .int (nI y)), (6, .int (bI true)), (7, .int (nI 0))]) ⟨rfl, rfl, rfl, rfl, rfl, rfl, rfl, rfl, trivial⟩ ?_
    refine l1_X9_whatIs0 hW hf _ (fun S9 hR9 => ?_) (sR σ).1 0 _ _ true (by omega) (hR.mind (frM.put hf2) (Or.inl rfl)) hM3 (WFT.kf (j := 0) (y := y) hW.1 (Or.inl ⟨rfl, by omega⟩)).2.1 rfl
    rw [Bool.true_and]
    refine ziload dX9_whatIs_150 rfl ?_
    refine ziload dX9_whatIs_152 rfl ?_
    refine zifb_eq (tgt := 164) dX9_whatIs_154 (by decide) (fun h154 => ?_) (fun h154 => ?_)
    · refine ziconst (v := 0) dX9_whatIs_164 (by decide) ?_
      refine zior dX9_whatIs_165 ?_
      refine zistore dX9_whatIs_166 (by decide) rfl ?_
      refine ziinc dX9_whatIs_168 rfl rfl (by decide) rfl ?_
      refine zgoto (tgt := 47) dX9_whatIs_171 (by decide) ?_
      refine zlvs (lv' := [(0, .ref (zad x 0)), (1, .int (nI p)), (2, .int (nI 0)), (3, .int (nI f)), (4, .int _), (5, .int (nI (y + 1)))]) ⟨rfl, rfl, rfl, rfl, rfl, by rw [nI_succ y]; rfl, trivial⟩ ?_
      exact ih (y + 1) S9 _ (by omega) hR9 (by rw [← hr]; simp [h154])
    · refine ziconst (v := 1) dX9_whatIs_157 (by decide) ?_
      refine ziload dX9_whatIs_158 rfl ?_
      refine zishl dX9_whatIs_160 ?_
      refine zgoto (tgt := 165) dX9_whatIs_161 (by decide) ?_
      refine zior dX9_whatIs_165 ?_
      refine zistore dX9_whatIs_166 (by decide) rfl ?_
      refine ziinc dX9_whatIs_168 rfl rfl (by decide) rfl ?_
      refine zgoto (tgt := 47) dX9_whatIs_171 (by decide) ?_
      refine zlvs (lv' := [(0, .ref (zad x 0)), (1, .int (nI p)), (2, .int (nI 0)), (3, .int (nI f)), (4, .int _), (5, .int (nI (y + 1)))]) ⟨rfl, rfl, rfl, rfl, rfl, by rw [nI_succ y]; rfl, trivial⟩ ?_
      exact ih (y + 1) S9 _ (by omega) hR9 (by rw [← hr]; simp [h154])
set_option maxRecDepth 100000 in
set_option maxHeartbeats 4000000 in
theorem l1_X9_whatIs1 (hW : WS σ) {p f y : Nat} {c : Int32} (hf : f < sN σ) {post : Option Value → zSt → Prop} (bb : Bool) (hn : ∀ S', RepM σ S' → zZ x false mX9_whatIs post 150 [(0, .ref (zad x 0)), (1, .int (nI p)), (2, .int (nI 1)), (3, .int (nI f)), (4, .int c), (5, .int (nI y)), (6, .int (bI bb))] [] S') : ∀ (k i : Nat) (S : zSt) (T : Tw) (b : Bool), i + k = (sR σ).1 → RepM σ S → isM S 2 (sN σ) T → MW (sN σ) T → (b && mfF (sN σ) (sR σ).2 f k i T) = bb → zZ x false mX9_whatIs post 98 [(0, .ref (zad x 0)), (1, .int (nI p)), (2, .int (nI 1)), (3, .int (nI f)), (4, .int c), (5, .int (nI y)), (6, .int (bI b)), (7, .int (nI i))] [] S := by
  have hr16 := hW.2.2.2.1
  intro k
  induction k with
  | zero =>
    intro i S T b hi hR hM2 hWT hr
    have hr : b = bb := by rw [← hr]; exact (Bool.and_true b).symm
    subst hr
    refine ziload dX9_whatIs_98 rfl ?_
    refine zaload_n dX9_whatIs_100 rfl ?_
    refine gf_X9_189 rfl dX9_whatIs_101 ?_
    rw [hR.2.2.2.2.1.1]
    refine zicmp_ge (tgt := 150) dX9_whatIs_104 (by decide) (fun _ => ?_) (fun h => absurd (nI_le (by omega) (by omega)) h)
    refine zlvs (lv' := [(0, .ref (zad x 0)), (1, .int (nI p)), (2, .int (nI 1)), (3, .int (nI f)), (4, .int c), (5, .int (nI y)), (6, .int (bI b))]) ⟨rfl, rfl, rfl, rfl, rfl, rfl, rfl, trivial⟩ ?_
    exact hn S hR
  | succ k ih =>
    intro i S T b hi hR hM2 hWT hr
    have hn8 := hM2.2.1
    rw [mfF] at hr
    by_cases hq : (sR σ).2 i = T 5 f
    · rw [if_pos hq] at hr
      refine ziload dX9_whatIs_98 rfl ?_
      refine zaload_n dX9_whatIs_100 rfl ?_
      refine gf_X9_189 rfl dX9_whatIs_101 ?_
      rw [hR.2.2.2.2.1.1]
      refine zicmp_ge (tgt := 150) dX9_whatIs_104 (by decide) (fun h => absurd h (nI_ge (by omega) (by omega))) (fun _ => ?_)
      refine ziload dX9_whatIs_107 rfl ?_
      refine zaload_n dX9_whatIs_109 rfl ?_
      refine gf_X9_13 rfl dX9_whatIs_110 ?_
      refine ziload_n dX9_whatIs_113 rfl ?_
      refine ziconst (v := nI 4) dX9_whatIs_114 (by decide) ?_
      refine zcSf gk_X9_52 dX9_whatIs_115 (c_X9_of (j := 4)) rfl (by decide) (Nat.le_of_ble_eq_true rfl) ?_ rfl
      refine zialM (k := 2) (j := 4) (w := 5) dX9_whatIs_118 hr2 hM2 rfl (by decide) (by omega) ?_
      refine zaload_n dX9_whatIs_119 rfl ?_
      refine gf_X9_28 rfl dX9_whatIs_120 ?_
      refine ziload dX9_whatIs_123 rfl ?_
      refine ziald dX9_whatIs_125 (by decide) rfl (by decide) (by omega) ?_
      rw [hR.2.2.2.2.1.2 i (by omega)]
      refine zicmp_ne (tgt := 133) dX9_whatIs_126 (by decide) (fun h => absurd hq.symm h) (fun _ => ?_)
      refine ziconst (v := 1) dX9_whatIs_129 (by decide) ?_
      refine zgoto (tgt := 134) dX9_whatIs_130 (by decide) ?_
      refine ziand dX9_whatIs_134 ?_
      rw [show bI b &&& 1 = bI b by cases b <;> decide]
      refine zistore dX9_whatIs_135 (by decide) rfl ?_
      refine zaload_n dX9_whatIs_137 rfl ?_
      refine gf_X9_13 rfl dX9_whatIs_138 ?_
      refine zcSn  gk_X9_84 dX9_whatIs_141 (c_X9_month hr2 hM2 hWT) rfl (by decide) (Nat.le_of_ble_eq_true rfl) (fun S3 hp3 => ?_) rfl
      obtain ⟨hM3, hW3, -, hf3⟩ := hp3
      refine ziinc dX9_whatIs_144 rfl rfl (by decide) rfl ?_
      refine zgoto (tgt := 98) dX9_whatIs_147 (by decide) ?_
      refine zlvs (lv' := [(0, .ref (zad x 0)), (1, .int (nI p)), (2, .int (nI 1)), (3, .int (nI f)), (4, .int c), (5, .int (nI y)), (6, .int (bI b)), (7, .int (nI (i + 1)))]) ⟨rfl, rfl, rfl, rfl, rfl, rfl, rfl, by rw [nI_succ i]; rfl, trivial⟩ ?_
      exact ih (i + 1) S3 _ b (by omega) (hR.mind hf3 (Or.inl rfl)) hM3 hW3 hr
    · rw [if_neg hq] at hr
      have hff : ∀ z : Bool, (false && z) = bb := fun z => by rw [← hr]; cases b <;> rfl
      refine ziload dX9_whatIs_98 rfl ?_
      refine zaload_n dX9_whatIs_100 rfl ?_
      refine gf_X9_189 rfl dX9_whatIs_101 ?_
      rw [hR.2.2.2.2.1.1]
      refine zicmp_ge (tgt := 150) dX9_whatIs_104 (by decide) (fun h => absurd h (nI_ge (by omega) (by omega))) (fun _ => ?_)
      refine ziload dX9_whatIs_107 rfl ?_
      refine zaload_n dX9_whatIs_109 rfl ?_
      refine gf_X9_13 rfl dX9_whatIs_110 ?_
      refine ziload_n dX9_whatIs_113 rfl ?_
      refine ziconst (v := nI 4) dX9_whatIs_114 (by decide) ?_
      refine zcSf gk_X9_52 dX9_whatIs_115 (c_X9_of (j := 4)) rfl (by decide) (Nat.le_of_ble_eq_true rfl) ?_ rfl
      refine zialM (k := 2) (j := 4) (w := 5) dX9_whatIs_118 hr2 hM2 rfl (by decide) (by omega) ?_
      refine zaload_n dX9_whatIs_119 rfl ?_
      refine gf_X9_28 rfl dX9_whatIs_120 ?_
      refine ziload dX9_whatIs_123 rfl ?_
      refine ziald dX9_whatIs_125 (by decide) rfl (by decide) (by omega) ?_
      rw [hR.2.2.2.2.1.2 i (by omega)]
      refine zicmp_ne (tgt := 133) dX9_whatIs_126 (by decide) (fun _ => ?_) (fun h => absurd h (fun z => hq z.symm))
      refine ziconst (v := 0) dX9_whatIs_133 (by decide) ?_
      refine ziand dX9_whatIs_134 ?_
      rw [show bI b &&& 0 = bI false by cases b <;> decide]
      refine zistore dX9_whatIs_135 (by decide) rfl ?_
      refine zaload_n dX9_whatIs_137 rfl ?_
      refine gf_X9_13 rfl dX9_whatIs_138 ?_
      refine zcSn  gk_X9_84 dX9_whatIs_141 (c_X9_month hr2 hM2 hWT) rfl (by decide) (Nat.le_of_ble_eq_true rfl) (fun S3 hp3 => ?_) rfl
      obtain ⟨hM3, hW3, -, hf3⟩ := hp3
      refine ziinc dX9_whatIs_144 rfl rfl (by decide) rfl ?_
      refine zgoto (tgt := 98) dX9_whatIs_147 (by decide) ?_
      refine zlvs (lv' := [(0, .ref (zad x 0)), (1, .int (nI p)), (2, .int (nI 1)), (3, .int (nI f)), (4, .int c), (5, .int (nI y)), (6, .int (bI false)), (7, .int (nI (i + 1)))]) ⟨rfl, rfl, rfl, rfl, rfl, rfl, rfl, by rw [nI_succ i]; rfl, trivial⟩ ?_
      exact ih (i + 1) S3 _ false (by omega) (hR.mind hf3 (Or.inl rfl)) hM3 hW3 (hff _)
set_option maxRecDepth 100000 in
set_option maxHeartbeats 4000000 in
theorem l_X9_whatIs1 (hW : WS σ) {p f : Nat} (hp : p < sN σ) (hf : f < sN σ) (r : Int32) : ∀ (k y : Nat) (S : zSt) (a : Int32), y + k = 10 → RepM σ S → oF (fun y => if mfF (sN σ) (sR σ).2 f (sR σ).1 0 (u2 (sT σ) 2 p (nI y)) = true then 1 <<< (nI y &&& 31) else 0) k y a = r → zZ x false mX9_whatIs (fun q U => ∃ v : Int32, q = some (.int v) ∧ v = r ∧ RepM σ U) 47 [(0, .ref (zad x 0)), (1, .int (nI p)), (2, .int (nI 1)), (3, .int (nI f)), (4, .int a), (5, .int (nI y))] [] S := by
  intro k
  induction k with
  | zero =>
    intro y S a hi hR hr
    refine ziload dX9_whatIs_47 rfl ?_
    refine ziload_n dX9_whatIs_49 rfl ?_
    refine zif_ne (tgt := 58) dX9_whatIs_50 (by decide) (fun _ => ?_) (fun h => absurd h (by decide))
    refine zbipush (v := 10) dX9_whatIs_58 (by decide) ?_
    refine zicmp_ge (tgt := 174) dX9_whatIs_60 (by decide) (fun _ => ?_) (fun h => absurd (nI_le (a := 10) (by omega) (by omega)) h)
    refine ziload dX9_whatIs_174 rfl ?_
    exact zireturn dX9_whatIs_176 rfl rfl ⟨_, rfl, hr, hR⟩
  | succ k ih =>
    intro y S a hi hR hr
    have hM := hR.1
    have hn8 : sN σ ≤ 8 := hM.2.1
    have hs : oF (fun y => if mfF (sN σ) (sR σ).2 f (sR σ).1 0 (u2 (sT σ) 2 p (nI y)) = true then 1 <<< (nI y &&& 31) else 0) (k + 1) y a = oF (fun y => if mfF (sN σ) (sR σ).2 f (sR σ).1 0 (u2 (sT σ) 2 p (nI y)) = true then 1 <<< (nI y &&& 31) else 0) k (y + 1) (a ||| (if mfF (sN σ) (sR σ).2 f (sR σ).1 0 (u2 (sT σ) 2 p (nI y)) = true then (1 : Int32) <<< (nI y &&& 31) else 0)) := rfl
    rw [hs] at hr
    refine ziload dX9_whatIs_47 rfl ?_
    refine ziload_n dX9_whatIs_49 rfl ?_
    refine zif_ne (tgt := 58) dX9_whatIs_50 (by decide) (fun _ => ?_) (fun h => absurd h (by decide))
    refine zbipush (v := 10) dX9_whatIs_58 (by decide) ?_
    refine zicmp_ge (tgt := 174) dX9_whatIs_60 (by decide) (fun h => absurd h (nI_ge (b := 10) (by omega) (by omega))) (fun _ => ?_)
    refine ziload_n dX9_whatIs_63 rfl ?_
    refine zbipush (v := 9) dX9_whatIs_64 (by decide) ?_
    refine zicmp_eq (tgt := 174) dX9_whatIs_66 (by decide) (fun h => absurd h (nI_ne9 (by omega))) (fun _ => ?_)
    refine ziconst (v := 1) dX9_whatIs_69 (by decide) ?_
    refine zistore dX9_whatIs_70 (by decide) rfl ?_
    refine zaload_n dX9_whatIs_72 rfl ?_
    refine gf_X9_9 rfl dX9_whatIs_73 ?_
    refine zaload_n dX9_whatIs_76 rfl ?_
    refine gf_X9_13 rfl dX9_whatIs_77 ?_
    refine zcSn  gk_X9_133 dX9_whatIs_80 (c_X9_copies hr1 hr2 (by decide) hM) rfl (by decide) (Nat.le_of_ble_eq_true rfl) (fun S2 hp2 => ?_) rfl
    obtain ⟨hM2, -, hf2⟩ := hp2
    refine zaload_n dX9_whatIs_83 rfl ?_
    refine gf_X9_13 rfl dX9_whatIs_84 ?_
    refine ziload_n dX9_whatIs_87 rfl ?_
    refine ziload_n dX9_whatIs_88 rfl ?_
    refine zcSf  gk_X9_52 dX9_whatIs_89 (c_X9_of (j := 1)) rfl (by decide) (Nat.le_of_ble_eq_true rfl) ?_ rfl
    refine ziload dX9_whatIs_92 rfl ?_
    refine ziast dX9_whatIs_94 (by decide) rfl (by decide) (by omega) ?_
    refine ziconst (v := 0) dX9_whatIs_95 (by decide) ?_
    refine zistore dX9_whatIs_96 (by decide) rfl ?_
    have hM3 := isM_put (j := 1) (p := p) (v := nI y) hM2 rfl (by decide)
    refine zlvs (lv' := [(0, .ref (zad x 0)), (1, .int (nI p)), (2, .int (nI 1)), (3, .int (nI f)), (4, .int a), (5, .int (nI y)), (6, .int (bI true)), (7, .int (nI 0))]) ⟨rfl, rfl, rfl, rfl, rfl, rfl, rfl, rfl, trivial⟩ ?_
    refine l1_X9_whatIs1 hW hf _ (fun S9 hR9 => ?_) (sR σ).1 0 _ _ true (by omega) (hR.mind (frM.put hf2) (Or.inl rfl)) hM3 (WFT.kf (j := 1) (y := y) hW.1 (Or.inr rfl)).2.1 rfl
    rw [Bool.true_and]
    refine ziload dX9_whatIs_150 rfl ?_
    refine ziload dX9_whatIs_152 rfl ?_
    refine zifb_eq (tgt := 164) dX9_whatIs_154 (by decide) (fun h154 => ?_) (fun h154 => ?_)
    · refine ziconst (v := 0) dX9_whatIs_164 (by decide) ?_
      refine zior dX9_whatIs_165 ?_
      refine zistore dX9_whatIs_166 (by decide) rfl ?_
      refine ziinc dX9_whatIs_168 rfl rfl (by decide) rfl ?_
      refine zgoto (tgt := 47) dX9_whatIs_171 (by decide) ?_
      refine zlvs (lv' := [(0, .ref (zad x 0)), (1, .int (nI p)), (2, .int (nI 1)), (3, .int (nI f)), (4, .int _), (5, .int (nI (y + 1)))]) ⟨rfl, rfl, rfl, rfl, rfl, by rw [nI_succ y]; rfl, trivial⟩ ?_
      exact ih (y + 1) S9 _ (by omega) hR9 (by rw [← hr]; simp [h154])
    · refine ziconst (v := 1) dX9_whatIs_157 (by decide) ?_
      refine ziload dX9_whatIs_158 rfl ?_
      refine zishl dX9_whatIs_160 ?_
      refine zgoto (tgt := 165) dX9_whatIs_161 (by decide) ?_
      refine zior dX9_whatIs_165 ?_
      refine zistore dX9_whatIs_166 (by decide) rfl ?_
      refine ziinc dX9_whatIs_168 rfl rfl (by decide) rfl ?_
      refine zgoto (tgt := 47) dX9_whatIs_171 (by decide) ?_
      refine zlvs (lv' := [(0, .ref (zad x 0)), (1, .int (nI p)), (2, .int (nI 1)), (3, .int (nI f)), (4, .int _), (5, .int (nI (y + 1)))]) ⟨rfl, rfl, rfl, rfl, rfl, by rw [nI_succ y]; rfl, trivial⟩ ?_
      exact ih (y + 1) S9 _ (by omega) hR9 (by rw [← hr]; simp [h154])
set_option maxRecDepth 100000 in
set_option maxHeartbeats 4000000 in
theorem c_X9_whatIs (hR : RepM σ S) (hW : WS σ) (p w : Int32) : zR x false mX9_whatIs [.ref (zad x 0), .int p, .int w] S (qM (fO (pF (sN σ) p) (whF w 2)) (wiA (sN σ) (sT σ) (sR σ) p.toNatClampNeg w) σ (σ)) := by
  have hM := hR.1
  have hn8 : sN σ ≤ 8 := hM.2.1
  refine zC_of (by decide +kernel) (Nat.le_of_ble_eq_true rfl) ?_
  by_cases he : fO (pF (sN σ) p) (whF w 2) = 0
  · obtain ⟨h1, h2⟩ := fO_0 he
    have h1p := pF_0 h1
    obtain ⟨i, hi, rfl⟩ := pF_of (by omega) h1
    have h2w := h2
    obtain ⟨j, hj, rfl⟩ := whF_of (k := 2) (by decide) h2
    rcases (hW.1.vw i hi).1 with h9 | ⟨f, hf, h4⟩
    · rcases (show j = 0 ∨ j = 1 by omega) with rfl | rfl
      · refine zaload_n dX9_whatIs_0 rfl ?_
        refine ziload_n dX9_whatIs_1 rfl ?_
        refine zcVf ob_Mo gk_X9_48 dX9_whatIs_2 (c_X9_isOne hM) rfl (by decide) (Nat.le_of_ble_eq_true rfl) ?_ rfl
        refine zifb_ne (tgt := 14) dX9_whatIs_5 (by decide) (fun _ => ?_) (fun h => absurd (h.symm.trans h1p) (by decide))
        refine ziload_n dX9_whatIs_14 rfl ?_
        refine ziconst (v := 0) dX9_whatIs_15 (by decide) ?_
        refine ziconst (v := 1) dX9_whatIs_16 (by decide) ?_
        refine zcSf  gk_X9_44 dX9_whatIs_17 c_isIn_1 rfl (by decide) (Nat.le_of_ble_eq_true rfl) ?_ rfl
        refine zifb_ne (tgt := 30) dX9_whatIs_20 (by decide) (fun _ => ?_) (fun h => absurd (h.symm.trans (decide_eq_true h2w)) (by decide))
        refine zaload_n dX9_whatIs_30 rfl ?_
        refine gf_X9_9 rfl dX9_whatIs_31 ?_
        refine ziload_n dX9_whatIs_34 rfl ?_
        refine ziconst (v := nI 3) dX9_whatIs_35 (by decide) ?_
        refine zcSf gk_X9_52 dX9_whatIs_36 (c_X9_of (j := 3)) rfl (by decide) (Nat.le_of_ble_eq_true rfl) ?_ rfl
        refine zialM (k := 1) (j := 3) (w := 4) dX9_whatIs_39 hr1 hM rfl (by decide) (by omega) ?_
        refine zistore_n dX9_whatIs_40 (by decide) rfl ?_
        refine ziconst (v := 0) dX9_whatIs_41 (by decide) ?_
        refine zistore dX9_whatIs_42 (by decide) rfl ?_
        refine ziconst (v := 0) dX9_whatIs_44 (by decide) ?_
        refine zistore dX9_whatIs_45 (by decide) rfl ?_
        refine ziload dX9_whatIs_47 rfl ?_
        refine ziload_n dX9_whatIs_49 rfl ?_
        refine zif_ne (tgt := 58) dX9_whatIs_50 (by decide) (fun h => absurd rfl h) (fun _ => ?_)
        refine zbipush (v := 6) dX9_whatIs_53 (by decide) ?_
        refine zgoto (tgt := 60) dX9_whatIs_55 (by decide) ?_
        refine zicmp_ge (tgt := 174) dX9_whatIs_60 (by decide) (fun h => absurd h (by decide)) (fun _ => ?_)
        refine ziload_n dX9_whatIs_63 rfl ?_
        refine zbipush (v := 9) dX9_whatIs_64 (by decide) ?_
        refine zicmp_eq (tgt := 174) dX9_whatIs_66 (by decide) (fun _ => ?_) (fun h => absurd h9 h)
        refine ziload dX9_whatIs_174 rfl ?_
        exact zireturn dX9_whatIs_176 rfl rfl ⟨_, rfl, qM_ok he (by rw [nI_clamp (n := i) (by omega)]; unfold wiA; rw [if_pos h9]) hR⟩
      · refine zaload_n dX9_whatIs_0 rfl ?_
        refine ziload_n dX9_whatIs_1 rfl ?_
        refine zcVf ob_Mo gk_X9_48 dX9_whatIs_2 (c_X9_isOne hM) rfl (by decide) (Nat.le_of_ble_eq_true rfl) ?_ rfl
        refine zifb_ne (tgt := 14) dX9_whatIs_5 (by decide) (fun _ => ?_) (fun h => absurd (h.symm.trans h1p) (by decide))
        refine ziload_n dX9_whatIs_14 rfl ?_
        refine ziconst (v := 0) dX9_whatIs_15 (by decide) ?_
        refine ziconst (v := 1) dX9_whatIs_16 (by decide) ?_
        refine zcSf  gk_X9_44 dX9_whatIs_17 c_isIn_1 rfl (by decide) (Nat.le_of_ble_eq_true rfl) ?_ rfl
        refine zifb_ne (tgt := 30) dX9_whatIs_20 (by decide) (fun _ => ?_) (fun h => absurd (h.symm.trans (decide_eq_true h2w)) (by decide))
        refine zaload_n dX9_whatIs_30 rfl ?_
        refine gf_X9_9 rfl dX9_whatIs_31 ?_
        refine ziload_n dX9_whatIs_34 rfl ?_
        refine ziconst (v := nI 3) dX9_whatIs_35 (by decide) ?_
        refine zcSf gk_X9_52 dX9_whatIs_36 (c_X9_of (j := 3)) rfl (by decide) (Nat.le_of_ble_eq_true rfl) ?_ rfl
        refine zialM (k := 1) (j := 3) (w := 4) dX9_whatIs_39 hr1 hM rfl (by decide) (by omega) ?_
        refine zistore_n dX9_whatIs_40 (by decide) rfl ?_
        refine ziconst (v := 0) dX9_whatIs_41 (by decide) ?_
        refine zistore dX9_whatIs_42 (by decide) rfl ?_
        refine ziconst (v := 0) dX9_whatIs_44 (by decide) ?_
        refine zistore dX9_whatIs_45 (by decide) rfl ?_
        refine ziload dX9_whatIs_47 rfl ?_
        refine ziload_n dX9_whatIs_49 rfl ?_
        refine zif_ne (tgt := 58) dX9_whatIs_50 (by decide) (fun _ => ?_) (fun h => absurd h (by decide))
        refine zbipush (v := 10) dX9_whatIs_58 (by decide) ?_
        refine zicmp_ge (tgt := 174) dX9_whatIs_60 (by decide) (fun h => absurd h (by decide)) (fun _ => ?_)
        refine ziload_n dX9_whatIs_63 rfl ?_
        refine zbipush (v := 9) dX9_whatIs_64 (by decide) ?_
        refine zicmp_eq (tgt := 174) dX9_whatIs_66 (by decide) (fun _ => ?_) (fun h => absurd h9 h)
        refine ziload dX9_whatIs_174 rfl ?_
        exact zireturn dX9_whatIs_176 rfl rfl ⟨_, rfl, qM_ok he (by rw [nI_clamp (n := i) (by omega)]; unfold wiA; rw [if_pos h9]) hR⟩
    · rcases (show j = 0 ∨ j = 1 by omega) with rfl | rfl
      · refine zaload_n dX9_whatIs_0 rfl ?_
        refine ziload_n dX9_whatIs_1 rfl ?_
        refine zcVf ob_Mo gk_X9_48 dX9_whatIs_2 (c_X9_isOne hM) rfl (by decide) (Nat.le_of_ble_eq_true rfl) ?_ rfl
        refine zifb_ne (tgt := 14) dX9_whatIs_5 (by decide) (fun _ => ?_) (fun h => absurd (h.symm.trans h1p) (by decide))
        refine ziload_n dX9_whatIs_14 rfl ?_
        refine ziconst (v := 0) dX9_whatIs_15 (by decide) ?_
        refine ziconst (v := 1) dX9_whatIs_16 (by decide) ?_
        refine zcSf  gk_X9_44 dX9_whatIs_17 c_isIn_1 rfl (by decide) (Nat.le_of_ble_eq_true rfl) ?_ rfl
        refine zifb_ne (tgt := 30) dX9_whatIs_20 (by decide) (fun _ => ?_) (fun h => absurd (h.symm.trans (decide_eq_true h2w)) (by decide))
        refine zaload_n dX9_whatIs_30 rfl ?_
        refine gf_X9_9 rfl dX9_whatIs_31 ?_
        refine ziload_n dX9_whatIs_34 rfl ?_
        refine ziconst (v := nI 3) dX9_whatIs_35 (by decide) ?_
        refine zcSf gk_X9_52 dX9_whatIs_36 (c_X9_of (j := 3)) rfl (by decide) (Nat.le_of_ble_eq_true rfl) ?_ rfl
        refine zialM (k := 1) (j := 3) (w := 4) dX9_whatIs_39 hr1 hM rfl (by decide) (by omega) ?_
        rw [h4]
        refine zistore_n dX9_whatIs_40 (by decide) rfl ?_
        refine ziconst (v := 0) dX9_whatIs_41 (by decide) ?_
        refine zistore dX9_whatIs_42 (by decide) rfl ?_
        refine ziconst (v := 0) dX9_whatIs_44 (by decide) ?_
        refine zistore dX9_whatIs_45 (by decide) rfl ?_
        refine zlvs (lv' := [(0, .ref (zad x 0)), (1, .int (nI i)), (2, .int (nI 0)), (3, .int (nI f)), (4, .int 0), (5, .int (nI 0))]) ⟨rfl, rfl, rfl, rfl, rfl, rfl, trivial⟩ ?_
        exact zZ_mono (l_X9_whatIs0 hW hi hf _ 6 0 S 0 (by omega) hR rfl) (fun q U h => by obtain ⟨v, g1, g2, g3⟩ := h; exact ⟨v, g1, qM_ok he (by rw [g2, nI_clamp (n := i) (by omega)]; unfold wiA; rw [if_neg (by rw [h4]; exact nI_ne9 (by omega)), h4, nI_clamp (n := f) (by omega)]; rfl) g3⟩)
      · refine zaload_n dX9_whatIs_0 rfl ?_
        refine ziload_n dX9_whatIs_1 rfl ?_
        refine zcVf ob_Mo gk_X9_48 dX9_whatIs_2 (c_X9_isOne hM) rfl (by decide) (Nat.le_of_ble_eq_true rfl) ?_ rfl
        refine zifb_ne (tgt := 14) dX9_whatIs_5 (by decide) (fun _ => ?_) (fun h => absurd (h.symm.trans h1p) (by decide))
        refine ziload_n dX9_whatIs_14 rfl ?_
        refine ziconst (v := 0) dX9_whatIs_15 (by decide) ?_
        refine ziconst (v := 1) dX9_whatIs_16 (by decide) ?_
        refine zcSf  gk_X9_44 dX9_whatIs_17 c_isIn_1 rfl (by decide) (Nat.le_of_ble_eq_true rfl) ?_ rfl
        refine zifb_ne (tgt := 30) dX9_whatIs_20 (by decide) (fun _ => ?_) (fun h => absurd (h.symm.trans (decide_eq_true h2w)) (by decide))
        refine zaload_n dX9_whatIs_30 rfl ?_
        refine gf_X9_9 rfl dX9_whatIs_31 ?_
        refine ziload_n dX9_whatIs_34 rfl ?_
        refine ziconst (v := nI 3) dX9_whatIs_35 (by decide) ?_
        refine zcSf gk_X9_52 dX9_whatIs_36 (c_X9_of (j := 3)) rfl (by decide) (Nat.le_of_ble_eq_true rfl) ?_ rfl
        refine zialM (k := 1) (j := 3) (w := 4) dX9_whatIs_39 hr1 hM rfl (by decide) (by omega) ?_
        rw [h4]
        refine zistore_n dX9_whatIs_40 (by decide) rfl ?_
        refine ziconst (v := 0) dX9_whatIs_41 (by decide) ?_
        refine zistore dX9_whatIs_42 (by decide) rfl ?_
        refine ziconst (v := 0) dX9_whatIs_44 (by decide) ?_
        refine zistore dX9_whatIs_45 (by decide) rfl ?_
        refine zlvs (lv' := [(0, .ref (zad x 0)), (1, .int (nI i)), (2, .int (nI 1)), (3, .int (nI f)), (4, .int 0), (5, .int (nI 0))]) ⟨rfl, rfl, rfl, rfl, rfl, rfl, trivial⟩ ?_
        exact zZ_mono (l_X9_whatIs1 hW hi hf _ 10 0 S 0 (by omega) hR rfl) (fun q U h => by obtain ⟨v, g1, g2, g3⟩ := h; exact ⟨v, g1, qM_ok he (by rw [g2, nI_clamp (n := i) (by omega)]; unfold wiA; rw [if_neg (by rw [h4]; exact nI_ne9 (by omega)), h4, nI_clamp (n := f) (by omega)]; rfl) g3⟩)
  · refine zaload_n dX9_whatIs_0 rfl ?_
    refine ziload_n dX9_whatIs_1 rfl ?_
    refine zcVf ob_Mo gk_X9_48 dX9_whatIs_2 (c_X9_isOne hM) rfl (by decide) (Nat.le_of_ble_eq_true rfl) ?_ rfl
    refine zifb_ne (tgt := 14) dX9_whatIs_5 (by decide) (fun h5 => ?_) (fun h5 => ?_)
    · refine ziload_n dX9_whatIs_14 rfl ?_
      refine ziconst (v := 0) dX9_whatIs_15 (by decide) ?_
      refine ziconst (v := 1) dX9_whatIs_16 (by decide) ?_
      refine zcSf  gk_X9_44 dX9_whatIs_17 c_isIn_1 rfl (by decide) (Nat.le_of_ble_eq_true rfl) ?_ rfl
      refine zifb_ne (tgt := 30) dX9_whatIs_20 (by decide) (fun h20 => ?_) (fun h20 => ?_)
      · exact absurd (show fO (pF (sN σ) p) (whF w 2) = 0 by rw [pF_yes h5, of_decide_eq_true h20]; rfl) he
      · refine zaload_n dX9_whatIs_23 rfl ?_
        refine zbipush (v := -2) dX9_whatIs_24 (by decide) ?_
        refine zcVf ob_Mo gk_X9_38 dX9_whatIs_26 (c_X9_no isE_2) rfl (by decide) (Nat.le_of_ble_eq_true rfl) ?_ rfl
        exact zireturn dX9_whatIs_29 rfl rfl ⟨_, rfl, qM_no (by rw [pF_yes h5, whF_2 (of_decide_eq_false h20)]; rfl) isE_2 hR⟩
    · refine zaload_n dX9_whatIs_8 rfl ?_
      refine ziconst (v := -1) dX9_whatIs_9 (by decide) ?_
      refine zcVf ob_Mo gk_X9_38 dX9_whatIs_10 (c_X9_no isE_1) rfl (by decide) (Nat.le_of_ble_eq_true rfl) ?_ rfl
      exact zireturn dX9_whatIs_13 rfl rfl ⟨_, rfl, qM_no (by rw [pF_1 h5, fO_1]) isE_1 hR⟩
end WHO
