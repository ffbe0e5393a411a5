/-! The public methods, eighth part: lend, take, keep -/
section PUB8
variable {x : zCx} {S : zSt} {σ σ' : Sig}
def bpF (can : Nat → Bool) (val : Nat → Int32) : Nat → Nat → Int32 → Int32 → Int32
  | 0, _, b, _ => b
  | k + 1, i, b, m => if can i = true ∧ m < val i then bpF can val k (i + 1) (nI i) (val i) else bpF can val k (i + 1) b m
def wth (T : Tw) (p : Nat) : Int32 := T 5 p - T 6 p
def allW (n : Nat) (T : Tw) : Int32 := sF (T 5) n 0 0 - sF (T 6) n 0 0
theorem sF_sub (f g : Nat → Int32) : ∀ (k i : Nat) (a c : Int32), sF (fun p => f p - g p) k i (a - c) = sF f k i a - sF g k i c := by
  intro k
  induction k with
  | zero => intro i a c; rfl
  | succ k ih =>
    intro i a c
    show sF _ k (i + 1) (a - c + (f i - g i)) = sF f k (i + 1) (a + f i) - sF g k (i + 1) (c + g i)
    rw [← ih (i + 1) (a + f i) (c + g i)]
    congr 1
    grind
theorem allW_eq (n : Nat) (T : Tw) : sF (fun p => T 5 p - T 6 p) n 0 0 = allW n T := by
  have := sF_sub (T 5) (T 6) n 0 0 0
  rw [Int32.sub_zero] at this
  exact this
def canB (T : Tw) (a c : Nat) : Bool := decide (¬ a = c ∧ T 4 a = nI a ∧ T 4 c = nI c)
theorem canB_comm (T : Tw) (a c : Nat) : canB T a c = canB T c a := by
  unfold canB
  congr 1
  apply propext
  exact ⟨fun h => ⟨fun z => h.1 z.symm, h.2.2, h.2.1⟩, fun h => ⟨fun z => h.1 z.symm, h.2.2, h.2.1⟩⟩
theorem WFT.handB {n a c : Nat} {T : Tw} (h : WFT n T) (ha : a < n) (hc : c < n) (hb : canB T a c = true) : WFT n (handT T a c) := by
  obtain ⟨h1, h2, h3⟩ := of_decide_eq_true hb
  exact h.hand ha hc h1 h2 h3

set_option maxRecDepth 100000 in
set_option maxHeartbeats 4000000 in
theorem c_X8_thinkOfLending {n K a c : Nat} {T : Tw} (hT : isT S 0 n T) (hV : VW n (handT T a c)) (ha : a < n) (hc : c < n) (hK : K < 2 ^ 31) : zV x true mX8_thinkOfLending [.ref (zad x 0), .int (nI a), .int (nI c), .int (nI K)] S (fun S' => isT S' 1 n (monthsT n K (handT T a c)) ∧ frT 1 S S') := by
  have hn8 := hT.2.1
  refine zC_of (by decide +kernel) (Nat.le_of_ble_eq_true rfl) ?_
  refine zaload_n dX8_thinkOfLending_0 rfl ?_
  refine gf_X8_36 rfl dX8_thinkOfLending_1 ?_
  refine zaload_n dX8_thinkOfLending_4 rfl ?_
  refine gf_X8_30 rfl dX8_thinkOfLending_5 ?_
  refine zcVn (ob_town (t := 1) (by decide)) gk_X8_88 dX8_thinkOfLending_8 (c_X7_becomeLike (t := 1) (u := 0) (by decide) (by decide) (by decide) hT) rfl (by decide) (Nat.le_of_ble_eq_true rfl) (fun S2 hp2 => ?_) rfl
  obtain ⟨hT2, -, hf2⟩ := hp2
  refine zaload_n dX8_thinkOfLending_11 rfl ?_
  refine gf_X8_36 rfl dX8_thinkOfLending_12 ?_
  refine ziload_n dX8_thinkOfLending_15 rfl ?_
  refine ziload_n dX8_thinkOfLending_16 rfl ?_
  refine zcVv (ob_town (t := 1) (by decide)) gk_X8_134 dX8_thinkOfLending_17 (c_X7_handOver (t := 1) (by decide) hT2 ha hc) rfl (by decide) (Nat.le_of_ble_eq_true rfl) ?_ rfl
  have hT3 := isT_hand (p := a) (q := c) hT2
  refine zaload_n dX8_thinkOfLending_20 rfl ?_
  refine gf_X8_36 rfl dX8_thinkOfLending_21 ?_
  refine ziload_n dX8_thinkOfLending_24 rfl ?_
  refine zcVn (ob_town (t := 1) (by decide)) gk_X8_166 dX8_thinkOfLending_25 (c_X7_goOn (t := 1) (by decide) hT3 hV (K := K) hK) rfl (by decide) (Nat.le_of_ble_eq_true rfl) (fun S4 hp4 => ?_) rfl
  obtain ⟨hT4, -, -, hf4⟩ := hp4
  exact zreturn dX8_thinkOfLending_28 rfl ⟨rfl, hT4, (fr_hand hf2).trans hf4⟩
set_option maxRecDepth 100000 in
set_option maxHeartbeats 4000000 in
theorem l_X8_bestL (hW : WS σ) {p K : Nat} {s : Int32} (hp : p < sN σ) (hK : K < 2 ^ 31) (r : Int32) : ∀ (k i : Nat) (S : zSt) (b m : Int32), i + k = sN σ → RepC σ S → bpF (canB (sT σ) p) (fun b => s * wth (monthsT (sN σ) K (handT (sT σ) p b)) p) k i b m = r → zZ x true mX8_bestPartner (fun q U => ∃ v : Int32, q = some (.int v) ∧ v = r ∧ RepC σ U) 25 [(0, .ref (zad x 0)), (1, .int (nI p)), (2, .int (nI K)), (3, .int (bI true)), (4, .int s), (5, .int m), (6, .int b), (7, .int (nI i))] [] S := by
  intro k
  induction k with
  | zero =>
    intro i S b m hi hR hr
    have hT := hR.1
    have hn8 : sN σ ≤ 8 := hT.2.1
    refine ziload dX8_bestPartner_25 rfl ?_
    refine zaload_n dX8_bestPartner_27 rfl ?_
    refine gf_X8_30 rfl dX8_bestPartner_28 ?_
    refine gf_X8_192 (t := 0) (by decide) rfl dX8_bestPartner_31 ?_
    rw [hT.1]
    refine zicmp_ge (tgt := 109) dX8_bestPartner_34 (by decide) (fun _ => ?_) (fun h => absurd (nI_le (by omega) (by omega)) h)
    refine ziload dX8_bestPartner_109 rfl ?_
    exact zireturn dX8_bestPartner_111 rfl rfl ⟨_, rfl, hr, hR⟩
  | succ k ih =>
    intro i S b m hi hR hr
    have hT := hR.1
    have hn8 : sN σ ≤ 8 := hT.2.1
    rw [bpF] at hr
    by_cases hc : canB (sT σ) p i = true
    · by_cases hg : m < s * wth (monthsT (sN σ) K (handT (sT σ) p i)) p
      · rw [if_pos ⟨hc, hg⟩] at hr
        refine ziload dX8_bestPartner_25 rfl ?_
        refine zaload_n dX8_bestPartner_27 rfl ?_
        refine gf_X8_30 rfl dX8_bestPartner_28 ?_
        refine gf_X8_192 (t := 0) (by decide) rfl dX8_bestPartner_31 ?_
        rw [hT.1]
        refine zicmp_ge (tgt := 109) dX8_bestPartner_34 (by decide) (fun h => absurd h (nI_ge (by omega) (by omega))) (fun _ => ?_)
        refine zaload_n dX8_bestPartner_37 rfl ?_
        refine gf_X8_30 rfl dX8_bestPartner_38 ?_
        refine ziload_n dX8_bestPartner_41 rfl ?_
        refine ziload dX8_bestPartner_42 rfl ?_
        refine zcVf (ob_town (t := 0) (by decide)) gk_X8_130 dX8_bestPartner_44 (show zF x true mX7_canLend _ S (some (.int (bI (canB (sT σ) p i)))) S from c_X7_canLend (by decide) hT hp (by omega)) rfl (by decide) (Nat.le_of_ble_eq_true rfl) ?_ rfl
        refine zifb_eq (tgt := 103) dX8_bestPartner_47 (by decide) (fun h => absurd (h.symm.trans hc) (by decide)) (fun _ => ?_)
        refine zaload_n dX8_bestPartner_50 rfl ?_
        refine ziload_n dX8_bestPartner_51 rfl ?_
        refine zifb_eq (tgt := 59) dX8_bestPartner_52 (by decide) (fun h => absurd (h.symm.trans rfl) (by decide)) (fun _ => ?_)
        refine ziload_n dX8_bestPartner_55 rfl ?_
        refine zgoto (tgt := 61) dX8_bestPartner_56 (by decide) ?_
        refine ziload_n dX8_bestPartner_61 rfl ?_
        refine zifb_eq (tgt := 70) dX8_bestPartner_62 (by decide) (fun h => absurd (h.symm.trans rfl) (by decide)) (fun _ => ?_)
        refine ziload dX8_bestPartner_65 rfl ?_
        refine zgoto (tgt := 71) dX8_bestPartner_67 (by decide) ?_
        refine ziload_n dX8_bestPartner_71 rfl ?_
        refine zcVn ob_X gk_X8_214 dX8_bestPartner_72 (c_X8_thinkOfLending (a := p) (c := i) hT (hW.1.handB (by omega) (by omega) hc).vw (by omega) (by omega) hK) rfl (by decide) (Nat.le_of_ble_eq_true rfl) (fun S2 hp2 => ?_) rfl
        obtain ⟨hT2, hf2⟩ := hp2
        have hR2 := hR.mind hf2
        refine ziload dX8_bestPartner_75 rfl ?_
        refine zaload_n dX8_bestPartner_77 rfl ?_
        refine gf_X8_36 rfl dX8_bestPartner_78 ?_
        refine ziload_n dX8_bestPartner_81 rfl ?_
        refine zcVf (ob_town (t := 1) (by decide)) gk_X8_124 dX8_bestPartner_82 (c_X7_worthOf (t := 1) (by decide) hT2 hp) rfl (by decide) (Nat.le_of_ble_eq_true rfl) ?_ rfl
        refine zimul dX8_bestPartner_85 ?_
        refine zistore dX8_bestPartner_86 (by decide) rfl ?_
        refine ziload dX8_bestPartner_88 rfl ?_
        refine ziload dX8_bestPartner_90 rfl ?_
        refine zicmp_le (tgt := 103) dX8_bestPartner_92 (by decide) (fun h => absurd h (Int32.not_le.mpr hg)) (fun _ => ?_)
        refine ziload dX8_bestPartner_95 rfl ?_
        refine zistore dX8_bestPartner_97 (by decide) rfl ?_
        refine ziload dX8_bestPartner_99 rfl ?_
        refine zistore dX8_bestPartner_101 (by decide) rfl ?_
        refine ziinc dX8_bestPartner_103 rfl rfl (by decide) rfl ?_
        refine zgoto (tgt := 25) dX8_bestPartner_106 (by decide) ?_
        refine zlvs (lv' := [(0, .ref (zad x 0)), (1, .int (nI p)), (2, .int (nI K)), (3, .int (bI true)), (4, .int s), (5, .int _), (6, .int _), (7, .int (nI (i + 1)))]) ⟨rfl, rfl, rfl, rfl, rfl, rfl, rfl, by rw [nI_succ i]; rfl, trivial⟩ ?_
        exact ih (i + 1) S2 _ _ (by omega) hR2 hr
      · rw [if_neg (fun z => hg z.2)] at hr
        refine ziload dX8_bestPartner_25 rfl ?_
        refine zaload_n dX8_bestPartner_27 rfl ?_
        refine gf_X8_30 rfl dX8_bestPartner_28 ?_
        refine gf_X8_192 (t := 0) (by decide) rfl dX8_bestPartner_31 ?_
        rw [hT.1]
        refine zicmp_ge (tgt := 109) dX8_bestPartner_34 (by decide) (fun h => absurd h (nI_ge (by omega) (by omega))) (fun _ => ?_)
        refine zaload_n dX8_bestPartner_37 rfl ?_
        refine gf_X8_30 rfl dX8_bestPartner_38 ?_
        refine ziload_n dX8_bestPartner_41 rfl ?_
        refine ziload dX8_bestPartner_42 rfl ?_
        refine zcVf (ob_town (t := 0) (by decide)) gk_X8_130 dX8_bestPartner_44 (show zF x true mX7_canLend _ S (some (.int (bI (canB (sT σ) p i)))) S from c_X7_canLend (by decide) hT hp (by omega)) rfl (by decide) (Nat.le_of_ble_eq_true rfl) ?_ rfl
        refine zifb_eq (tgt := 103) dX8_bestPartner_47 (by decide) (fun h => absurd (h.symm.trans hc) (by decide)) (fun _ => ?_)
        refine zaload_n dX8_bestPartner_50 rfl ?_
        refine ziload_n dX8_bestPartner_51 rfl ?_
        refine zifb_eq (tgt := 59) dX8_bestPartner_52 (by decide) (fun h => absurd (h.symm.trans rfl) (by decide)) (fun _ => ?_)
        refine ziload_n dX8_bestPartner_55 rfl ?_
        refine zgoto (tgt := 61) dX8_bestPartner_56 (by decide) ?_
        refine ziload_n dX8_bestPartner_61 rfl ?_
        refine zifb_eq (tgt := 70) dX8_bestPartner_62 (by decide) (fun h => absurd (h.symm.trans rfl) (by decide)) (fun _ => ?_)
        refine ziload dX8_bestPartner_65 rfl ?_
        refine zgoto (tgt := 71) dX8_bestPartner_67 (by decide) ?_
        refine ziload_n dX8_bestPartner_71 rfl ?_
        refine zcVn ob_X gk_X8_214 dX8_bestPartner_72 (c_X8_thinkOfLending (a := p) (c := i) hT (hW.1.handB (by omega) (by omega) hc).vw (by omega) (by omega) hK) rfl (by decide) (Nat.le_of_ble_eq_true rfl) (fun S2 hp2 => ?_) rfl
        obtain ⟨hT2, hf2⟩ := hp2
        have hR2 := hR.mind hf2
        refine ziload dX8_bestPartner_75 rfl ?_
        refine zaload_n dX8_bestPartner_77 rfl ?_
        refine gf_X8_36 rfl dX8_bestPartner_78 ?_
        refine ziload_n dX8_bestPartner_81 rfl ?_
        refine zcVf (ob_town (t := 1) (by decide)) gk_X8_124 dX8_bestPartner_82 (c_X7_worthOf (t := 1) (by decide) hT2 hp) rfl (by decide) (Nat.le_of_ble_eq_true rfl) ?_ rfl
        refine zimul dX8_bestPartner_85 ?_
        refine zistore dX8_bestPartner_86 (by decide) rfl ?_
        refine ziload dX8_bestPartner_88 rfl ?_
        refine ziload dX8_bestPartner_90 rfl ?_
        refine zicmp_le (tgt := 103) dX8_bestPartner_92 (by decide) (fun _ => ?_) (fun h => absurd (Int32.not_lt.mp hg) h)
        refine ziinc dX8_bestPartner_103 rfl rfl (by decide) rfl ?_
        refine zgoto (tgt := 25) dX8_bestPartner_106 (by decide) ?_
        refine zlvs (lv' := [(0, .ref (zad x 0)), (1, .int (nI p)), (2, .int (nI K)), (3, .int (bI true)), (4, .int s), (5, .int _), (6, .int _), (7, .int (nI (i + 1)))]) ⟨rfl, rfl, rfl, rfl, rfl, rfl, rfl, by rw [nI_succ i]; rfl, trivial⟩ ?_
        exact ih (i + 1) S2 _ _ (by omega) hR2 hr
    · rw [if_neg (fun z => hc z.1)] at hr
      have hc2 : canB (sT σ) p i = false := by cases h : canB (sT σ) p i; rfl; exact absurd h hc
      refine ziload dX8_bestPartner_25 rfl ?_
      refine zaload_n dX8_bestPartner_27 rfl ?_
      refine gf_X8_30 rfl dX8_bestPartner_28 ?_
      refine gf_X8_192 (t := 0) (by decide) rfl dX8_bestPartner_31 ?_
      rw [hT.1]
      refine zicmp_ge (tgt := 109) dX8_bestPartner_34 (by decide) (fun h => absurd h (nI_ge (by omega) (by omega))) (fun _ => ?_)
      refine zaload_n dX8_bestPartner_37 rfl ?_
      refine gf_X8_30 rfl dX8_bestPartner_38 ?_
      refine ziload_n dX8_bestPartner_41 rfl ?_
      refine ziload dX8_bestPartner_42 rfl ?_
      refine zcVf (ob_town (t := 0) (by decide)) gk_X8_130 dX8_bestPartner_44 (show zF x true mX7_canLend _ S (some (.int (bI (canB (sT σ) p i)))) S from c_X7_canLend (by decide) hT hp (by omega)) rfl (by decide) (Nat.le_of_ble_eq_true rfl) ?_ rfl
      refine zifb_eq (tgt := 103) dX8_bestPartner_47 (by decide) (fun _ => ?_) (fun h => absurd (h.symm.trans hc2) (by decide))
      refine ziinc dX8_bestPartner_103 rfl rfl (by decide) rfl ?_
      refine zgoto (tgt := 25) dX8_bestPartner_106 (by decide) ?_
      refine zlvs (lv' := [(0, .ref (zad x 0)), (1, .int (nI p)), (2, .int (nI K)), (3, .int (bI true)), (4, .int s), (5, .int _), (6, .int _), (7, .int (nI (i + 1)))]) ⟨rfl, rfl, rfl, rfl, rfl, rfl, rfl, by rw [nI_succ i]; rfl, trivial⟩ ?_
      exact ih (i + 1) S _ _ (by omega) hR hr
set_option maxRecDepth 100000 in
set_option maxHeartbeats 4000000 in
theorem c_X8_bestL (hR : RepC σ S) (hW : WS σ) {p K : Nat} {s : Int32} (hp : p < sN σ) (hK : K < 2 ^ 31) : zR x true mX8_bestPartner [.ref (zad x 0), .int (nI p), .int (nI K), .int (bI true), .int s] S (fun r S' => r = bpF (canB (sT σ) p) (fun b => s * wth (monthsT (sN σ) K (handT (sT σ) p b)) p) (sN σ) 0 (-9) (s * wth (monthsT (sN σ) K (sT σ)) p) ∧ RepC σ S') := by
  have hT := hR.1
  have hn8 : sN σ ≤ 8 := hT.2.1
  refine zC_of (by decide +kernel) (Nat.le_of_ble_eq_true rfl) ?_
  refine zaload_n dX8_bestPartner_0 rfl ?_
  refine ziload_n dX8_bestPartner_1 rfl ?_
  refine zcVn ob_X gk_X8_170 dX8_bestPartner_2 (c_X8_think hT hW.1.vw hK) rfl (by decide) (Nat.le_of_ble_eq_true rfl) (fun S2 hp2 => ?_) rfl
  obtain ⟨hT2, hf2⟩ := hp2
  refine ziload dX8_bestPartner_5 rfl ?_
  refine zaload_n dX8_bestPartner_7 rfl ?_
  refine gf_X8_36 rfl dX8_bestPartner_8 ?_
  refine ziload_n dX8_bestPartner_11 rfl ?_
  refine zcVf (ob_town (t := 1) (by decide)) gk_X8_124 dX8_bestPartner_12 (c_X7_worthOf (t := 1) (by decide) hT2 hp) rfl (by decide) (Nat.le_of_ble_eq_true rfl) ?_ rfl
  refine zimul dX8_bestPartner_15 ?_
  refine zistore dX8_bestPartner_16 (by decide) rfl ?_
  refine zbipush (v := -9) dX8_bestPartner_18 (by decide) ?_
  refine zistore dX8_bestPartner_20 (by decide) rfl ?_
  refine ziconst (v := 0) dX8_bestPartner_22 (by decide) ?_
  refine zistore dX8_bestPartner_23 (by decide) rfl ?_
  refine zlvs (lv' := [(0, .ref (zad x 0)), (1, .int (nI p)), (2, .int (nI K)), (3, .int (bI true)), (4, .int s), (5, .int _), (6, .int (-9)), (7, .int (nI 0))]) ⟨rfl, rfl, rfl, rfl, rfl, rfl, rfl, rfl, trivial⟩ ?_
  exact l_X8_bestL hW hp hK _ (sN σ) 0 S2 _ _ (by omega) (hR.mind hf2) rfl
set_option maxRecDepth 100000 in
set_option maxHeartbeats 4000000 in
theorem l_X8_bestT (hW : WS σ) {p K : Nat} {s : Int32} (hp : p < sN σ) (hK : K < 2 ^ 31) (r : Int32) : ∀ (k i : Nat) (S : zSt) (b m : Int32), i + k = sN σ → RepC σ S → bpF (canB (sT σ) p) (fun b => s * wth (monthsT (sN σ) K (handT (sT σ) b p)) p) k i b m = r → zZ x true mX8_bestPartner (fun q U => ∃ v : Int32, q = some (.int v) ∧ v = r ∧ RepC σ U) 25 [(0, .ref (zad x 0)), (1, .int (nI p)), (2, .int (nI K)), (3, .int (bI false)), (4, .int s), (5, .int m), (6, .int b), (7, .int (nI i))] [] S := by
  intro k
  induction k with
  | zero =>
    intro i S b m hi hR hr
    have hT := hR.1
    have hn8 : sN σ ≤ 8 := hT.2.1
    refine ziload dX8_bestPartner_25 rfl ?_
    refine zaload_n dX8_bestPartner_27 rfl ?_
    refine gf_X8_30 rfl dX8_bestPartner_28 ?_
    refine gf_X8_192 (t := 0) (by decide) rfl dX8_bestPartner_31 ?_
    rw [hT.1]
    refine zicmp_ge (tgt := 109) dX8_bestPartner_34 (by decide) (fun _ => ?_) (fun h => absurd (nI_le (by omega) (by omega)) h)
    refine ziload dX8_bestPartner_109 rfl ?_
    exact zireturn dX8_bestPartner_111 rfl rfl ⟨_, rfl, hr, hR⟩
  | succ k ih =>
    intro i S b m hi hR hr
    have hT := hR.1
    have hn8 : sN σ ≤ 8 := hT.2.1
    rw [bpF] at hr
    by_cases hc : canB (sT σ) p i = true
    · by_cases hg : m < s * wth (monthsT (sN σ) K (handT (sT σ) i p)) p
      · rw [if_pos ⟨hc, hg⟩] at hr
        refine ziload dX8_bestPartner_25 rfl ?_
        refine zaload_n dX8_bestPartner_27 rfl ?_
        refine gf_X8_30 rfl dX8_bestPartner_28 ?_
        refine gf_X8_192 (t := 0) (by decide) rfl dX8_bestPartner_31 ?_
        rw [hT.1]
        refine zicmp_ge (tgt := 109) dX8_bestPartner_34 (by decide) (fun h => absurd h (nI_ge (by omega) (by omega))) (fun _ => ?_)
        refine zaload_n dX8_bestPartner_37 rfl ?_
        refine gf_X8_30 rfl dX8_bestPartner_38 ?_
        refine ziload_n dX8_bestPartner_41 rfl ?_
        refine ziload dX8_bestPartner_42 rfl ?_
        refine zcVf (ob_town (t := 0) (by decide)) gk_X8_130 dX8_bestPartner_44 (show zF x true mX7_canLend _ S (some (.int (bI (canB (sT σ) p i)))) S from c_X7_canLend (by decide) hT hp (by omega)) rfl (by decide) (Nat.le_of_ble_eq_true rfl) ?_ rfl
        refine zifb_eq (tgt := 103) dX8_bestPartner_47 (by decide) (fun h => absurd (h.symm.trans hc) (by decide)) (fun _ => ?_)
        refine zaload_n dX8_bestPartner_50 rfl ?_
        refine ziload_n dX8_bestPartner_51 rfl ?_
        refine zifb_eq (tgt := 59) dX8_bestPartner_52 (by decide) (fun _ => ?_) (fun h => absurd (h.symm.trans rfl) (by decide))
        refine ziload dX8_bestPartner_59 rfl ?_
        refine ziload_n dX8_bestPartner_61 rfl ?_
        refine zifb_eq (tgt := 70) dX8_bestPartner_62 (by decide) (fun _ => ?_) (fun h => absurd (h.symm.trans rfl) (by decide))
        refine ziload_n dX8_bestPartner_70 rfl ?_
        refine ziload_n dX8_bestPartner_71 rfl ?_
        refine zcVn ob_X gk_X8_214 dX8_bestPartner_72 (c_X8_thinkOfLending (a := i) (c := p) hT (hW.1.handB (by omega) (by omega) (by rw [canB_comm]; exact hc)).vw (by omega) (by omega) hK) rfl (by decide) (Nat.le_of_ble_eq_true rfl) (fun S2 hp2 => ?_) rfl
        obtain ⟨hT2, hf2⟩ := hp2
        have hR2 := hR.mind hf2
        refine ziload dX8_bestPartner_75 rfl ?_
        refine zaload_n dX8_bestPartner_77 rfl ?_
        refine gf_X8_36 rfl dX8_bestPartner_78 ?_
        refine ziload_n dX8_bestPartner_81 rfl ?_
        refine zcVf (ob_town (t := 1) (by decide)) gk_X8_124 dX8_bestPartner_82 (c_X7_worthOf (t := 1) (by decide) hT2 hp) rfl (by decide) (Nat.le_of_ble_eq_true rfl) ?_ rfl
        refine zimul dX8_bestPartner_85 ?_
        refine zistore dX8_bestPartner_86 (by decide) rfl ?_
        refine ziload dX8_bestPartner_88 rfl ?_
        refine ziload dX8_bestPartner_90 rfl ?_
        refine zicmp_le (tgt := 103) dX8_bestPartner_92 (by decide) (fun h => absurd h (Int32.not_le.mpr hg)) (fun _ => ?_)
        refine ziload dX8_bestPartner_95 rfl ?_
        refine zistore dX8_bestPartner_97 (by decide) rfl ?_
        refine ziload dX8_bestPartner_99 rfl ?_
        refine zistore dX8_bestPartner_101 (by decide) rfl ?_
        refine ziinc dX8_bestPartner_103 rfl rfl (by decide) rfl ?_
        refine zgoto (tgt := 25) dX8_bestPartner_106 (by decide) ?_
        refine zlvs (lv' := [(0, .ref (zad x 0)), (1, .int (nI p)), (2, .int (nI K)), (3, .int (bI false)), (4, .int s), (5, .int _), (6, .int _), (7, .int (nI (i + 1)))]) ⟨rfl, rfl, rfl, rfl, rfl, rfl, rfl, by rw [nI_succ i]; rfl, trivial⟩ ?_
        exact ih (i + 1) S2 _ _ (by omega) hR2 hr
      · rw [if_neg (fun z => hg z.2)] at hr
        refine ziload dX8_bestPartner_25 rfl ?_
        refine zaload_n dX8_bestPartner_27 rfl ?_
        refine gf_X8_30 rfl dX8_bestPartner_28 ?_
        refine gf_X8_192 (t := 0) (by decide) rfl dX8_bestPartner_31 ?_
        rw [hT.1]
        refine zicmp_ge (tgt := 109) dX8_bestPartner_34 (by decide) (fun h => absurd h (nI_ge (by omega) (by omega))) (fun _ => ?_)
        refine zaload_n dX8_bestPartner_37 rfl ?_
        refine gf_X8_30 rfl dX8_bestPartner_38 ?_
        refine ziload_n dX8_bestPartner_41 rfl ?_
        refine ziload dX8_bestPartner_42 rfl ?_
        refine zcVf (ob_town (t := 0) (by decide)) gk_X8_130 dX8_bestPartner_44 (show zF x true mX7_canLend _ S (some (.int (bI (canB (sT σ) p i)))) S from c_X7_canLend (by decide) hT hp (by omega)) rfl (by decide) (Nat.le_of_ble_eq_true rfl) ?_ rfl
        refine zifb_eq (tgt := 103) dX8_bestPartner_47 (by decide) (fun h => absurd (h.symm.trans hc) (by decide)) (fun _ => ?_)
        refine zaload_n dX8_bestPartner_50 rfl ?_
        refine ziload_n dX8_bestPartner_51 rfl ?_
        refine zifb_eq (tgt := 59) dX8_bestPartner_52 (by decide) (fun _ => ?_) (fun h => absurd (h.symm.trans rfl) (by decide))
        refine ziload dX8_bestPartner_59 rfl ?_
        refine ziload_n dX8_bestPartner_61 rfl ?_
        refine zifb_eq (tgt := 70) dX8_bestPartner_62 (by decide) (fun _ => ?_) (fun h => absurd (h.symm.trans rfl) (by decide))
        refine ziload_n dX8_bestPartner_70 rfl ?_
        refine ziload_n dX8_bestPartner_71 rfl ?_
        refine zcVn ob_X gk_X8_214 dX8_bestPartner_72 (c_X8_thinkOfLending (a := i) (c := p) hT (hW.1.handB (by omega) (by omega) (by rw [canB_comm]; exact hc)).vw (by omega) (by omega) hK) rfl (by decide) (Nat.le_of_ble_eq_true rfl) (fun S2 hp2 => ?_) rfl
        obtain ⟨hT2, hf2⟩ := hp2
        have hR2 := hR.mind hf2
        refine ziload dX8_bestPartner_75 rfl ?_
        refine zaload_n dX8_bestPartner_77 rfl ?_
        refine gf_X8_36 rfl dX8_bestPartner_78 ?_
        refine ziload_n dX8_bestPartner_81 rfl ?_
        refine zcVf (ob_town (t := 1) (by decide)) gk_X8_124 dX8_bestPartner_82 (c_X7_worthOf (t := 1) (by decide) hT2 hp) rfl (by decide) (Nat.le_of_ble_eq_true rfl) ?_ rfl
        refine zimul dX8_bestPartner_85 ?_
        refine zistore dX8_bestPartner_86 (by decide) rfl ?_
        refine ziload dX8_bestPartner_88 rfl ?_
        refine ziload dX8_bestPartner_90 rfl ?_
        refine zicmp_le (tgt := 103) dX8_bestPartner_92 (by decide) (fun _ => ?_) (fun h => absurd (Int32.not_lt.mp hg) h)
        refine ziinc dX8_bestPartner_103 rfl rfl (by decide) rfl ?_
        refine zgoto (tgt := 25) dX8_bestPartner_106 (by decide) ?_
        refine zlvs (lv' := [(0, .ref (zad x 0)), (1, .int (nI p)), (2, .int (nI K)), (3, .int (bI false)), (4, .int s), (5, .int _), (6, .int _), (7, .int (nI (i + 1)))]) ⟨rfl, rfl, rfl, rfl, rfl, rfl, rfl, by rw [nI_succ i]; rfl, trivial⟩ ?_
        exact ih (i + 1) S2 _ _ (by omega) hR2 hr
    · rw [if_neg (fun z => hc z.1)] at hr
      have hc2 : canB (sT σ) p i = false := by cases h : canB (sT σ) p i; rfl; exact absurd h hc
      refine ziload dX8_bestPartner_25 rfl ?_
      refine zaload_n dX8_bestPartner_27 rfl ?_
      refine gf_X8_30 rfl dX8_bestPartner_28 ?_
      refine gf_X8_192 (t := 0) (by decide) rfl dX8_bestPartner_31 ?_
      rw [hT.1]
      refine zicmp_ge (tgt := 109) dX8_bestPartner_34 (by decide) (fun h => absurd h (nI_ge (by omega) (by omega))) (fun _ => ?_)
      refine zaload_n dX8_bestPartner_37 rfl ?_
      refine gf_X8_30 rfl dX8_bestPartner_38 ?_
      refine ziload_n dX8_bestPartner_41 rfl ?_
      refine ziload dX8_bestPartner_42 rfl ?_
      refine zcVf (ob_town (t := 0) (by decide)) gk_X8_130 dX8_bestPartner_44 (show zF x true mX7_canLend _ S (some (.int (bI (canB (sT σ) p i)))) S from c_X7_canLend (by decide) hT hp (by omega)) rfl (by decide) (Nat.le_of_ble_eq_true rfl) ?_ rfl
      refine zifb_eq (tgt := 103) dX8_bestPartner_47 (by decide) (fun _ => ?_) (fun h => absurd (h.symm.trans hc2) (by decide))
      refine ziinc dX8_bestPartner_103 rfl rfl (by decide) rfl ?_
      refine zgoto (tgt := 25) dX8_bestPartner_106 (by decide) ?_
      refine zlvs (lv' := [(0, .ref (zad x 0)), (1, .int (nI p)), (2, .int (nI K)), (3, .int (bI false)), (4, .int s), (5, .int _), (6, .int _), (7, .int (nI (i + 1)))]) ⟨rfl, rfl, rfl, rfl, rfl, rfl, rfl, by rw [nI_succ i]; rfl, trivial⟩ ?_
      exact ih (i + 1) S _ _ (by omega) hR hr
set_option maxRecDepth 100000 in
set_option maxHeartbeats 4000000 in
theorem c_X8_bestT (hR : RepC σ S) (hW : WS σ) {p K : Nat} {s : Int32} (hp : p < sN σ) (hK : K < 2 ^ 31) : zR x true mX8_bestPartner [.ref (zad x 0), .int (nI p), .int (nI K), .int (bI false), .int s] S (fun r S' => r = bpF (canB (sT σ) p) (fun b => s * wth (monthsT (sN σ) K (handT (sT σ) b p)) p) (sN σ) 0 (-9) (s * wth (monthsT (sN σ) K (sT σ)) p) ∧ RepC σ S') := by
  have hT := hR.1
  have hn8 : sN σ ≤ 8 := hT.2.1
  refine zC_of (by decide +kernel) (Nat.le_of_ble_eq_true rfl) ?_
  refine zaload_n dX8_bestPartner_0 rfl ?_
  refine ziload_n dX8_bestPartner_1 rfl ?_
  refine zcVn ob_X gk_X8_170 dX8_bestPartner_2 (c_X8_think hT hW.1.vw hK) rfl (by decide) (Nat.le_of_ble_eq_true rfl) (fun S2 hp2 => ?_) rfl
  obtain ⟨hT2, hf2⟩ := hp2
  refine ziload dX8_bestPartner_5 rfl ?_
  refine zaload_n dX8_bestPartner_7 rfl ?_
  refine gf_X8_36 rfl dX8_bestPartner_8 ?_
  refine ziload_n dX8_bestPartner_11 rfl ?_
  refine zcVf (ob_town (t := 1) (by decide)) gk_X8_124 dX8_bestPartner_12 (c_X7_worthOf (t := 1) (by decide) hT2 hp) rfl (by decide) (Nat.le_of_ble_eq_true rfl) ?_ rfl
  refine zimul dX8_bestPartner_15 ?_
  refine zistore dX8_bestPartner_16 (by decide) rfl ?_
  refine zbipush (v := -9) dX8_bestPartner_18 (by decide) ?_
  refine zistore dX8_bestPartner_20 (by decide) rfl ?_
  refine ziconst (v := 0) dX8_bestPartner_22 (by decide) ?_
  refine zistore dX8_bestPartner_23 (by decide) rfl ?_
  refine zlvs (lv' := [(0, .ref (zad x 0)), (1, .int (nI p)), (2, .int (nI K)), (3, .int (bI false)), (4, .int s), (5, .int _), (6, .int (-9)), (7, .int (nI 0))]) ⟨rfl, rfl, rfl, rfl, rfl, rfl, rfl, rfl, trivial⟩ ?_
  exact l_X8_bestT hW hp hK _ (sN σ) 0 S2 _ _ (by omega) (hR.mind hf2) rfl
set_option maxRecDepth 100000 in
set_option maxHeartbeats 4000000 in
theorem c_X9_worthBehind {n K p : Nat} {T : Tw} (hM : isM S 2 n T) (hW : MW n T) (hp : p < n) (hK : K < 2 ^ 31) : zR x false mX9_worthBehind [.ref (zad x 0), .int (nI p), .int (nI K)] S (fun r S' => r = wth (monthsT n K T) p ∧ frM 2 S S') := by
  have hn8 := hM.2.1
  refine zC_of (by decide +kernel) (Nat.le_of_ble_eq_true rfl) ?_
  refine zaload_n dX9_worthBehind_0 rfl ?_
  refine gf_X9_13 rfl dX9_worthBehind_1 ?_
  refine ziload_n dX9_worthBehind_4 rfl ?_
  refine zcSn  gk_X9_126 dX9_worthBehind_5 (c_X9_monthsOn hr2 hM hW (K := K) hK) rfl (by decide) (Nat.le_of_ble_eq_true rfl) (fun S3 hp3 => ?_) rfl
  obtain ⟨hM3, -, -, hf3⟩ := hp3
  refine ziload_n dX9_worthBehind_8 rfl ?_
  refine zif_ge (tgt := 22) dX9_worthBehind_9 (by decide) (fun _ => ?_) (fun h => absurd (nI_pos' (by omega)) h)
  refine zaload_n dX9_worthBehind_22 rfl ?_
  refine gf_X9_13 rfl dX9_worthBehind_23 ?_
  refine ziload_n dX9_worthBehind_26 rfl ?_
  refine zcSf  gk_X9_88 dX9_worthBehind_27 (c_X9_worthIn hr2 hM3 hp) rfl (by decide) (Nat.le_of_ble_eq_true rfl) ?_ rfl
  exact zireturn dX9_worthBehind_30 rfl rfl ⟨_, rfl, rfl, hf3⟩
set_option maxRecDepth 100000 in
set_option maxHeartbeats 4000000 in
theorem c_X9_worthBehindA {n K : Nat} {T : Tw} (hM : isM S 2 n T) (hW : MW n T) (hK : K < 2 ^ 31) : zR x false mX9_worthBehind [.ref (zad x 0), .int (-9), .int (nI K)] S (fun r S' => r = allW n (monthsT n K T) ∧ frM 2 S S') := by
  have hn8 := hM.2.1
  refine zC_of (by decide +kernel) (Nat.le_of_ble_eq_true rfl) ?_
  refine zaload_n dX9_worthBehind_0 rfl ?_
  refine gf_X9_13 rfl dX9_worthBehind_1 ?_
  refine ziload_n dX9_worthBehind_4 rfl ?_
  refine zcSn  gk_X9_126 dX9_worthBehind_5 (c_X9_monthsOn hr2 hM hW (K := K) hK) rfl (by decide) (Nat.le_of_ble_eq_true rfl) (fun S3 hp3 => ?_) rfl
  obtain ⟨hM3, -, -, hf3⟩ := hp3
  refine ziload_n dX9_worthBehind_8 rfl ?_
  refine zif_ge (tgt := 22) dX9_worthBehind_9 (by decide) (fun h => absurd h (by decide)) (fun _ => ?_)
  refine zaload_n dX9_worthBehind_12 rfl ?_
  refine gf_X9_13 rfl dX9_worthBehind_13 ?_
  refine zcSf  gk_X9_160 dX9_worthBehind_16 (c_X9_worthAll hr2 hM3) rfl (by decide) (Nat.le_of_ble_eq_true rfl) ?_ rfl
  refine zgoto (tgt := 30) dX9_worthBehind_19 (by decide) ?_
  exact zireturn dX9_worthBehind_30 rfl rfl ⟨_, rfl, allW_eq _ _, hf3⟩
set_option maxRecDepth 100000 in
set_option maxHeartbeats 4000000 in
theorem c_X9_worthNow {n K p : Nat} {T : Tw} (hM : isM S 1 n T) (hW : MW n T) (hp : p < n) (hK : K < 2 ^ 31) : zR x false mX9_worthNow [.ref (zad x 0), .int (nI p), .int (nI K)] S (fun r S' => r = wth (monthsT n K T) p ∧ frM 2 S S') := by
  refine zC_of (by decide +kernel) (Nat.le_of_ble_eq_true rfl) ?_
  refine zaload_n dX9_worthNow_0 rfl ?_
  refine gf_X9_9 rfl dX9_worthNow_1 ?_
  refine zaload_n dX9_worthNow_4 rfl ?_
  refine gf_X9_13 rfl dX9_worthNow_5 ?_
  refine zcSn  gk_X9_133 dX9_worthNow_8 (c_X9_copies hr1 hr2 (by decide) hM) rfl (by decide) (Nat.le_of_ble_eq_true rfl) (fun S2 hp2 => ?_) rfl
  obtain ⟨hM2, -, hf2⟩ := hp2
  refine zaload_n dX9_worthNow_11 rfl ?_
  refine ziload_n dX9_worthNow_12 rfl ?_
  refine ziload_n dX9_worthNow_13 rfl ?_
  refine zcVr ob_Mo gk_X9_163 dX9_worthNow_14 (c_X9_worthBehind hM2 hW hp hK) rfl (by decide) (Nat.le_of_ble_eq_true rfl) (fun r S3 hp3 => ?_) rfl
  obtain ⟨rfl, hf3⟩ := hp3
  exact zireturn dX9_worthNow_17 rfl rfl ⟨_, rfl, rfl, hf2.trans hf3⟩
set_option maxRecDepth 100000 in
set_option maxHeartbeats 4000000 in
theorem c_X9_worthNowA {n K : Nat} {T : Tw} (hM : isM S 1 n T) (hW : MW n T) (hK : K < 2 ^ 31) : zR x false mX9_worthNow [.ref (zad x 0), .int (-9), .int (nI K)] S (fun r S' => r = allW n (monthsT n K T) ∧ frM 2 S S') := by
  refine zC_of (by decide +kernel) (Nat.le_of_ble_eq_true rfl) ?_
  refine zaload_n dX9_worthNow_0 rfl ?_
  refine gf_X9_9 rfl dX9_worthNow_1 ?_
  refine zaload_n dX9_worthNow_4 rfl ?_
  refine gf_X9_13 rfl dX9_worthNow_5 ?_
  refine zcSn  gk_X9_133 dX9_worthNow_8 (c_X9_copies hr1 hr2 (by decide) hM) rfl (by decide) (Nat.le_of_ble_eq_true rfl) (fun S2 hp2 => ?_) rfl
  obtain ⟨hM2, -, hf2⟩ := hp2
  refine zaload_n dX9_worthNow_11 rfl ?_
  refine ziload_n dX9_worthNow_12 rfl ?_
  refine ziload_n dX9_worthNow_13 rfl ?_
  refine zcVr ob_Mo gk_X9_163 dX9_worthNow_14 (c_X9_worthBehindA hM2 hW hK) rfl (by decide) (Nat.le_of_ble_eq_true rfl) (fun r S3 hp3 => ?_) rfl
  obtain ⟨rfl, hf3⟩ := hp3
  exact zireturn dX9_worthNow_17 rfl rfl ⟨_, rfl, rfl, hf2.trans hf3⟩
set_option maxRecDepth 100000 in
set_option maxHeartbeats 4000000 in
theorem c_X9_wrongLend {n : Nat} {T : Tw} {p k : Int32} (hM : isM S 1 n T) : zF x false mX9_wrongLend [.ref (zad x 0), .int p, .int k] S (some (.int (fO (pF n p) (rgF k 0 24)))) S := by
  refine zC_of (by decide +kernel) (Nat.le_of_ble_eq_true rfl) ?_
  refine zaload_n dX9_wrongLend_0 rfl ?_
  refine ziload_n dX9_wrongLend_1 rfl ?_
  refine zcVf ob_Mo gk_X9_48 dX9_wrongLend_2 (c_X9_isOne hM) rfl (by decide) (Nat.le_of_ble_eq_true rfl) ?_ rfl
  refine zifb_eq (tgt := 17) dX9_wrongLend_5 (by decide) (fun h5 => ?_) (fun h5 => ?_)
  · refine ziconst (v := -1) dX9_wrongLend_17 (by decide) ?_
    exact zireturn dX9_wrongLend_18 rfl rfl ⟨congrArg (fun q => some (Value.int q)) (by first | (rw [pF_1 h5, fO_1]; done) | (rw [pF_yes h5]; rfl)), rfl⟩
  · refine ziload_n dX9_wrongLend_8 rfl ?_
    refine zbipush (v := 24) dX9_wrongLend_9 (by decide) ?_
    refine zcSf  gk_X9_150 dX9_wrongLend_11 c_wrongBy rfl (by decide) (Nat.le_of_ble_eq_true rfl) ?_ rfl
    refine zgoto (tgt := 18) dX9_wrongLend_14 (by decide) ?_
    exact zireturn dX9_wrongLend_18 rfl rfl ⟨congrArg (fun q => some (Value.int q)) (by first | (rw [pF_1 h5, fO_1]; done) | (rw [pF_yes h5]; rfl)), rfl⟩
def woF (T : Tw) (p : Int32) : Int32 := if T 4 p.toNatClampNeg = p then 0 else -3
theorem okE_woF (T : Tw) (p : Int32) : okE (woF T p) := by unfold woF; split; exact Or.inl rfl; exact Or.inr isE_3
theorem fO_assoc (a b c : Int32) : fO (fO a b) c = fO a (fO b c) := by
  unfold fO
  by_cases h : a = 0
  · rw [if_pos h, if_pos h]
  · rw [if_neg h, if_neg h, if_neg h]
set_option maxRecDepth 100000 in
set_option maxHeartbeats 4000000 in
theorem c_X8_lend (hR : RepC σ S) (hW : WS σ) (p k w : Int32) : zR x true mX8_lend [.ref (zad x 0), .int p, .int k, .int w] S (qC (fO (fO (pF (sN σ) p) (fO (rgF k 0 24) (whF w 2))) (woF (sT σ) p)) (bpF (canB (sT σ) p.toNatClampNeg) (fun b => (if w = 0 then (1 : Int32) else -1) * wth (monthsT (sN σ) k.toNatClampNeg (handT (sT σ) p.toNatClampNeg b)) p.toNatClampNeg) (sN σ) 0 (-9) ((if w = 0 then (1 : Int32) else -1) * wth (monthsT (sN σ) k.toNatClampNeg (sT σ)) p.toNatClampNeg)) σ (σ)) := by
  have hT := hR.1
  have hn8 : sN σ ≤ 8 := hT.2.1
  refine zC_of (by decide +kernel) (Nat.le_of_ble_eq_true rfl) ?_
  by_cases he1 : fO (pF (sN σ) p) (fO (rgF k 0 24) (whF w 2)) = 0
  · obtain ⟨h1, h23⟩ := fO_0 he1
    obtain ⟨h2, h3⟩ := fO_0 h23
    have h1p := pF_0 h1
    obtain ⟨i, hi, rfl⟩ := pF_of (by omega) h1
    obtain ⟨j, hj1, hj2, rfl⟩ := rgF_of (a := 0) (c := 24) (by decide) (by decide) h2
    by_cases ho : (sT σ) 4 i = nI i
    · have he : fO (fO (pF (sN σ) (nI i)) (fO (rgF (nI j) 0 24) (whF w 2))) (woF (sT σ) (nI i)) = 0 := by rw [he1]; unfold woF; rw [nI_clamp (by omega), if_pos ho]; rfl
      obtain ⟨l, hl, rfl⟩ := whF_of (k := 2) (by decide) h3
      rcases (show l = 0 ∨ l = 1 by omega) with rfl | rfl
      · refine zaload_n dX8_lend_0 rfl ?_
        refine ziload_n dX8_lend_1 rfl ?_
        refine zcVf ob_X gk_X8_96 dX8_lend_2 (c_X8_personFault hT) rfl (by decide) (Nat.le_of_ble_eq_true rfl) ?_ rfl
        refine ziload_n dX8_lend_5 rfl ?_
        refine ziconst (v := 0) dX8_lend_6 (by decide) ?_
        refine zbipush (v := 24) dX8_lend_7 (by decide) ?_
        refine zcSf  gk_X8_73 dX8_lend_9 c_X8_rangeFault rfl (by decide) (Nat.le_of_ble_eq_true rfl) ?_ rfl
        refine ziload_n dX8_lend_12 rfl ?_
        refine ziconst (v := 2) dX8_lend_13 (by decide) ?_
        refine zcSf  gk_X8_99 dX8_lend_14 c_X8_whatFault rfl (by decide) (Nat.le_of_ble_eq_true rfl) ?_ rfl
        refine zcSf  gk_X8_154 dX8_lend_17 c_X8_firstOfThree rfl (by decide) (Nat.le_of_ble_eq_true rfl) ?_ rfl
        refine zistore dX8_lend_20 (by decide) rfl ?_
        refine ziload dX8_lend_22 rfl ?_
        refine zif_eq (tgt := 34) dX8_lend_24 (by decide) (fun _ => ?_) (fun h => absurd he1 h)
        refine zaload_n dX8_lend_34 rfl ?_
        refine gf_X8_30 rfl dX8_lend_35 ?_
        refine ziload_n dX8_lend_38 rfl ?_
        refine zcVf (ob_town (t := 0) (by decide)) gk_X8_189 dX8_lend_39 (c_X7_wearsOwn (by decide) hT (by omega)) rfl (by decide) (Nat.le_of_ble_eq_true rfl) ?_ rfl
        refine zifb_ne (tgt := 52) dX8_lend_42 (by decide) (fun _ => ?_) (fun h => absurd (h.symm.trans (decide_eq_true ho)) (by decide))
        refine zaload_n dX8_lend_52 rfl ?_
        refine ziload_n dX8_lend_53 rfl ?_
        refine ziload_n dX8_lend_54 rfl ?_
        refine ziconst (v := 1) dX8_lend_55 (by decide) ?_
        refine ziload_n dX8_lend_56 rfl ?_
        refine zif_ne (tgt := 64) dX8_lend_57 (by decide) (fun h => absurd rfl h) (fun _ => ?_)
        refine ziconst (v := 1) dX8_lend_60 (by decide) ?_
        refine zgoto (tgt := 65) dX8_lend_61 (by decide) ?_
        refine zcVr ob_X gk_X8_210 dX8_lend_65 (c_X8_bestL hR hW hi (by omega)) rfl (by decide) (Nat.le_of_ble_eq_true rfl) (fun r S2 hp2 => ?_) rfl
        obtain ⟨rfl, hR2⟩ := hp2
        exact zireturn dX8_lend_68 rfl rfl ⟨_, rfl, qC_ok he (by rw [nI_clamp (n := i) (by omega), nI_clamp (n := j) (by omega)]; rfl) hR2⟩
      · refine zaload_n dX8_lend_0 rfl ?_
        refine ziload_n dX8_lend_1 rfl ?_
        refine zcVf ob_X gk_X8_96 dX8_lend_2 (c_X8_personFault hT) rfl (by decide) (Nat.le_of_ble_eq_true rfl) ?_ rfl
        refine ziload_n dX8_lend_5 rfl ?_
        refine ziconst (v := 0) dX8_lend_6 (by decide) ?_
        refine zbipush (v := 24) dX8_lend_7 (by decide) ?_
        refine zcSf  gk_X8_73 dX8_lend_9 c_X8_rangeFault rfl (by decide) (Nat.le_of_ble_eq_true rfl) ?_ rfl
        refine ziload_n dX8_lend_12 rfl ?_
        refine ziconst (v := 2) dX8_lend_13 (by decide) ?_
        refine zcSf  gk_X8_99 dX8_lend_14 c_X8_whatFault rfl (by decide) (Nat.le_of_ble_eq_true rfl) ?_ rfl
        refine zcSf  gk_X8_154 dX8_lend_17 c_X8_firstOfThree rfl (by decide) (Nat.le_of_ble_eq_true rfl) ?_ rfl
        refine zistore dX8_lend_20 (by decide) rfl ?_
        refine ziload dX8_lend_22 rfl ?_
        refine zif_eq (tgt := 34) dX8_lend_24 (by decide) (fun _ => ?_) (fun h => absurd he1 h)
        refine zaload_n dX8_lend_34 rfl ?_
        refine gf_X8_30 rfl dX8_lend_35 ?_
        refine ziload_n dX8_lend_38 rfl ?_
        refine zcVf (ob_town (t := 0) (by decide)) gk_X8_189 dX8_lend_39 (c_X7_wearsOwn (by decide) hT (by omega)) rfl (by decide) (Nat.le_of_ble_eq_true rfl) ?_ rfl
        refine zifb_ne (tgt := 52) dX8_lend_42 (by decide) (fun _ => ?_) (fun h => absurd (h.symm.trans (decide_eq_true ho)) (by decide))
        refine zaload_n dX8_lend_52 rfl ?_
        refine ziload_n dX8_lend_53 rfl ?_
        refine ziload_n dX8_lend_54 rfl ?_
        refine ziconst (v := 1) dX8_lend_55 (by decide) ?_
        refine ziload_n dX8_lend_56 rfl ?_
        refine zif_ne (tgt := 64) dX8_lend_57 (by decide) (fun _ => ?_) (fun h => absurd h (by decide))
        refine ziconst (v := -1) dX8_lend_64 (by decide) ?_
        refine zcVr ob_X gk_X8_210 dX8_lend_65 (c_X8_bestL hR hW hi (by omega)) rfl (by decide) (Nat.le_of_ble_eq_true rfl) (fun r S2 hp2 => ?_) rfl
        obtain ⟨rfl, hR2⟩ := hp2
        exact zireturn dX8_lend_68 rfl rfl ⟨_, rfl, qC_ok he (by rw [nI_clamp (n := i) (by omega), nI_clamp (n := j) (by omega)]; rfl) hR2⟩
    · refine zaload_n dX8_lend_0 rfl ?_
      refine ziload_n dX8_lend_1 rfl ?_
      refine zcVf ob_X gk_X8_96 dX8_lend_2 (c_X8_personFault hT) rfl (by decide) (Nat.le_of_ble_eq_true rfl) ?_ rfl
      refine ziload_n dX8_lend_5 rfl ?_
      refine ziconst (v := 0) dX8_lend_6 (by decide) ?_
      refine zbipush (v := 24) dX8_lend_7 (by decide) ?_
      refine zcSf  gk_X8_73 dX8_lend_9 c_X8_rangeFault rfl (by decide) (Nat.le_of_ble_eq_true rfl) ?_ rfl
      refine ziload_n dX8_lend_12 rfl ?_
      refine ziconst (v := 2) dX8_lend_13 (by decide) ?_
      refine zcSf  gk_X8_99 dX8_lend_14 c_X8_whatFault rfl (by decide) (Nat.le_of_ble_eq_true rfl) ?_ rfl
      refine zcSf  gk_X8_154 dX8_lend_17 c_X8_firstOfThree rfl (by decide) (Nat.le_of_ble_eq_true rfl) ?_ rfl
      refine zistore dX8_lend_20 (by decide) rfl ?_
      refine ziload dX8_lend_22 rfl ?_
      refine zif_eq (tgt := 34) dX8_lend_24 (by decide) (fun _ => ?_) (fun h => absurd he1 h)
      refine zaload_n dX8_lend_34 rfl ?_
      refine gf_X8_30 rfl dX8_lend_35 ?_
      refine ziload_n dX8_lend_38 rfl ?_
      refine zcVf (ob_town (t := 0) (by decide)) gk_X8_189 dX8_lend_39 (c_X7_wearsOwn (by decide) hT (by omega)) rfl (by decide) (Nat.le_of_ble_eq_true rfl) ?_ rfl
      refine zifb_ne (tgt := 52) dX8_lend_42 (by decide) (fun h => absurd (h.symm.trans (decide_eq_false ho)) (by decide)) (fun _ => ?_)
      refine zaload_n dX8_lend_45 rfl ?_
      refine zbipush (v := -3) dX8_lend_46 (by decide) ?_
      refine zcVf ob_X gk_X8_77 dX8_lend_48 (c_X8_refuse isE_3) rfl (by decide) (Nat.le_of_ble_eq_true rfl) ?_ rfl
      exact zireturn dX8_lend_51 rfl rfl ⟨_, rfl, qC_no (by rw [he1]; unfold woF; rw [nI_clamp (by omega), if_neg ho]; rfl) isE_3 hR⟩
  · refine zaload_n dX8_lend_0 rfl ?_
    refine ziload_n dX8_lend_1 rfl ?_
    refine zcVf ob_X gk_X8_96 dX8_lend_2 (c_X8_personFault hT) rfl (by decide) (Nat.le_of_ble_eq_true rfl) ?_ rfl
    refine ziload_n dX8_lend_5 rfl ?_
    refine ziconst (v := 0) dX8_lend_6 (by decide) ?_
    refine zbipush (v := 24) dX8_lend_7 (by decide) ?_
    refine zcSf  gk_X8_73 dX8_lend_9 c_X8_rangeFault rfl (by decide) (Nat.le_of_ble_eq_true rfl) ?_ rfl
    refine ziload_n dX8_lend_12 rfl ?_
    refine ziconst (v := 2) dX8_lend_13 (by decide) ?_
    refine zcSf  gk_X8_99 dX8_lend_14 c_X8_whatFault rfl (by decide) (Nat.le_of_ble_eq_true rfl) ?_ rfl
    refine zcSf  gk_X8_154 dX8_lend_17 c_X8_firstOfThree rfl (by decide) (Nat.le_of_ble_eq_true rfl) ?_ rfl
    refine zistore dX8_lend_20 (by decide) rfl ?_
    refine ziload dX8_lend_22 rfl ?_
    refine zif_eq (tgt := 34) dX8_lend_24 (by decide) (fun h => absurd h he1) (fun _ => ?_)
    refine zaload_n dX8_lend_27 rfl ?_
    refine ziload dX8_lend_28 rfl ?_
    refine zcVf ob_X gk_X8_77 dX8_lend_30 (c_X8_refuse (okE.e (okE_fO (okE_pF _ _) (okE_fO (okE_rgF _ _ _) (okE_whF _ _))) he1)) rfl (by decide) (Nat.le_of_ble_eq_true rfl) ?_ rfl
    exact zireturn dX8_lend_33 rfl rfl ⟨_, rfl, qC_no (by rw [fO_n he1]) (okE.e (okE_fO (okE_pF _ _) (okE_fO (okE_rgF _ _ _) (okE_whF _ _))) he1) hR⟩
set_option maxRecDepth 100000 in
set_option maxHeartbeats 4000000 in
theorem l_X9_lend (hW : WS σ) {p K : Nat} {s w0 : Int32} (hp : p < sN σ) (hK : K < 2 ^ 31) (r : Int32) : ∀ (k i : Nat) (S : zSt) (b m : Int32), i + k = sN σ → RepM σ S → bpF (fun b => canB (sT σ) p b) (fun b => s * wth (monthsT (sN σ) K (handT (sT σ) p b)) p) k i b m = r → zZ x false mX9_lend (fun q U => ∃ v : Int32, q = some (.int v) ∧ v = r ∧ RepM σ U) 83 [(0, .ref (zad x 0)), (1, .int (nI p)), (2, .int (nI K)), (5, .int s), (6, .int b), (7, .int m), (8, .int (nI i))] [] S := by
  intro k
  induction k with
  | zero =>
    intro i S b m hi hR hr
    have hM := hR.1
    have hn8 : sN σ ≤ 8 := hM.2.1
    refine ziload dX9_lend_83 rfl ?_
    refine zaload_n dX9_lend_85 rfl ?_
    refine gf_X9_9 rfl dX9_lend_86 ?_
    refine ziconst (v := nI 0) dX9_lend_89 (by decide) ?_
    refine ziald dX9_lend_90 (mrk hr1.2) (mrl hr1.1 hr1.2) (by decide) (by decide) ?_
    rw [hM.1]
    refine zicmp_ge (tgt := 166) dX9_lend_91 (by decide) (fun _ => ?_) (fun h => absurd (nI_le (by omega) (by omega)) h)
    refine ziload dX9_lend_166 rfl ?_
    exact zireturn dX9_lend_168 rfl rfl ⟨_, rfl, hr, hR⟩
  | succ k ih =>
    intro i S b m hi hR hr
    have hM := hR.1
    have hn8 : sN σ ≤ 8 := hM.2.1
    rw [bpF] at hr
    by_cases hc : canB (sT σ) p i = true
    · by_cases hg : m < s * wth (monthsT (sN σ) K (handT (sT σ) p i)) p
      · rw [if_pos ⟨hc, hg⟩] at hr
        refine ziload dX9_lend_83 rfl ?_
        refine zaload_n dX9_lend_85 rfl ?_
        refine gf_X9_9 rfl dX9_lend_86 ?_
        refine ziconst (v := nI 0) dX9_lend_89 (by decide) ?_
        refine ziald dX9_lend_90 (mrk hr1.2) (mrl hr1.1 hr1.2) (by decide) (by decide) ?_
        rw [hM.1]
        refine zicmp_ge (tgt := 166) dX9_lend_91 (by decide) (fun h => absurd h (nI_ge (by omega) (by omega))) (fun _ => ?_)
        refine zaload_n dX9_lend_94 rfl ?_
        refine gf_X9_9 rfl dX9_lend_95 ?_
        refine ziload_n dX9_lend_98 rfl ?_
        refine ziload dX9_lend_99 rfl ?_
        refine zcSf  gk_X9_118 dX9_lend_101 (show zF x false mX9_canLend _ S (some (.int (bI (canB (sT σ) p i)))) S from c_X9_canLend hr1 hM (by omega) (by omega)) rfl (by decide) (Nat.le_of_ble_eq_true rfl) ?_ rfl
        refine zifb_ne (tgt := 110) dX9_lend_104 (by decide) (fun _ => ?_) (fun h => absurd (h.symm.trans hc) (by decide))
        refine zaload_n dX9_lend_110 rfl ?_
        refine gf_X9_9 rfl dX9_lend_111 ?_
        refine zaload_n dX9_lend_114 rfl ?_
        refine gf_X9_13 rfl dX9_lend_115 ?_
        refine zcSn  gk_X9_133 dX9_lend_118 (c_X9_copies hr1 hr2 (by decide) hM) rfl (by decide) (Nat.le_of_ble_eq_true rfl) (fun S2 hp2 => ?_) rfl
        obtain ⟨hM2, -, hf2⟩ := hp2
        refine zaload_n dX9_lend_121 rfl ?_
        refine gf_X9_13 rfl dX9_lend_122 ?_
        refine ziload_n dX9_lend_125 rfl ?_
        refine ziload dX9_lend_126 rfl ?_
        refine zcSv  gk_X9_122 dX9_lend_128 (c_X9_lendsIn hr2 hM2 (p := p) (q := i) (by omega) (by omega)) rfl (by decide) (Nat.le_of_ble_eq_true rfl) ?_ rfl
        have hM3 := isM_hand (p := p) (q := i) hM2
        refine ziload dX9_lend_131 rfl ?_
        refine zaload_n dX9_lend_133 rfl ?_
        refine ziload_n dX9_lend_134 rfl ?_
        refine ziload_n dX9_lend_135 rfl ?_
        refine zcVr ob_Mo gk_X9_163 dX9_lend_136 (c_X9_worthBehind hM3 (hW.1.handB (by omega) (by omega) hc).2.1 hp hK) rfl (by decide) (Nat.le_of_ble_eq_true rfl) (fun r S4 hp4 => ?_) rfl
        obtain ⟨rfl, hf4⟩ := hp4
        have hR2 := hR.mind (frM.trans (frM_hand hf2) hf4) (Or.inl rfl)
        refine zimul dX9_lend_139 ?_
        refine zistore dX9_lend_140 (by decide) rfl ?_
        refine ziload dX9_lend_142 rfl ?_
        refine ziload dX9_lend_144 rfl ?_
        refine zicmp_gt (tgt := 152) dX9_lend_146 (by decide) (fun _ => ?_) (fun h => absurd hg h)
        refine ziload dX9_lend_152 rfl ?_
        refine zistore dX9_lend_154 (by decide) rfl ?_
        refine ziload dX9_lend_156 rfl ?_
        refine zistore dX9_lend_158 (by decide) rfl ?_
        refine ziinc dX9_lend_160 rfl rfl (by decide) rfl ?_
        refine zgoto (tgt := 83) dX9_lend_163 (by decide) ?_
        refine zlvs (lv' := [(0, .ref (zad x 0)), (1, .int (nI p)), (2, .int (nI K)), (5, .int s), (6, .int _), (7, .int _), (8, .int (nI (i + 1)))]) ⟨rfl, rfl, rfl, rfl, rfl, rfl, by rw [nI_succ i]; rfl, trivial⟩ ?_
        exact ih (i + 1) S4 _ _ (by omega) hR2 hr
      · rw [if_neg (fun z => hg z.2)] at hr
        refine ziload dX9_lend_83 rfl ?_
        refine zaload_n dX9_lend_85 rfl ?_
        refine gf_X9_9 rfl dX9_lend_86 ?_
        refine ziconst (v := nI 0) dX9_lend_89 (by decide) ?_
        refine ziald dX9_lend_90 (mrk hr1.2) (mrl hr1.1 hr1.2) (by decide) (by decide) ?_
        rw [hM.1]
        refine zicmp_ge (tgt := 166) dX9_lend_91 (by decide) (fun h => absurd h (nI_ge (by omega) (by omega))) (fun _ => ?_)
        refine zaload_n dX9_lend_94 rfl ?_
        refine gf_X9_9 rfl dX9_lend_95 ?_
        refine ziload_n dX9_lend_98 rfl ?_
        refine ziload dX9_lend_99 rfl ?_
        refine zcSf  gk_X9_118 dX9_lend_101 (show zF x false mX9_canLend _ S (some (.int (bI (canB (sT σ) p i)))) S from c_X9_canLend hr1 hM (by omega) (by omega)) rfl (by decide) (Nat.le_of_ble_eq_true rfl) ?_ rfl
        refine zifb_ne (tgt := 110) dX9_lend_104 (by decide) (fun _ => ?_) (fun h => absurd (h.symm.trans hc) (by decide))
        refine zaload_n dX9_lend_110 rfl ?_
        refine gf_X9_9 rfl dX9_lend_111 ?_
        refine zaload_n dX9_lend_114 rfl ?_
        refine gf_X9_13 rfl dX9_lend_115 ?_
        refine zcSn  gk_X9_133 dX9_lend_118 (c_X9_copies hr1 hr2 (by decide) hM) rfl (by decide) (Nat.le_of_ble_eq_true rfl) (fun S2 hp2 => ?_) rfl
        obtain ⟨hM2, -, hf2⟩ := hp2
        refine zaload_n dX9_lend_121 rfl ?_
        refine gf_X9_13 rfl dX9_lend_122 ?_
        refine ziload_n dX9_lend_125 rfl ?_
        refine ziload dX9_lend_126 rfl ?_
        refine zcSv  gk_X9_122 dX9_lend_128 (c_X9_lendsIn hr2 hM2 (p := p) (q := i) (by omega) (by omega)) rfl (by decide) (Nat.le_of_ble_eq_true rfl) ?_ rfl
        have hM3 := isM_hand (p := p) (q := i) hM2
        refine ziload dX9_lend_131 rfl ?_
        refine zaload_n dX9_lend_133 rfl ?_
        refine ziload_n dX9_lend_134 rfl ?_
        refine ziload_n dX9_lend_135 rfl ?_
        refine zcVr ob_Mo gk_X9_163 dX9_lend_136 (c_X9_worthBehind hM3 (hW.1.handB (by omega) (by omega) hc).2.1 hp hK) rfl (by decide) (Nat.le_of_ble_eq_true rfl) (fun r S4 hp4 => ?_) rfl
        obtain ⟨rfl, hf4⟩ := hp4
        have hR2 := hR.mind (frM.trans (frM_hand hf2) hf4) (Or.inl rfl)
        refine zimul dX9_lend_139 ?_
        refine zistore dX9_lend_140 (by decide) rfl ?_
        refine ziload dX9_lend_142 rfl ?_
        refine ziload dX9_lend_144 rfl ?_
        refine zicmp_gt (tgt := 152) dX9_lend_146 (by decide) (fun h => absurd h hg) (fun _ => ?_)
        refine zgoto (tgt := 160) dX9_lend_149 (by decide) ?_
        refine ziinc dX9_lend_160 rfl rfl (by decide) rfl ?_
        refine zgoto (tgt := 83) dX9_lend_163 (by decide) ?_
        refine zlvs (lv' := [(0, .ref (zad x 0)), (1, .int (nI p)), (2, .int (nI K)), (5, .int s), (6, .int _), (7, .int _), (8, .int (nI (i + 1)))]) ⟨rfl, rfl, rfl, rfl, rfl, rfl, by rw [nI_succ i]; rfl, trivial⟩ ?_
        exact ih (i + 1) S4 _ _ (by omega) hR2 hr
    · rw [if_neg (fun z => hc z.1)] at hr
      have hc2 : canB (sT σ) p i = false := by cases h : canB (sT σ) p i; rfl; exact absurd h hc
      refine ziload dX9_lend_83 rfl ?_
      refine zaload_n dX9_lend_85 rfl ?_
      refine gf_X9_9 rfl dX9_lend_86 ?_
      refine ziconst (v := nI 0) dX9_lend_89 (by decide) ?_
      refine ziald dX9_lend_90 (mrk hr1.2) (mrl hr1.1 hr1.2) (by decide) (by decide) ?_
      rw [hM.1]
      refine zicmp_ge (tgt := 166) dX9_lend_91 (by decide) (fun h => absurd h (nI_ge (by omega) (by omega))) (fun _ => ?_)
      refine zaload_n dX9_lend_94 rfl ?_
      refine gf_X9_9 rfl dX9_lend_95 ?_
      refine ziload_n dX9_lend_98 rfl ?_
      refine ziload dX9_lend_99 rfl ?_
      refine zcSf  gk_X9_118 dX9_lend_101 (show zF x false mX9_canLend _ S (some (.int (bI (canB (sT σ) p i)))) S from c_X9_canLend hr1 hM (by omega) (by omega)) rfl (by decide) (Nat.le_of_ble_eq_true rfl) ?_ rfl
      refine zifb_ne (tgt := 110) dX9_lend_104 (by decide) (fun h => absurd (h.symm.trans hc2) (by decide)) (fun _ => ?_)
      refine zgoto (tgt := 160) dX9_lend_107 (by decide) ?_
      refine ziinc dX9_lend_160 rfl rfl (by decide) rfl ?_
      refine zgoto (tgt := 83) dX9_lend_163 (by decide) ?_
      refine zlvs (lv' := [(0, .ref (zad x 0)), (1, .int (nI p)), (2, .int (nI K)), (5, .int s), (6, .int _), (7, .int _), (8, .int (nI (i + 1)))]) ⟨rfl, rfl, rfl, rfl, rfl, rfl, by rw [nI_succ i]; rfl, trivial⟩ ?_
      exact ih (i + 1) S _ _ (by omega) hR hr
set_option maxRecDepth 100000 in
set_option maxHeartbeats 4000000 in
theorem c_X9_lend (hR : RepM σ S) (hW : WS σ) (p k w : Int32) : zR x false mX9_lend [.ref (zad x 0), .int p, .int k, .int w] S (qM (fO (fO (pF (sN σ) p) (fO (rgF k 0 24) (whF w 2))) (woF (sT σ) p)) (bpF (canB (sT σ) p.toNatClampNeg) (fun b => (if w = 0 then (1 : Int32) else -1) * wth (monthsT (sN σ) k.toNatClampNeg (handT (sT σ) p.toNatClampNeg b)) p.toNatClampNeg) (sN σ) 0 (-9) ((if w = 0 then (1 : Int32) else -1) * wth (monthsT (sN σ) k.toNatClampNeg (sT σ)) p.toNatClampNeg)) σ (σ)) := by
  have hM := hR.1
  have hn8 : sN σ ≤ 8 := hM.2.1
  refine zC_of (by decide +kernel) (Nat.le_of_ble_eq_true rfl) ?_
  by_cases he1 : fO (pF (sN σ) p) (fO (rgF k 0 24) (whF w 2)) = 0
  · obtain ⟨h1, h23⟩ := fO_0 he1
    obtain ⟨h2, h3⟩ := fO_0 h23
    have h1p := pF_0 h1
    obtain ⟨i, hi, rfl⟩ := pF_of (by omega) h1
    obtain ⟨j, hj1, hj2, rfl⟩ := rgF_of (a := 0) (c := 24) (by decide) (by decide) h2
    by_cases ho : (sT σ) 4 i = nI i
    · have he : fO (fO (pF (sN σ) (nI i)) (fO (rgF (nI j) 0 24) (whF w 2))) (woF (sT σ) (nI i)) = 0 := by rw [he1]; unfold woF; rw [nI_clamp (by omega), if_pos ho]; rfl
      obtain ⟨l, hl, rfl⟩ := whF_of (k := 2) (by decide) h3
      rcases (show l = 0 ∨ l = 1 by omega) with rfl | rfl
      · refine zaload_n dX9_lend_0 rfl ?_
        refine ziload_n dX9_lend_1 rfl ?_
        refine ziload_n dX9_lend_2 rfl ?_
        refine zcVf ob_Mo gk_X9_166 dX9_lend_3 (c_X9_wrongLend hM) rfl (by decide) (Nat.le_of_ble_eq_true rfl) ?_ rfl
        refine zistore dX9_lend_6 (by decide) rfl ?_
        refine ziload dX9_lend_8 rfl ?_
        refine zif_ne (tgt := 46) dX9_lend_10 (by decide) (fun h => absurd (show fO (pF (sN σ) (nI i)) (rgF (nI j) 0 24) = 0 by rw [h1, h2]; rfl) h) (fun _ => ?_)
        refine ziload_n dX9_lend_13 rfl ?_
        refine ziconst (v := 0) dX9_lend_14 (by decide) ?_
        refine ziconst (v := 1) dX9_lend_15 (by decide) ?_
        refine zcSf  gk_X9_44 dX9_lend_16 c_isIn_1 rfl (by decide) (Nat.le_of_ble_eq_true rfl) ?_ rfl
        refine zifb_ne (tgt := 27) dX9_lend_19 (by decide) (fun _ => ?_) (fun h => absurd (h.symm.trans (decide_eq_true h3)) (by decide))
        refine zaload_n dX9_lend_27 rfl ?_
        refine gf_X9_9 rfl dX9_lend_28 ?_
        refine ziload_n dX9_lend_31 rfl ?_
        refine zcSf  gk_X9_64 dX9_lend_32 (c_X9_wearsOwn hr1 hM hi) rfl (by decide) (Nat.le_of_ble_eq_true rfl) ?_ rfl
        refine zifb_eq (tgt := 42) dX9_lend_35 (by decide) (fun h => absurd (h.symm.trans (decide_eq_true ho)) (by decide)) (fun _ => ?_)
        refine ziconst (v := 0) dX9_lend_38 (by decide) ?_
        refine zgoto (tgt := 44) dX9_lend_39 (by decide) ?_
        refine zistore dX9_lend_44 (by decide) rfl ?_
        refine ziload dX9_lend_46 rfl ?_
        refine zif_eq (tgt := 58) dX9_lend_48 (by decide) (fun _ => ?_) (fun h => absurd rfl h)
        refine ziconst (v := 1) dX9_lend_58 (by decide) ?_
        refine ziconst (v := 2) dX9_lend_59 (by decide) ?_
        refine ziload_n dX9_lend_60 rfl ?_
        refine zimul dX9_lend_61 ?_
        refine zisub dX9_lend_62 ?_
        rw [show (1 : Int32) - 2 * nI 0 = 1 from by decide]
        refine zistore dX9_lend_63 (by decide) rfl ?_
        refine zbipush (v := -9) dX9_lend_65 (by decide) ?_
        refine zistore dX9_lend_67 (by decide) rfl ?_
        refine ziload dX9_lend_69 rfl ?_
        refine zaload_n dX9_lend_71 rfl ?_
        refine ziload_n dX9_lend_72 rfl ?_
        refine ziload_n dX9_lend_73 rfl ?_
        refine zcVr ob_Mo gk_X9_169 dX9_lend_74 (c_X9_worthNow hM hW.1.2.1 hi (by omega)) rfl (by decide) (Nat.le_of_ble_eq_true rfl) (fun r S2 hp2 => ?_) rfl
        obtain ⟨rfl, hf2⟩ := hp2
        refine zimul dX9_lend_77 ?_
        refine zistore dX9_lend_78 (by decide) rfl ?_
        refine ziconst (v := 0) dX9_lend_80 (by decide) ?_
        refine zistore dX9_lend_81 (by decide) rfl ?_
        refine zlvs (lv' := [(0, .ref (zad x 0)), (1, .int (nI i)), (2, .int (nI j)), (5, .int 1), (6, .int (-9)), (7, .int _), (8, .int (nI 0))]) ⟨rfl, rfl, rfl, rfl, rfl, rfl, rfl, trivial⟩ ?_
        exact zZ_mono (l_X9_lend (w0 := 0) hW hi (by omega) _ (sN σ) 0 S2 _ _ (by omega) (hR.mind hf2 (Or.inl rfl)) rfl) (fun q U h => by obtain ⟨v, g1, g2, g3⟩ := h; exact ⟨v, g1, qM_ok he (by rw [g2, nI_clamp (n := i) (by omega), nI_clamp (n := j) (by omega)]; rfl) g3⟩)
      · refine zaload_n dX9_lend_0 rfl ?_
        refine ziload_n dX9_lend_1 rfl ?_
        refine ziload_n dX9_lend_2 rfl ?_
        refine zcVf ob_Mo gk_X9_166 dX9_lend_3 (c_X9_wrongLend hM) rfl (by decide) (Nat.le_of_ble_eq_true rfl) ?_ rfl
        refine zistore dX9_lend_6 (by decide) rfl ?_
        refine ziload dX9_lend_8 rfl ?_
        refine zif_ne (tgt := 46) dX9_lend_10 (by decide) (fun h => absurd (show fO (pF (sN σ) (nI i)) (rgF (nI j) 0 24) = 0 by rw [h1, h2]; rfl) h) (fun _ => ?_)
        refine ziload_n dX9_lend_13 rfl ?_
        refine ziconst (v := 0) dX9_lend_14 (by decide) ?_
        refine ziconst (v := 1) dX9_lend_15 (by decide) ?_
        refine zcSf  gk_X9_44 dX9_lend_16 c_isIn_1 rfl (by decide) (Nat.le_of_ble_eq_true rfl) ?_ rfl
        refine zifb_ne (tgt := 27) dX9_lend_19 (by decide) (fun _ => ?_) (fun h => absurd (h.symm.trans (decide_eq_true h3)) (by decide))
        refine zaload_n dX9_lend_27 rfl ?_
        refine gf_X9_9 rfl dX9_lend_28 ?_
        refine ziload_n dX9_lend_31 rfl ?_
        refine zcSf  gk_X9_64 dX9_lend_32 (c_X9_wearsOwn hr1 hM hi) rfl (by decide) (Nat.le_of_ble_eq_true rfl) ?_ rfl
        refine zifb_eq (tgt := 42) dX9_lend_35 (by decide) (fun h => absurd (h.symm.trans (decide_eq_true ho)) (by decide)) (fun _ => ?_)
        refine ziconst (v := 0) dX9_lend_38 (by decide) ?_
        refine zgoto (tgt := 44) dX9_lend_39 (by decide) ?_
        refine zistore dX9_lend_44 (by decide) rfl ?_
        refine ziload dX9_lend_46 rfl ?_
        refine zif_eq (tgt := 58) dX9_lend_48 (by decide) (fun _ => ?_) (fun h => absurd rfl h)
        refine ziconst (v := 1) dX9_lend_58 (by decide) ?_
        refine ziconst (v := 2) dX9_lend_59 (by decide) ?_
        refine ziload_n dX9_lend_60 rfl ?_
        refine zimul dX9_lend_61 ?_
        refine zisub dX9_lend_62 ?_
        rw [show (1 : Int32) - 2 * nI 1 = -1 from by decide]
        refine zistore dX9_lend_63 (by decide) rfl ?_
        refine zbipush (v := -9) dX9_lend_65 (by decide) ?_
        refine zistore dX9_lend_67 (by decide) rfl ?_
        refine ziload dX9_lend_69 rfl ?_
        refine zaload_n dX9_lend_71 rfl ?_
        refine ziload_n dX9_lend_72 rfl ?_
        refine ziload_n dX9_lend_73 rfl ?_
        refine zcVr ob_Mo gk_X9_169 dX9_lend_74 (c_X9_worthNow hM hW.1.2.1 hi (by omega)) rfl (by decide) (Nat.le_of_ble_eq_true rfl) (fun r S2 hp2 => ?_) rfl
        obtain ⟨rfl, hf2⟩ := hp2
        refine zimul dX9_lend_77 ?_
        refine zistore dX9_lend_78 (by decide) rfl ?_
        refine ziconst (v := 0) dX9_lend_80 (by decide) ?_
        refine zistore dX9_lend_81 (by decide) rfl ?_
        refine zlvs (lv' := [(0, .ref (zad x 0)), (1, .int (nI i)), (2, .int (nI j)), (5, .int (-1)), (6, .int (-9)), (7, .int _), (8, .int (nI 0))]) ⟨rfl, rfl, rfl, rfl, rfl, rfl, rfl, trivial⟩ ?_
        exact zZ_mono (l_X9_lend (w0 := 0) hW hi (by omega) _ (sN σ) 0 S2 _ _ (by omega) (hR.mind hf2 (Or.inl rfl)) rfl) (fun q U h => by obtain ⟨v, g1, g2, g3⟩ := h; exact ⟨v, g1, qM_ok he (by rw [g2, nI_clamp (n := i) (by omega), nI_clamp (n := j) (by omega)]; rfl) g3⟩)
    · refine zaload_n dX9_lend_0 rfl ?_
      refine ziload_n dX9_lend_1 rfl ?_
      refine ziload_n dX9_lend_2 rfl ?_
      refine zcVf ob_Mo gk_X9_166 dX9_lend_3 (c_X9_wrongLend hM) rfl (by decide) (Nat.le_of_ble_eq_true rfl) ?_ rfl
      refine zistore dX9_lend_6 (by decide) rfl ?_
      refine ziload dX9_lend_8 rfl ?_
      refine zif_ne (tgt := 46) dX9_lend_10 (by decide) (fun h => absurd (show fO (pF (sN σ) (nI i)) (rgF (nI j) 0 24) = 0 by rw [h1, h2]; rfl) h) (fun _ => ?_)
      refine ziload_n dX9_lend_13 rfl ?_
      refine ziconst (v := 0) dX9_lend_14 (by decide) ?_
      refine ziconst (v := 1) dX9_lend_15 (by decide) ?_
      refine zcSf  gk_X9_44 dX9_lend_16 c_isIn_1 rfl (by decide) (Nat.le_of_ble_eq_true rfl) ?_ rfl
      refine zifb_ne (tgt := 27) dX9_lend_19 (by decide) (fun _ => ?_) (fun h => absurd (h.symm.trans (decide_eq_true h3)) (by decide))
      refine zaload_n dX9_lend_27 rfl ?_
      refine gf_X9_9 rfl dX9_lend_28 ?_
      refine ziload_n dX9_lend_31 rfl ?_
      refine zcSf  gk_X9_64 dX9_lend_32 (c_X9_wearsOwn hr1 hM hi) rfl (by decide) (Nat.le_of_ble_eq_true rfl) ?_ rfl
      refine zifb_eq (tgt := 42) dX9_lend_35 (by decide) (fun _ => ?_) (fun h => absurd (h.symm.trans (decide_eq_false ho)) (by decide))
      refine zbipush (v := -3) dX9_lend_42 (by decide) ?_
      refine zistore dX9_lend_44 (by decide) rfl ?_
      refine ziload dX9_lend_46 rfl ?_
      refine zif_eq (tgt := 58) dX9_lend_48 (by decide) (fun h => absurd h (by decide)) (fun _ => ?_)
      refine zaload_n dX9_lend_51 rfl ?_
      refine ziload dX9_lend_52 rfl ?_
      refine zcVf ob_Mo gk_X9_38 dX9_lend_54 (c_X9_no isE_3) rfl (by decide) (Nat.le_of_ble_eq_true rfl) ?_ rfl
      exact zireturn dX9_lend_57 rfl rfl ⟨_, rfl, qM_no (by rw [he1]; unfold woF; rw [nI_clamp (by omega), if_neg ho]; rfl) isE_3 hR⟩
  · by_cases hq : fO (pF (sN σ) p) (rgF k 0 24) = 0
    · have hw : ¬ whF w 2 = 0 := fun z => he1 (by rw [← fO_assoc, hq, z]; rfl)
      refine zaload_n dX9_lend_0 rfl ?_
      refine ziload_n dX9_lend_1 rfl ?_
      refine ziload_n dX9_lend_2 rfl ?_
      refine zcVf ob_Mo gk_X9_166 dX9_lend_3 (c_X9_wrongLend hM) rfl (by decide) (Nat.le_of_ble_eq_true rfl) ?_ rfl
      refine zistore dX9_lend_6 (by decide) rfl ?_
      refine ziload dX9_lend_8 rfl ?_
      refine zif_ne (tgt := 46) dX9_lend_10 (by decide) (fun h => absurd hq h) (fun _ => ?_)
      refine ziload_n dX9_lend_13 rfl ?_
      refine ziconst (v := 0) dX9_lend_14 (by decide) ?_
      refine ziconst (v := 1) dX9_lend_15 (by decide) ?_
      refine zcSf  gk_X9_44 dX9_lend_16 c_isIn_1 rfl (by decide) (Nat.le_of_ble_eq_true rfl) ?_ rfl
      refine zifb_ne (tgt := 27) dX9_lend_19 (by decide) (fun h => absurd (h.symm.trans (decide_eq_false hw)) (by decide)) (fun _ => ?_)
      refine zbipush (v := -2) dX9_lend_22 (by decide) ?_
      refine zgoto (tgt := 44) dX9_lend_24 (by decide) ?_
      refine zistore dX9_lend_44 (by decide) rfl ?_
      refine ziload dX9_lend_46 rfl ?_
      refine zif_eq (tgt := 58) dX9_lend_48 (by decide) (fun h => absurd h (by decide)) (fun _ => ?_)
      refine zaload_n dX9_lend_51 rfl ?_
      refine ziload dX9_lend_52 rfl ?_
      refine zcVf ob_Mo gk_X9_38 dX9_lend_54 (c_X9_no isE_2) rfl (by decide) (Nat.le_of_ble_eq_true rfl) ?_ rfl
      exact zireturn dX9_lend_57 rfl rfl ⟨_, rfl, qM_no (by rw [← fO_assoc (pF _ _), hq, whF_2 hw]; rfl) isE_2 hR⟩
    · refine zaload_n dX9_lend_0 rfl ?_
      refine ziload_n dX9_lend_1 rfl ?_
      refine ziload_n dX9_lend_2 rfl ?_
      refine zcVf ob_Mo gk_X9_166 dX9_lend_3 (c_X9_wrongLend hM) rfl (by decide) (Nat.le_of_ble_eq_true rfl) ?_ rfl
      refine zistore dX9_lend_6 (by decide) rfl ?_
      refine ziload dX9_lend_8 rfl ?_
      refine zif_ne (tgt := 46) dX9_lend_10 (by decide) (fun _ => ?_) (fun h => absurd h hq)
      refine ziload dX9_lend_46 rfl ?_
      refine zif_eq (tgt := 58) dX9_lend_48 (by decide) (fun h => absurd h hq) (fun _ => ?_)
      refine zaload_n dX9_lend_51 rfl ?_
      refine ziload dX9_lend_52 rfl ?_
      refine zcVf ob_Mo gk_X9_38 dX9_lend_54 (c_X9_no (okE.e (okE_fO (okE_pF _ _) (okE_rgF _ _ _)) hq)) rfl (by decide) (Nat.le_of_ble_eq_true rfl) ?_ rfl
      exact zireturn dX9_lend_57 rfl rfl ⟨_, rfl, qM_no (by rw [← fO_assoc (pF _ _), fO_n (a := fO (pF (sN σ) p) (rgF k 0 24)) hq, fO_n hq]) (okE.e (okE_fO (okE_pF _ _) (okE_rgF _ _ _)) hq) hR⟩
theorem one_mul32 (v : Int32) : 1 * v = v := by grind
set_option maxRecDepth 100000 in
set_option maxHeartbeats 4000000 in
theorem c_X8_take (hR : RepC σ S) (hW : WS σ) (p k : Int32) : zR x true mX8_take [.ref (zad x 0), .int p, .int k] S (qC (fO (fO (pF (sN σ) p) (rgF k 0 24)) (woF (sT σ) p)) (bpF (canB (sT σ) p.toNatClampNeg) (fun b => wth (monthsT (sN σ) k.toNatClampNeg (handT (sT σ) b p.toNatClampNeg)) p.toNatClampNeg) (sN σ) 0 (-9) (wth (monthsT (sN σ) k.toNatClampNeg (sT σ)) p.toNatClampNeg)) σ (σ)) := by
  have hT := hR.1
  have hn8 : sN σ ≤ 8 := hT.2.1
  refine zC_of (by decide +kernel) (Nat.le_of_ble_eq_true rfl) ?_
  by_cases he1 : fO (pF (sN σ) p) (rgF k 0 24) = 0
  · obtain ⟨h1, h2⟩ := fO_0 he1
    have h1p := pF_0 h1
    obtain ⟨i, hi, rfl⟩ := pF_of (by omega) h1
    obtain ⟨j, hj1, hj2, rfl⟩ := rgF_of (a := 0) (c := 24) (by decide) (by decide) h2
    by_cases ho : (sT σ) 4 i = nI i
    · have he : fO (fO (pF (sN σ) (nI i)) (rgF (nI j) 0 24)) (woF (sT σ) (nI i)) = 0 := by rw [he1]; unfold woF; rw [nI_clamp (by omega), if_pos ho]; rfl
      refine zaload_n dX8_take_0 rfl ?_
      refine ziload_n dX8_take_1 rfl ?_
      refine zcVf ob_X gk_X8_96 dX8_take_2 (c_X8_personFault hT) rfl (by decide) (Nat.le_of_ble_eq_true rfl) ?_ rfl
      refine ziload_n dX8_take_5 rfl ?_
      refine ziconst (v := 0) dX8_take_6 (by decide) ?_
      refine zbipush (v := 24) dX8_take_7 (by decide) ?_
      refine zcSf  gk_X8_73 dX8_take_9 c_X8_rangeFault rfl (by decide) (Nat.le_of_ble_eq_true rfl) ?_ rfl
      refine zcSf  gk_X8_103 dX8_take_12 c_X8_firstOf rfl (by decide) (Nat.le_of_ble_eq_true rfl) ?_ rfl
      refine zistore_n dX8_take_15 (by decide) rfl ?_
      refine ziload_n dX8_take_16 rfl ?_
      refine zif_eq (tgt := 26) dX8_take_17 (by decide) (fun _ => ?_) (fun h => absurd he1 h)
      refine zaload_n dX8_take_26 rfl ?_
      refine gf_X8_30 rfl dX8_take_27 ?_
      refine ziload_n dX8_take_30 rfl ?_
      refine zcVf (ob_town (t := 0) (by decide)) gk_X8_189 dX8_take_31 (c_X7_wearsOwn (by decide) hT (by omega)) rfl (by decide) (Nat.le_of_ble_eq_true rfl) ?_ rfl
      refine zifb_ne (tgt := 44) dX8_take_34 (by decide) (fun _ => ?_) (fun h => absurd (h.symm.trans (decide_eq_true ho)) (by decide))
      refine zaload_n dX8_take_44 rfl ?_
      refine ziload_n dX8_take_45 rfl ?_
      refine ziload_n dX8_take_46 rfl ?_
      refine ziconst (v := 0) dX8_take_47 (by decide) ?_
      refine ziconst (v := 1) dX8_take_48 (by decide) ?_
      refine zcVr ob_X gk_X8_210 dX8_take_49 (c_X8_bestT hR hW hi (by omega)) rfl (by decide) (Nat.le_of_ble_eq_true rfl) (fun r S2 hp2 => ?_) rfl
      obtain ⟨rfl, hR2⟩ := hp2
      exact zireturn dX8_take_52 rfl rfl ⟨_, rfl, qC_ok he (by simp only [one_mul32]; rw [nI_clamp (n := i) (by omega), nI_clamp (n := j) (by omega)]) hR2⟩
    · refine zaload_n dX8_take_0 rfl ?_
      refine ziload_n dX8_take_1 rfl ?_
      refine zcVf ob_X gk_X8_96 dX8_take_2 (c_X8_personFault hT) rfl (by decide) (Nat.le_of_ble_eq_true rfl) ?_ rfl
      refine ziload_n dX8_take_5 rfl ?_
      refine ziconst (v := 0) dX8_take_6 (by decide) ?_
      refine zbipush (v := 24) dX8_take_7 (by decide) ?_
      refine zcSf  gk_X8_73 dX8_take_9 c_X8_rangeFault rfl (by decide) (Nat.le_of_ble_eq_true rfl) ?_ rfl
      refine zcSf  gk_X8_103 dX8_take_12 c_X8_firstOf rfl (by decide) (Nat.le_of_ble_eq_true rfl) ?_ rfl
      refine zistore_n dX8_take_15 (by decide) rfl ?_
      refine ziload_n dX8_take_16 rfl ?_
      refine zif_eq (tgt := 26) dX8_take_17 (by decide) (fun _ => ?_) (fun h => absurd he1 h)
      refine zaload_n dX8_take_26 rfl ?_
      refine gf_X8_30 rfl dX8_take_27 ?_
      refine ziload_n dX8_take_30 rfl ?_
      refine zcVf (ob_town (t := 0) (by decide)) gk_X8_189 dX8_take_31 (c_X7_wearsOwn (by decide) hT (by omega)) rfl (by decide) (Nat.le_of_ble_eq_true rfl) ?_ rfl
      refine zifb_ne (tgt := 44) dX8_take_34 (by decide) (fun h => absurd (h.symm.trans (decide_eq_false ho)) (by decide)) (fun _ => ?_)
      refine zaload_n dX8_take_37 rfl ?_
      refine zbipush (v := -3) dX8_take_38 (by decide) ?_
      refine zcVf ob_X gk_X8_77 dX8_take_40 (c_X8_refuse isE_3) rfl (by decide) (Nat.le_of_ble_eq_true rfl) ?_ rfl
      exact zireturn dX8_take_43 rfl rfl ⟨_, rfl, qC_no (by rw [he1]; unfold woF; rw [nI_clamp (by omega), if_neg ho]; rfl) isE_3 hR⟩
  · refine zaload_n dX8_take_0 rfl ?_
    refine ziload_n dX8_take_1 rfl ?_
    refine zcVf ob_X gk_X8_96 dX8_take_2 (c_X8_personFault hT) rfl (by decide) (Nat.le_of_ble_eq_true rfl) ?_ rfl
    refine ziload_n dX8_take_5 rfl ?_
    refine ziconst (v := 0) dX8_take_6 (by decide) ?_
    refine zbipush (v := 24) dX8_take_7 (by decide) ?_
    refine zcSf  gk_X8_73 dX8_take_9 c_X8_rangeFault rfl (by decide) (Nat.le_of_ble_eq_true rfl) ?_ rfl
    refine zcSf  gk_X8_103 dX8_take_12 c_X8_firstOf rfl (by decide) (Nat.le_of_ble_eq_true rfl) ?_ rfl
    refine zistore_n dX8_take_15 (by decide) rfl ?_
    refine ziload_n dX8_take_16 rfl ?_
    refine zif_eq (tgt := 26) dX8_take_17 (by decide) (fun h => absurd h he1) (fun _ => ?_)
    refine zaload_n dX8_take_20 rfl ?_
    refine ziload_n dX8_take_21 rfl ?_
    refine zcVf ob_X gk_X8_77 dX8_take_22 (c_X8_refuse (okE.e (okE_fO (okE_pF _ _) (okE_rgF _ _ _)) he1)) rfl (by decide) (Nat.le_of_ble_eq_true rfl) ?_ rfl
    exact zireturn dX8_take_25 rfl rfl ⟨_, rfl, qC_no (by rw [fO_n he1]) (okE.e (okE_fO (okE_pF _ _) (okE_rgF _ _ _)) he1) hR⟩
set_option maxRecDepth 100000 in
set_option maxHeartbeats 4000000 in
theorem l_X9_take (hW : WS σ) {p K : Nat} {s w0 : Int32} (hp : p < sN σ) (hK : K < 2 ^ 31) (r : Int32) : ∀ (k i : Nat) (S : zSt) (b m : Int32), i + k = sN σ → RepM σ S → bpF (fun b => canB (sT σ) b p) (fun b => wth (monthsT (sN σ) K (handT (sT σ) b p)) p) k i b m = r → zZ x false mX9_take (fun q U => ∃ v : Int32, q = some (.int v) ∧ v = r ∧ RepM σ U) 50 [(0, .ref (zad x 0)), (1, .int (nI p)), (2, .int (nI K)), (4, .int b), (5, .int m), (6, .int (nI i))] [] S := by
  intro k
  induction k with
  | zero =>
    intro i S b m hi hR hr
    have hM := hR.1
    have hn8 : sN σ ≤ 8 := hM.2.1
    refine ziload dX9_take_50 rfl ?_
    refine zaload_n dX9_take_52 rfl ?_
    refine gf_X9_9 rfl dX9_take_53 ?_
    refine ziconst (v := nI 0) dX9_take_56 (by decide) ?_
    refine ziald dX9_take_57 (mrk hr1.2) (mrl hr1.1 hr1.2) (by decide) (by decide) ?_
    rw [hM.1]
    refine zicmp_ge (tgt := 130) dX9_take_58 (by decide) (fun _ => ?_) (fun h => absurd (nI_le (by omega) (by omega)) h)
    refine ziload dX9_take_130 rfl ?_
    exact zireturn dX9_take_132 rfl rfl ⟨_, rfl, hr, hR⟩
  | succ k ih =>
    intro i S b m hi hR hr
    have hM := hR.1
    have hn8 : sN σ ≤ 8 := hM.2.1
    rw [bpF] at hr
    by_cases hc : canB (sT σ) i p = true
    · by_cases hg : m < wth (monthsT (sN σ) K (handT (sT σ) i p)) p
      · rw [if_pos ⟨hc, hg⟩] at hr
        refine ziload dX9_take_50 rfl ?_
        refine zaload_n dX9_take_52 rfl ?_
        refine gf_X9_9 rfl dX9_take_53 ?_
        refine ziconst (v := nI 0) dX9_take_56 (by decide) ?_
        refine ziald dX9_take_57 (mrk hr1.2) (mrl hr1.1 hr1.2) (by decide) (by decide) ?_
        rw [hM.1]
        refine zicmp_ge (tgt := 130) dX9_take_58 (by decide) (fun h => absurd h (nI_ge (by omega) (by omega))) (fun _ => ?_)
        refine zaload_n dX9_take_61 rfl ?_
        refine gf_X9_9 rfl dX9_take_62 ?_
        refine ziload dX9_take_65 rfl ?_
        refine ziload_n dX9_take_67 rfl ?_
        refine zcSf  gk_X9_118 dX9_take_68 (show zF x false mX9_canLend _ S (some (.int (bI (canB (sT σ) i p)))) S from c_X9_canLend hr1 hM (by omega) (by omega)) rfl (by decide) (Nat.le_of_ble_eq_true rfl) ?_ rfl
        refine zifb_ne (tgt := 77) dX9_take_71 (by decide) (fun _ => ?_) (fun h => absurd (h.symm.trans hc) (by decide))
        refine zaload_n dX9_take_77 rfl ?_
        refine gf_X9_9 rfl dX9_take_78 ?_
        refine zaload_n dX9_take_81 rfl ?_
        refine gf_X9_13 rfl dX9_take_82 ?_
        refine zcSn  gk_X9_133 dX9_take_85 (c_X9_copies hr1 hr2 (by decide) hM) rfl (by decide) (Nat.le_of_ble_eq_true rfl) (fun S2 hp2 => ?_) rfl
        obtain ⟨hM2, -, hf2⟩ := hp2
        refine zaload_n dX9_take_88 rfl ?_
        refine gf_X9_13 rfl dX9_take_89 ?_
        refine ziload dX9_take_92 rfl ?_
        refine ziload_n dX9_take_94 rfl ?_
        refine zcSv  gk_X9_122 dX9_take_95 (c_X9_lendsIn hr2 hM2 (p := i) (q := p) (by omega) (by omega)) rfl (by decide) (Nat.le_of_ble_eq_true rfl) ?_ rfl
        have hM3 := isM_hand (p := i) (q := p) hM2
        refine zaload_n dX9_take_98 rfl ?_
        refine ziload_n dX9_take_99 rfl ?_
        refine ziload_n dX9_take_100 rfl ?_
        refine zcVr ob_Mo gk_X9_163 dX9_take_101 (c_X9_worthBehind hM3 (hW.1.handB (by omega) (by omega) hc).2.1 hp hK) rfl (by decide) (Nat.le_of_ble_eq_true rfl) (fun r S4 hp4 => ?_) rfl
        obtain ⟨rfl, hf4⟩ := hp4
        have hR2 := hR.mind (frM.trans (frM_hand hf2) hf4) (Or.inl rfl)
        refine zistore dX9_take_104 (by decide) rfl ?_
        refine ziload dX9_take_106 rfl ?_
        refine ziload dX9_take_108 rfl ?_
        refine zicmp_gt (tgt := 116) dX9_take_110 (by decide) (fun _ => ?_) (fun h => absurd hg h)
        refine ziload dX9_take_116 rfl ?_
        refine zistore dX9_take_118 (by decide) rfl ?_
        refine ziload dX9_take_120 rfl ?_
        refine zistore dX9_take_122 (by decide) rfl ?_
        refine ziinc dX9_take_124 rfl rfl (by decide) rfl ?_
        refine zgoto (tgt := 50) dX9_take_127 (by decide) ?_
        refine zlvs (lv' := [(0, .ref (zad x 0)), (1, .int (nI p)), (2, .int (nI K)), (4, .int _), (5, .int _), (6, .int (nI (i + 1)))]) ⟨rfl, rfl, rfl, rfl, rfl, by rw [nI_succ i]; rfl, trivial⟩ ?_
        exact ih (i + 1) S4 _ _ (by omega) hR2 hr
      · rw [if_neg (fun z => hg z.2)] at hr
        refine ziload dX9_take_50 rfl ?_
        refine zaload_n dX9_take_52 rfl ?_
        refine gf_X9_9 rfl dX9_take_53 ?_
        refine ziconst (v := nI 0) dX9_take_56 (by decide) ?_
        refine ziald dX9_take_57 (mrk hr1.2) (mrl hr1.1 hr1.2) (by decide) (by decide) ?_
        rw [hM.1]
        refine zicmp_ge (tgt := 130) dX9_take_58 (by decide) (fun h => absurd h (nI_ge (by omega) (by omega))) (fun _ => ?_)
        refine zaload_n dX9_take_61 rfl ?_
        refine gf_X9_9 rfl dX9_take_62 ?_
        refine ziload dX9_take_65 rfl ?_
        refine ziload_n dX9_take_67 rfl ?_
        refine zcSf  gk_X9_118 dX9_take_68 (show zF x false mX9_canLend _ S (some (.int (bI (canB (sT σ) i p)))) S from c_X9_canLend hr1 hM (by omega) (by omega)) rfl (by decide) (Nat.le_of_ble_eq_true rfl) ?_ rfl
        refine zifb_ne (tgt := 77) dX9_take_71 (by decide) (fun _ => ?_) (fun h => absurd (h.symm.trans hc) (by decide))
        refine zaload_n dX9_take_77 rfl ?_
        refine gf_X9_9 rfl dX9_take_78 ?_
        refine zaload_n dX9_take_81 rfl ?_
        refine gf_X9_13 rfl dX9_take_82 ?_
        refine zcSn  gk_X9_133 dX9_take_85 (c_X9_copies hr1 hr2 (by decide) hM) rfl (by decide) (Nat.le_of_ble_eq_true rfl) (fun S2 hp2 => ?_) rfl
        obtain ⟨hM2, -, hf2⟩ := hp2
        refine zaload_n dX9_take_88 rfl ?_
        refine gf_X9_13 rfl dX9_take_89 ?_
        refine ziload dX9_take_92 rfl ?_
        refine ziload_n dX9_take_94 rfl ?_
        refine zcSv  gk_X9_122 dX9_take_95 (c_X9_lendsIn hr2 hM2 (p := i) (q := p) (by omega) (by omega)) rfl (by decide) (Nat.le_of_ble_eq_true rfl) ?_ rfl
        have hM3 := isM_hand (p := i) (q := p) hM2
        refine zaload_n dX9_take_98 rfl ?_
        refine ziload_n dX9_take_99 rfl ?_
        refine ziload_n dX9_take_100 rfl ?_
        refine zcVr ob_Mo gk_X9_163 dX9_take_101 (c_X9_worthBehind hM3 (hW.1.handB (by omega) (by omega) hc).2.1 hp hK) rfl (by decide) (Nat.le_of_ble_eq_true rfl) (fun r S4 hp4 => ?_) rfl
        obtain ⟨rfl, hf4⟩ := hp4
        have hR2 := hR.mind (frM.trans (frM_hand hf2) hf4) (Or.inl rfl)
        refine zistore dX9_take_104 (by decide) rfl ?_
        refine ziload dX9_take_106 rfl ?_
        refine ziload dX9_take_108 rfl ?_
        refine zicmp_gt (tgt := 116) dX9_take_110 (by decide) (fun h => absurd h hg) (fun _ => ?_)
        refine zgoto (tgt := 124) dX9_take_113 (by decide) ?_
        refine ziinc dX9_take_124 rfl rfl (by decide) rfl ?_
        refine zgoto (tgt := 50) dX9_take_127 (by decide) ?_
        refine zlvs (lv' := [(0, .ref (zad x 0)), (1, .int (nI p)), (2, .int (nI K)), (4, .int _), (5, .int _), (6, .int (nI (i + 1)))]) ⟨rfl, rfl, rfl, rfl, rfl, by rw [nI_succ i]; rfl, trivial⟩ ?_
        exact ih (i + 1) S4 _ _ (by omega) hR2 hr
    · rw [if_neg (fun z => hc z.1)] at hr
      have hc2 : canB (sT σ) i p = false := by cases h : canB (sT σ) i p; rfl; exact absurd h hc
      refine ziload dX9_take_50 rfl ?_
      refine zaload_n dX9_take_52 rfl ?_
      refine gf_X9_9 rfl dX9_take_53 ?_
      refine ziconst (v := nI 0) dX9_take_56 (by decide) ?_
      refine ziald dX9_take_57 (mrk hr1.2) (mrl hr1.1 hr1.2) (by decide) (by decide) ?_
      rw [hM.1]
      refine zicmp_ge (tgt := 130) dX9_take_58 (by decide) (fun h => absurd h (nI_ge (by omega) (by omega))) (fun _ => ?_)
      refine zaload_n dX9_take_61 rfl ?_
      refine gf_X9_9 rfl dX9_take_62 ?_
      refine ziload dX9_take_65 rfl ?_
      refine ziload_n dX9_take_67 rfl ?_
      refine zcSf  gk_X9_118 dX9_take_68 (show zF x false mX9_canLend _ S (some (.int (bI (canB (sT σ) i p)))) S from c_X9_canLend hr1 hM (by omega) (by omega)) rfl (by decide) (Nat.le_of_ble_eq_true rfl) ?_ rfl
      refine zifb_ne (tgt := 77) dX9_take_71 (by decide) (fun h => absurd (h.symm.trans hc2) (by decide)) (fun _ => ?_)
      refine zgoto (tgt := 124) dX9_take_74 (by decide) ?_
      refine ziinc dX9_take_124 rfl rfl (by decide) rfl ?_
      refine zgoto (tgt := 50) dX9_take_127 (by decide) ?_
      refine zlvs (lv' := [(0, .ref (zad x 0)), (1, .int (nI p)), (2, .int (nI K)), (4, .int _), (5, .int _), (6, .int (nI (i + 1)))]) ⟨rfl, rfl, rfl, rfl, rfl, by rw [nI_succ i]; rfl, trivial⟩ ?_
      exact ih (i + 1) S _ _ (by omega) hR hr
set_option maxRecDepth 100000 in
set_option maxHeartbeats 4000000 in
theorem c_X9_take (hR : RepM σ S) (hW : WS σ) (p k : Int32) : zR x false mX9_take [.ref (zad x 0), .int p, .int k] S (qM (fO (fO (pF (sN σ) p) (rgF k 0 24)) (woF (sT σ) p)) (bpF (canB (sT σ) p.toNatClampNeg) (fun b => wth (monthsT (sN σ) k.toNatClampNeg (handT (sT σ) b p.toNatClampNeg)) p.toNatClampNeg) (sN σ) 0 (-9) (wth (monthsT (sN σ) k.toNatClampNeg (sT σ)) p.toNatClampNeg)) σ (σ)) := by
  have hM := hR.1
  have hn8 : sN σ ≤ 8 := hM.2.1
  refine zC_of (by decide +kernel) (Nat.le_of_ble_eq_true rfl) ?_
  by_cases he1 : fO (pF (sN σ) p) (rgF k 0 24) = 0
  · obtain ⟨h1, h2⟩ := fO_0 he1
    have h1p := pF_0 h1
    obtain ⟨i, hi, rfl⟩ := pF_of (by omega) h1
    obtain ⟨j, hj1, hj2, rfl⟩ := rgF_of (a := 0) (c := 24) (by decide) (by decide) h2
    by_cases ho : (sT σ) 4 i = nI i
    · have he : fO (fO (pF (sN σ) (nI i)) (rgF (nI j) 0 24)) (woF (sT σ) (nI i)) = 0 := by rw [he1]; unfold woF; rw [nI_clamp (by omega), if_pos ho]; rfl
      refine zaload_n dX9_take_0 rfl ?_
      refine ziload_n dX9_take_1 rfl ?_
      refine ziload_n dX9_take_2 rfl ?_
      refine zcVf ob_Mo gk_X9_166 dX9_take_3 (c_X9_wrongLend hM) rfl (by decide) (Nat.le_of_ble_eq_true rfl) ?_ rfl
      refine zistore_n dX9_take_6 (by decide) rfl ?_
      refine ziload_n dX9_take_7 rfl ?_
      refine zif_ne (tgt := 25) dX9_take_8 (by decide) (fun h => absurd he1 h) (fun _ => ?_)
      refine zaload_n dX9_take_11 rfl ?_
      refine gf_X9_9 rfl dX9_take_12 ?_
      refine ziload_n dX9_take_15 rfl ?_
      refine zcSf  gk_X9_64 dX9_take_16 (c_X9_wearsOwn hr1 hM hi) rfl (by decide) (Nat.le_of_ble_eq_true rfl) ?_ rfl
      refine zifb_ne (tgt := 25) dX9_take_19 (by decide) (fun _ => ?_) (fun h => absurd (h.symm.trans (decide_eq_true ho)) (by decide))
      refine ziload_n dX9_take_25 rfl ?_
      refine zif_eq (tgt := 35) dX9_take_26 (by decide) (fun _ => ?_) (fun h => absurd he1 h)
      refine zbipush (v := -9) dX9_take_35 (by decide) ?_
      refine zistore dX9_take_37 (by decide) rfl ?_
      refine zaload_n dX9_take_39 rfl ?_
      refine ziload_n dX9_take_40 rfl ?_
      refine ziload_n dX9_take_41 rfl ?_
      refine zcVr ob_Mo gk_X9_169 dX9_take_42 (c_X9_worthNow hM hW.1.2.1 hi (by omega)) rfl (by decide) (Nat.le_of_ble_eq_true rfl) (fun r S2 hp2 => ?_) rfl
      obtain ⟨rfl, hf2⟩ := hp2
      refine zistore dX9_take_45 (by decide) rfl ?_
      refine ziconst (v := 0) dX9_take_47 (by decide) ?_
      refine zistore dX9_take_48 (by decide) rfl ?_
      refine zlvs (lv' := [(0, .ref (zad x 0)), (1, .int (nI i)), (2, .int (nI j)), (4, .int (-9)), (5, .int _), (6, .int (nI 0))]) ⟨rfl, rfl, rfl, rfl, rfl, rfl, trivial⟩ ?_
      exact zZ_mono (l_X9_take (s := 0) (w0 := 0) hW hi (by omega) _ (sN σ) 0 S2 _ _ (by omega) (hR.mind hf2 (Or.inl rfl)) rfl) (fun q U h => by obtain ⟨v, g1, g2, g3⟩ := h; exact ⟨v, g1, qM_ok he (by rw [g2, nI_clamp (n := i) (by omega), nI_clamp (n := j) (by omega), show (fun b => canB (sT σ) b i) = canB (sT σ) i from funext (fun b => canB_comm _ _ _)]) g3⟩)
    · refine zaload_n dX9_take_0 rfl ?_
      refine ziload_n dX9_take_1 rfl ?_
      refine ziload_n dX9_take_2 rfl ?_
      refine zcVf ob_Mo gk_X9_166 dX9_take_3 (c_X9_wrongLend hM) rfl (by decide) (Nat.le_of_ble_eq_true rfl) ?_ rfl
      refine zistore_n dX9_take_6 (by decide) rfl ?_
      refine ziload_n dX9_take_7 rfl ?_
      refine zif_ne (tgt := 25) dX9_take_8 (by decide) (fun h => absurd he1 h) (fun _ => ?_)
      refine zaload_n dX9_take_11 rfl ?_
      refine gf_X9_9 rfl dX9_take_12 ?_
      refine ziload_n dX9_take_15 rfl ?_
      refine zcSf  gk_X9_64 dX9_take_16 (c_X9_wearsOwn hr1 hM hi) rfl (by decide) (Nat.le_of_ble_eq_true rfl) ?_ rfl
      refine zifb_ne (tgt := 25) dX9_take_19 (by decide) (fun h => absurd (h.symm.trans (decide_eq_false ho)) (by decide)) (fun _ => ?_)
      refine zbipush (v := -3) dX9_take_22 (by decide) ?_
      refine zistore_n dX9_take_24 (by decide) rfl ?_
      refine ziload_n dX9_take_25 rfl ?_
      refine zif_eq (tgt := 35) dX9_take_26 (by decide) (fun h => absurd h (by decide)) (fun _ => ?_)
      refine zaload_n dX9_take_29 rfl ?_
      refine ziload_n dX9_take_30 rfl ?_
      refine zcVf ob_Mo gk_X9_38 dX9_take_31 (c_X9_no isE_3) rfl (by decide) (Nat.le_of_ble_eq_true rfl) ?_ rfl
      exact zireturn dX9_take_34 rfl rfl ⟨_, rfl, qM_no (by rw [he1]; unfold woF; rw [nI_clamp (by omega), if_neg ho]; rfl) isE_3 hR⟩
  · refine zaload_n dX9_take_0 rfl ?_
    refine ziload_n dX9_take_1 rfl ?_
    refine ziload_n dX9_take_2 rfl ?_
    refine zcVf ob_Mo gk_X9_166 dX9_take_3 (c_X9_wrongLend hM) rfl (by decide) (Nat.le_of_ble_eq_true rfl) ?_ rfl
    refine zistore_n dX9_take_6 (by decide) rfl ?_
    refine ziload_n dX9_take_7 rfl ?_
    refine zif_ne (tgt := 25) dX9_take_8 (by decide) (fun _ => ?_) (fun h => absurd h he1)
    refine ziload_n dX9_take_25 rfl ?_
    refine zif_eq (tgt := 35) dX9_take_26 (by decide) (fun h => absurd h he1) (fun _ => ?_)
    refine zaload_n dX9_take_29 rfl ?_
    refine ziload_n dX9_take_30 rfl ?_
    refine zcVf ob_Mo gk_X9_38 dX9_take_31 (c_X9_no (okE.e (okE_fO (okE_pF _ _) (okE_rgF _ _ _)) he1)) rfl (by decide) (Nat.le_of_ble_eq_true rfl) ?_ rfl
    exact zireturn dX9_take_34 rfl rfl ⟨_, rfl, qM_no (by rw [fO_n he1]) (okE.e (okE_fO (okE_pF _ _) (okE_rgF _ _ _)) he1) hR⟩
end PUB8
