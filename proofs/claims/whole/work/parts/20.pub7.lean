/-! The public methods, seventh part: twins, first -/
section PUB7
variable {x : zCx} {S : zSt} {σ σ' : Sig}
def twI (T : Tw) (a : Nat) : Nat → Nat → Int32 → Int32 → Int32 × Int32
  | 0, _, c, f => (c, f)
  | k + 1, b, c, f => if T 5 a = T 5 b ∧ T 6 a = T 6 b then twI T a k (b + 1) (c + 1) (if c = 0 then 10 * nI a + nI b else f) else twI T a k (b + 1) c f
def twO (n : Nat) (T : Tw) : Nat → Nat → Int32 → Int32 → Int32 × Int32
  | 0, _, c, f => (c, f)
  | k + 1, a, c, f => twO n T k (a + 1) (twI T a k (a + 1) c f).1 (twI T a k (a + 1) c f).2

set_option maxRecDepth 100000 in
set_option maxHeartbeats 4000000 in
theorem l1_X8_twins (hR : RepC σ S) {w : Int32} {a : Nat} {post : Option Value → zSt → Prop} (ha : a < sN σ) : ∀ (k b : Nat) (c f : Int32), b + k = sN σ → (zZ x true mX8_twins post 97 [(0, .ref (zad x 0)), (1, .int w), (3, .int (twI (sT σ) a k b c f).1), (4, .int (twI (sT σ) a k b c f).2), (5, .int (nI a))] [] S) → zZ x true mX8_twins post 43 [(0, .ref (zad x 0)), (1, .int w), (3, .int c), (4, .int f), (5, .int (nI a)), (6, .int (nI b))] [] S := by
  have hT := hR.1
  have hn8 : sN σ ≤ 8 := hT.2.1
  intro k
  induction k with
  | zero =>
    intro b c f hb kk
    refine ziload dX8_twins_43 rfl ?_
    refine zaload_n dX8_twins_45 rfl ?_
    refine gf_X8_30 rfl dX8_twins_46 ?_
    refine gf_X8_192 (t := 0) (by decide) rfl dX8_twins_49 ?_
    rw [hT.1]
    refine zicmp_ge (tgt := 97) dX8_twins_52 (by decide) (fun _ => ?_) (fun h => absurd (nI_le (by omega) (by omega)) h)
    refine zlvs (lv' := [(0, .ref (zad x 0)), (1, .int w), (3, .int c), (4, .int f), (5, .int (nI a))]) ⟨rfl, rfl, rfl, rfl, rfl, trivial⟩ ?_
    exact kk
  | succ k ih =>
    intro b c f hb kk
    rw [twI] at kk
    refine ziload dX8_twins_43 rfl ?_
    refine zaload_n dX8_twins_45 rfl ?_
    refine gf_X8_30 rfl dX8_twins_46 ?_
    refine gf_X8_192 (t := 0) (by decide) rfl dX8_twins_49 ?_
    rw [hT.1]
    refine zicmp_ge (tgt := 97) dX8_twins_52 (by decide) (fun h => absurd h (nI_ge (by omega) (by omega))) (fun _ => ?_)
    refine zaload_n dX8_twins_55 rfl ?_
    refine gf_X8_30 rfl dX8_twins_56 ?_
    refine ziload dX8_twins_59 rfl ?_
    refine ziload dX8_twins_61 rfl ?_
    refine zcVf (ob_town (t := 0) (by decide)) gk_X8_207 dX8_twins_63 (c_X7_lookAlike (by decide) hT (by omega) (by omega)) rfl (by decide) (Nat.le_of_ble_eq_true rfl) ?_ rfl
    refine zifb_eq (tgt := 91) dX8_twins_66 (by decide) (fun h66 => ?_) (fun h66 => ?_)
    · refine ziinc dX8_twins_91 rfl rfl (by decide) rfl ?_
      refine zgoto (tgt := 43) dX8_twins_94 (by decide) ?_
      refine zlvs (lv' := [(0, .ref (zad x 0)), (1, .int w), (3, .int _), (4, .int _), (5, .int (nI a)), (6, .int (nI (b + 1)))]) ⟨rfl, rfl, rfl, rfl, rfl, by rw [nI_succ b]; rfl, trivial⟩ ?_
      first
      | exact ih (b + 1) _ _ (by omega) (by rw [if_neg (of_decide_eq_false h66)] at kk; exact kk)
      | exact ih (b + 1) _ _ (by omega) (by rw [if_pos (of_decide_eq_true h66), if_neg h70] at kk; exact kk)
      | exact ih (b + 1) _ _ (by omega) (by rw [if_pos (of_decide_eq_true h66), if_pos h70] at kk; exact kk)
    · refine ziload_n dX8_twins_69 rfl ?_
      refine zif_ne (tgt := 84) dX8_twins_70 (by decide) (fun h70 => ?_) (fun h70 => ?_)
      · refine ziload dX8_twins_84 rfl ?_
        refine zistore dX8_twins_86 (by decide) rfl ?_
        refine ziinc dX8_twins_88 rfl rfl (by decide) rfl ?_
        refine ziinc dX8_twins_91 rfl rfl (by decide) rfl ?_
        refine zgoto (tgt := 43) dX8_twins_94 (by decide) ?_
        refine zlvs (lv' := [(0, .ref (zad x 0)), (1, .int w), (3, .int _), (4, .int _), (5, .int (nI a)), (6, .int (nI (b + 1)))]) ⟨rfl, rfl, rfl, rfl, rfl, by rw [nI_succ b]; rfl, trivial⟩ ?_
        first
        | exact ih (b + 1) _ _ (by omega) (by rw [if_neg (of_decide_eq_false h66)] at kk; exact kk)
        | exact ih (b + 1) _ _ (by omega) (by rw [if_pos (of_decide_eq_true h66), if_neg h70] at kk; exact kk)
        | exact ih (b + 1) _ _ (by omega) (by rw [if_pos (of_decide_eq_true h66), if_pos h70] at kk; exact kk)
      · refine zbipush (v := 10) dX8_twins_73 (by decide) ?_
        refine ziload dX8_twins_75 rfl ?_
        refine zimul dX8_twins_77 ?_
        refine ziload dX8_twins_78 rfl ?_
        refine ziadd dX8_twins_80 ?_
        refine zgoto (tgt := 86) dX8_twins_81 (by decide) ?_
        refine zistore dX8_twins_86 (by decide) rfl ?_
        refine ziinc dX8_twins_88 rfl rfl (by decide) rfl ?_
        refine ziinc dX8_twins_91 rfl rfl (by decide) rfl ?_
        refine zgoto (tgt := 43) dX8_twins_94 (by decide) ?_
        refine zlvs (lv' := [(0, .ref (zad x 0)), (1, .int w), (3, .int _), (4, .int _), (5, .int (nI a)), (6, .int (nI (b + 1)))]) ⟨rfl, rfl, rfl, rfl, rfl, by rw [nI_succ b]; rfl, trivial⟩ ?_
        first
        | exact ih (b + 1) _ _ (by omega) (by rw [if_neg (of_decide_eq_false h66)] at kk; exact kk)
        | exact ih (b + 1) _ _ (by omega) (by rw [if_pos (of_decide_eq_true h66), if_neg h70] at kk; exact kk)
        | exact ih (b + 1) _ _ (by omega) (by rw [if_pos (of_decide_eq_true h66), if_pos h70] at kk; exact kk)
set_option maxRecDepth 100000 in
set_option maxHeartbeats 4000000 in
theorem l_X8_twins (hR : RepC σ S) {w : Int32} (r : Int32) : ∀ (k a : Nat) (c f : Int32), a + k = sN σ → (if w = 0 then (twO (sN σ) (sT σ) k a c f).1 else (twO (sN σ) (sT σ) k a c f).2) = r → zZ x true mX8_twins (fun q T => q = some (.int r) ∧ T = S) 25 [(0, .ref (zad x 0)), (1, .int w), (3, .int c), (4, .int f), (5, .int (nI a))] [] S := by
  have hT := hR.1
  have hn8 : sN σ ≤ 8 := hT.2.1
  intro k
  induction k with
  | zero =>
    intro a c f ha hr
    by_cases hw : w = 0
    · refine ziload dX8_twins_25 rfl ?_
      refine zaload_n dX8_twins_27 rfl ?_
      refine gf_X8_30 rfl dX8_twins_28 ?_
      refine gf_X8_192 (t := 0) (by decide) rfl dX8_twins_31 ?_
      rw [hT.1]
      refine zicmp_ge (tgt := 103) dX8_twins_34 (by decide) (fun _ => ?_) (fun h => absurd (nI_le (by omega) (by omega)) h)
      refine ziload_n dX8_twins_103 rfl ?_
      refine zif_ne (tgt := 111) dX8_twins_104 (by decide) (fun h => absurd hw h) (fun _ => ?_)
      refine ziload_n dX8_twins_107 rfl ?_
      refine zgoto (tgt := 113) dX8_twins_108 (by decide) ?_
      exact zireturn dX8_twins_113 rfl rfl ⟨by rw [← hr, if_pos hw]; rfl, rfl⟩
    · refine ziload dX8_twins_25 rfl ?_
      refine zaload_n dX8_twins_27 rfl ?_
      refine gf_X8_30 rfl dX8_twins_28 ?_
      refine gf_X8_192 (t := 0) (by decide) rfl dX8_twins_31 ?_
      rw [hT.1]
      refine zicmp_ge (tgt := 103) dX8_twins_34 (by decide) (fun _ => ?_) (fun h => absurd (nI_le (by omega) (by omega)) h)
      refine ziload_n dX8_twins_103 rfl ?_
      refine zif_ne (tgt := 111) dX8_twins_104 (by decide) (fun _ => ?_) (fun h => absurd h hw)
      refine ziload dX8_twins_111 rfl ?_
      exact zireturn dX8_twins_113 rfl rfl ⟨by rw [← hr, if_neg hw]; rfl, rfl⟩
  | succ k ih =>
    intro a c f ha hr
    rw [twO] at hr
    refine ziload dX8_twins_25 rfl ?_
    refine zaload_n dX8_twins_27 rfl ?_
    refine gf_X8_30 rfl dX8_twins_28 ?_
    refine gf_X8_192 (t := 0) (by decide) rfl dX8_twins_31 ?_
    rw [hT.1]
    refine zicmp_ge (tgt := 103) dX8_twins_34 (by decide) (fun h => absurd h (nI_ge (by omega) (by omega))) (fun _ => ?_)
    refine ziload dX8_twins_37 rfl ?_
    refine ziconst (v := 1) dX8_twins_39 (by decide) ?_
    refine ziadd dX8_twins_40 ?_
    refine zistore dX8_twins_41 (by decide) rfl ?_
    refine zlvs (lv' := [(0, .ref (zad x 0)), (1, .int w), (3, .int c), (4, .int f), (5, .int (nI a)), (6, .int (nI (a + 1)))]) ⟨rfl, rfl, rfl, rfl, rfl, by rw [nI_succ a]; rfl, trivial⟩ ?_
    refine l1_X8_twins hR (by omega) k (a + 1) c f (by omega) ?_
    refine ziinc dX8_twins_97 rfl rfl (by decide) rfl ?_
    refine zgoto (tgt := 25) dX8_twins_100 (by decide) ?_
    refine zlvs (lv' := [(0, .ref (zad x 0)), (1, .int w), (3, .int _), (4, .int _), (5, .int (nI (a + 1)))]) ⟨rfl, rfl, rfl, rfl, by rw [nI_succ a]; rfl, trivial⟩ ?_
    exact ih (a + 1) _ _ (by omega) hr
set_option maxRecDepth 100000 in
set_option maxHeartbeats 4000000 in
theorem c_X8_twins (hR : RepC σ S) (hW : WS σ) (w : Int32) : zR x true mX8_twins [.ref (zad x 0), .int w] S (qC (whF w 2) (if w = 0 then (twO (sN σ) (sT σ) (sN σ) 0 0 (-9)).1 else (twO (sN σ) (sT σ) (sN σ) 0 0 (-9)).2) σ (σ)) := by
  have hT := hR.1
  have hn8 : sN σ ≤ 8 := hT.2.1
  refine zC_of (by decide +kernel) (Nat.le_of_ble_eq_true rfl) ?_
  by_cases he : whF w 2 = 0
  · refine ziload_n dX8_twins_0 rfl ?_
    refine ziconst (v := 2) dX8_twins_1 (by decide) ?_
    refine zcSf  gk_X8_99 dX8_twins_2 c_X8_whatFault rfl (by decide) (Nat.le_of_ble_eq_true rfl) ?_ rfl
    refine zistore_n dX8_twins_5 (by decide) rfl ?_
    refine ziload_n dX8_twins_6 rfl ?_
    refine zif_eq (tgt := 16) dX8_twins_7 (by decide) (fun _ => ?_) (fun h => absurd he h)
    refine ziconst (v := 0) dX8_twins_16 (by decide) ?_
    refine zistore_n dX8_twins_17 (by decide) rfl ?_
    refine zbipush (v := -9) dX8_twins_18 (by decide) ?_
    refine zistore dX8_twins_20 (by decide) rfl ?_
    refine ziconst (v := 0) dX8_twins_22 (by decide) ?_
    refine zistore dX8_twins_23 (by decide) rfl ?_
    refine zlvs (lv' := [(0, .ref (zad x 0)), (1, .int w), (3, .int 0), (4, .int (-9)), (5, .int (nI 0))]) ⟨rfl, rfl, rfl, rfl, rfl, trivial⟩ ?_
    exact zZ_mono (l_X8_twins hR _ (sN σ) 0 0 (-9) (by omega) rfl) (fun q U h => ⟨_, h.1, by rw [h.2]; exact qC_ok he rfl hR⟩)
  · refine ziload_n dX8_twins_0 rfl ?_
    refine ziconst (v := 2) dX8_twins_1 (by decide) ?_
    refine zcSf  gk_X8_99 dX8_twins_2 c_X8_whatFault rfl (by decide) (Nat.le_of_ble_eq_true rfl) ?_ rfl
    refine zistore_n dX8_twins_5 (by decide) rfl ?_
    refine ziload_n dX8_twins_6 rfl ?_
    refine zif_eq (tgt := 16) dX8_twins_7 (by decide) (fun h => absurd h he) (fun _ => ?_)
    refine zaload_n dX8_twins_10 rfl ?_
    refine ziload_n dX8_twins_11 rfl ?_
    refine zcVf ob_X gk_X8_77 dX8_twins_12 (c_X8_refuse (okE.e (okE_whF _ _) he)) rfl (by decide) (Nat.le_of_ble_eq_true rfl) ?_ rfl
    exact zireturn dX8_twins_15 rfl rfl ⟨_, rfl, qC_no rfl (okE.e (okE_whF _ _) he) hR⟩
set_option maxRecDepth 100000 in
set_option maxHeartbeats 4000000 in
theorem l1_X9_twins (hR : RepM σ S) {w : Int32} {a : Nat} {post : Option Value → zSt → Prop} (ha : a < sN σ) : ∀ (k b : Nat) (c f : Int32), b + k = sN σ → (zZ x false mX9_twins post 131 [(0, .ref (zad x 0)), (1, .int w), (2, .int (twI (sT σ) a k b c f).1), (3, .int (twI (sT σ) a k b c f).2), (4, .int (nI a))] [] S) → zZ x false mX9_twins post 41 [(0, .ref (zad x 0)), (1, .int w), (2, .int c), (3, .int f), (4, .int (nI a)), (5, .int (nI b))] [] S := by
  have hM := hR.1
  have hn8 : sN σ ≤ 8 := hM.2.1
  intro k
  induction k with
  | zero =>
    intro b c f hb kk
    refine ziload dX9_twins_41 rfl ?_
    refine zaload_n dX9_twins_43 rfl ?_
    refine gf_X9_9 rfl dX9_twins_44 ?_
    refine ziconst (v := nI 0) dX9_twins_47 (by decide) ?_
    refine ziald dX9_twins_48 (mrk hr1.2) (mrl hr1.1 hr1.2) (by decide) (by decide) ?_
    rw [hM.1]
    refine zicmp_ge (tgt := 131) dX9_twins_49 (by decide) (fun _ => ?_) (fun h => absurd (nI_le (by omega) (by omega)) h)
    refine zlvs (lv' := [(0, .ref (zad x 0)), (1, .int w), (2, .int c), (3, .int f), (4, .int (nI a))]) ⟨rfl, rfl, rfl, rfl, rfl, trivial⟩ ?_
    exact kk
  | succ k ih =>
    intro b c f hb kk
    rw [twI] at kk
    refine ziload dX9_twins_41 rfl ?_
    refine zaload_n dX9_twins_43 rfl ?_
    refine gf_X9_9 rfl dX9_twins_44 ?_
    refine ziconst (v := nI 0) dX9_twins_47 (by decide) ?_
    refine ziald dX9_twins_48 (mrk hr1.2) (mrl hr1.1 hr1.2) (by decide) (by decide) ?_
    rw [hM.1]
    refine zicmp_ge (tgt := 131) dX9_twins_49 (by decide) (fun h => absurd h (nI_ge (by omega) (by omega))) (fun _ => ?_)
    refine zaload_n dX9_twins_52 rfl ?_
    refine gf_X9_9 rfl dX9_twins_53 ?_
    refine ziload dX9_twins_56 rfl ?_
    refine ziconst (v := nI 4) dX9_twins_58 (by decide) ?_
    refine zcSf gk_X9_52 dX9_twins_59 (c_X9_of (j := 4)) rfl (by decide) (Nat.le_of_ble_eq_true rfl) ?_ rfl
    refine zialM (k := 1) (j := 4) (w := 5) dX9_twins_62 hr1 hM rfl (by decide) (by omega) ?_
    refine zaload_n dX9_twins_63 rfl ?_
    refine gf_X9_9 rfl dX9_twins_64 ?_
    refine ziload dX9_twins_67 rfl ?_
    refine ziconst (v := nI 4) dX9_twins_69 (by decide) ?_
    refine zcSf gk_X9_52 dX9_twins_70 (c_X9_of (j := 4)) rfl (by decide) (Nat.le_of_ble_eq_true rfl) ?_ rfl
    refine zialM (k := 1) (j := 4) (w := 5) dX9_twins_73 hr1 hM rfl (by decide) (by omega) ?_
    refine zicmp_ne (tgt := 125) dX9_twins_74 (by decide) (fun h74 => ?_) (fun h74 => ?_)
    · refine ziinc dX9_twins_125 rfl rfl (by decide) rfl ?_
      refine zgoto (tgt := 41) dX9_twins_128 (by decide) ?_
      refine zlvs (lv' := [(0, .ref (zad x 0)), (1, .int w), (2, .int _), (3, .int _), (4, .int (nI a)), (5, .int (nI (b + 1)))]) ⟨rfl, rfl, rfl, rfl, rfl, by rw [nI_succ b]; rfl, trivial⟩ ?_
      first
      | exact ih (b + 1) _ _ (by omega) (by rw [if_neg (fun z => h74 z.1)] at kk; exact kk)
      | exact ih (b + 1) _ _ (by omega) (by rw [if_neg (fun z => h99 z.2)] at kk; exact kk)
      | exact ih (b + 1) _ _ (by omega) (by rw [if_pos ⟨h74, h99⟩, if_neg h106] at kk; exact kk)
      | exact ih (b + 1) _ _ (by omega) (by rw [if_pos ⟨h74, h99⟩, if_pos h106] at kk; exact kk)
    · refine zaload_n dX9_twins_77 rfl ?_
      refine gf_X9_9 rfl dX9_twins_78 ?_
      refine ziload dX9_twins_81 rfl ?_
      refine ziconst (v := nI 5) dX9_twins_83 (by decide) ?_
      refine zcSf gk_X9_52 dX9_twins_84 (c_X9_of (j := 5)) rfl (by decide) (Nat.le_of_ble_eq_true rfl) ?_ rfl
      refine zialM (k := 1) (j := 5) (w := 6) dX9_twins_87 hr1 hM rfl (by decide) (by omega) ?_
      refine zaload_n dX9_twins_88 rfl ?_
      refine gf_X9_9 rfl dX9_twins_89 ?_
      refine ziload dX9_twins_92 rfl ?_
      refine ziconst (v := nI 5) dX9_twins_94 (by decide) ?_
      refine zcSf gk_X9_52 dX9_twins_95 (c_X9_of (j := 5)) rfl (by decide) (Nat.le_of_ble_eq_true rfl) ?_ rfl
      refine zialM (k := 1) (j := 5) (w := 6) dX9_twins_98 hr1 hM rfl (by decide) (by omega) ?_
      refine zicmp_eq (tgt := 105) dX9_twins_99 (by decide) (fun h99 => ?_) (fun h99 => ?_)
      · refine ziload_n dX9_twins_105 rfl ?_
        refine zif_ne (tgt := 120) dX9_twins_106 (by decide) (fun h106 => ?_) (fun h106 => ?_)
        · refine ziload_n dX9_twins_120 rfl ?_
          refine zistore_n dX9_twins_121 (by decide) rfl ?_
          refine ziinc dX9_twins_122 rfl rfl (by decide) rfl ?_
          refine ziinc dX9_twins_125 rfl rfl (by decide) rfl ?_
          refine zgoto (tgt := 41) dX9_twins_128 (by decide) ?_
          refine zlvs (lv' := [(0, .ref (zad x 0)), (1, .int w), (2, .int _), (3, .int _), (4, .int (nI a)), (5, .int (nI (b + 1)))]) ⟨rfl, rfl, rfl, rfl, rfl, by rw [nI_succ b]; rfl, trivial⟩ ?_
          first
          | exact ih (b + 1) _ _ (by omega) (by rw [if_neg (fun z => h74 z.1)] at kk; exact kk)
          | exact ih (b + 1) _ _ (by omega) (by rw [if_neg (fun z => h99 z.2)] at kk; exact kk)
          | exact ih (b + 1) _ _ (by omega) (by rw [if_pos ⟨h74, h99⟩, if_neg h106] at kk; exact kk)
          | exact ih (b + 1) _ _ (by omega) (by rw [if_pos ⟨h74, h99⟩, if_pos h106] at kk; exact kk)
        · refine zbipush (v := 10) dX9_twins_109 (by decide) ?_
          refine ziload dX9_twins_111 rfl ?_
          refine zimul dX9_twins_113 ?_
          refine ziload dX9_twins_114 rfl ?_
          refine ziadd dX9_twins_116 ?_
          refine zgoto (tgt := 121) dX9_twins_117 (by decide) ?_
          refine zistore_n dX9_twins_121 (by decide) rfl ?_
          refine ziinc dX9_twins_122 rfl rfl (by decide) rfl ?_
          refine ziinc dX9_twins_125 rfl rfl (by decide) rfl ?_
          refine zgoto (tgt := 41) dX9_twins_128 (by decide) ?_
          refine zlvs (lv' := [(0, .ref (zad x 0)), (1, .int w), (2, .int _), (3, .int _), (4, .int (nI a)), (5, .int (nI (b + 1)))]) ⟨rfl, rfl, rfl, rfl, rfl, by rw [nI_succ b]; rfl, trivial⟩ ?_
          first
          | exact ih (b + 1) _ _ (by omega) (by rw [if_neg (fun z => h74 z.1)] at kk; exact kk)
          | exact ih (b + 1) _ _ (by omega) (by rw [if_neg (fun z => h99 z.2)] at kk; exact kk)
          | exact ih (b + 1) _ _ (by omega) (by rw [if_pos ⟨h74, h99⟩, if_neg h106] at kk; exact kk)
          | exact ih (b + 1) _ _ (by omega) (by rw [if_pos ⟨h74, h99⟩, if_pos h106] at kk; exact kk)
      · refine zgoto (tgt := 125) dX9_twins_102 (by decide) ?_
        refine ziinc dX9_twins_125 rfl rfl (by decide) rfl ?_
        refine zgoto (tgt := 41) dX9_twins_128 (by decide) ?_
        refine zlvs (lv' := [(0, .ref (zad x 0)), (1, .int w), (2, .int _), (3, .int _), (4, .int (nI a)), (5, .int (nI (b + 1)))]) ⟨rfl, rfl, rfl, rfl, rfl, by rw [nI_succ b]; rfl, trivial⟩ ?_
        first
        | exact ih (b + 1) _ _ (by omega) (by rw [if_neg (fun z => h74 z.1)] at kk; exact kk)
        | exact ih (b + 1) _ _ (by omega) (by rw [if_neg (fun z => h99 z.2)] at kk; exact kk)
        | exact ih (b + 1) _ _ (by omega) (by rw [if_pos ⟨h74, h99⟩, if_neg h106] at kk; exact kk)
        | exact ih (b + 1) _ _ (by omega) (by rw [if_pos ⟨h74, h99⟩, if_pos h106] at kk; exact kk)
set_option maxRecDepth 100000 in
set_option maxHeartbeats 4000000 in
theorem l_X9_twins (hR : RepM σ S) {w : Int32} (r : Int32) : ∀ (k a : Nat) (c f : Int32), a + k = sN σ → (if w = 0 then (twO (sN σ) (sT σ) k a c f).1 else (twO (sN σ) (sT σ) k a c f).2) = r → zZ x false mX9_twins (fun q T => q = some (.int r) ∧ T = S) 24 [(0, .ref (zad x 0)), (1, .int w), (2, .int c), (3, .int f), (4, .int (nI a))] [] S := by
  have hM := hR.1
  have hn8 : sN σ ≤ 8 := hM.2.1
  intro k
  induction k with
  | zero =>
    intro a c f ha hr
    by_cases hw : w = 0
    · refine ziload dX9_twins_24 rfl ?_
      refine zaload_n dX9_twins_26 rfl ?_
      refine gf_X9_9 rfl dX9_twins_27 ?_
      refine ziconst (v := nI 0) dX9_twins_30 (by decide) ?_
      refine ziald dX9_twins_31 (mrk hr1.2) (mrl hr1.1 hr1.2) (by decide) (by decide) ?_
      rw [hM.1]
      refine zicmp_ge (tgt := 137) dX9_twins_32 (by decide) (fun _ => ?_) (fun h => absurd (nI_le (by omega) (by omega)) h)
      refine ziload_n dX9_twins_137 rfl ?_
      refine zif_ne (tgt := 145) dX9_twins_138 (by decide) (fun h => absurd hw h) (fun _ => ?_)
      refine ziload_n dX9_twins_141 rfl ?_
      refine zgoto (tgt := 146) dX9_twins_142 (by decide) ?_
      exact zireturn dX9_twins_146 rfl rfl ⟨by rw [← hr, if_pos hw]; rfl, rfl⟩
    · refine ziload dX9_twins_24 rfl ?_
      refine zaload_n dX9_twins_26 rfl ?_
      refine gf_X9_9 rfl dX9_twins_27 ?_
      refine ziconst (v := nI 0) dX9_twins_30 (by decide) ?_
      refine ziald dX9_twins_31 (mrk hr1.2) (mrl hr1.1 hr1.2) (by decide) (by decide) ?_
      rw [hM.1]
      refine zicmp_ge (tgt := 137) dX9_twins_32 (by decide) (fun _ => ?_) (fun h => absurd (nI_le (by omega) (by omega)) h)
      refine ziload_n dX9_twins_137 rfl ?_
      refine zif_ne (tgt := 145) dX9_twins_138 (by decide) (fun _ => ?_) (fun h => absurd h hw)
      refine ziload_n dX9_twins_145 rfl ?_
      exact zireturn dX9_twins_146 rfl rfl ⟨by rw [← hr, if_neg hw]; rfl, rfl⟩
  | succ k ih =>
    intro a c f ha hr
    rw [twO] at hr
    refine ziload dX9_twins_24 rfl ?_
    refine zaload_n dX9_twins_26 rfl ?_
    refine gf_X9_9 rfl dX9_twins_27 ?_
    refine ziconst (v := nI 0) dX9_twins_30 (by decide) ?_
    refine ziald dX9_twins_31 (mrk hr1.2) (mrl hr1.1 hr1.2) (by decide) (by decide) ?_
    rw [hM.1]
    refine zicmp_ge (tgt := 137) dX9_twins_32 (by decide) (fun h => absurd h (nI_ge (by omega) (by omega))) (fun _ => ?_)
    refine ziload dX9_twins_35 rfl ?_
    refine ziconst (v := 1) dX9_twins_37 (by decide) ?_
    refine ziadd dX9_twins_38 ?_
    refine zistore dX9_twins_39 (by decide) rfl ?_
    refine zlvs (lv' := [(0, .ref (zad x 0)), (1, .int w), (2, .int c), (3, .int f), (4, .int (nI a)), (5, .int (nI (a + 1)))]) ⟨rfl, rfl, rfl, rfl, rfl, by rw [nI_succ a]; rfl, trivial⟩ ?_
    refine l1_X9_twins hR (by omega) k (a + 1) c f (by omega) ?_
    refine ziinc dX9_twins_131 rfl rfl (by decide) rfl ?_
    refine zgoto (tgt := 24) dX9_twins_134 (by decide) ?_
    refine zlvs (lv' := [(0, .ref (zad x 0)), (1, .int w), (2, .int _), (3, .int _), (4, .int (nI (a + 1)))]) ⟨rfl, rfl, rfl, rfl, by rw [nI_succ a]; rfl, trivial⟩ ?_
    exact ih (a + 1) _ _ (by omega) hr
set_option maxRecDepth 100000 in
set_option maxHeartbeats 4000000 in
theorem c_X9_twins (hR : RepM σ S) (hW : WS σ) (w : Int32) : zR x false mX9_twins [.ref (zad x 0), .int w] S (qM (whF w 2) (if w = 0 then (twO (sN σ) (sT σ) (sN σ) 0 0 (-9)).1 else (twO (sN σ) (sT σ) (sN σ) 0 0 (-9)).2) σ (σ)) := by
  have hM := hR.1
  have hn8 : sN σ ≤ 8 := hM.2.1
  refine zC_of (by decide +kernel) (Nat.le_of_ble_eq_true rfl) ?_
  by_cases he : whF w 2 = 0
  · refine ziload_n dX9_twins_0 rfl ?_
    refine ziconst (v := 0) dX9_twins_1 (by decide) ?_
    refine ziconst (v := 1) dX9_twins_2 (by decide) ?_
    refine zcSf  gk_X9_44 dX9_twins_3 c_isIn_1 rfl (by decide) (Nat.le_of_ble_eq_true rfl) ?_ rfl
    refine zifb_ne (tgt := 16) dX9_twins_6 (by decide) (fun _ => ?_) (fun h => absurd (h.symm.trans (decide_eq_true he)) (by decide))
    refine ziconst (v := 0) dX9_twins_16 (by decide) ?_
    refine zistore_n dX9_twins_17 (by decide) rfl ?_
    refine zbipush (v := -9) dX9_twins_18 (by decide) ?_
    refine zistore_n dX9_twins_20 (by decide) rfl ?_
    refine ziconst (v := 0) dX9_twins_21 (by decide) ?_
    refine zistore dX9_twins_22 (by decide) rfl ?_
    refine zlvs (lv' := [(0, .ref (zad x 0)), (1, .int w), (2, .int 0), (3, .int (-9)), (4, .int (nI 0))]) ⟨rfl, rfl, rfl, rfl, rfl, trivial⟩ ?_
    exact zZ_mono (l_X9_twins hR _ (sN σ) 0 0 (-9) (by omega) rfl) (fun q U h => ⟨_, h.1, by rw [h.2]; exact qM_ok he rfl hR⟩)
  · refine ziload_n dX9_twins_0 rfl ?_
    refine ziconst (v := 0) dX9_twins_1 (by decide) ?_
    refine ziconst (v := 1) dX9_twins_2 (by decide) ?_
    refine zcSf  gk_X9_44 dX9_twins_3 c_isIn_1 rfl (by decide) (Nat.le_of_ble_eq_true rfl) ?_ rfl
    refine zifb_ne (tgt := 16) dX9_twins_6 (by decide) (fun h => absurd (h.symm.trans (decide_eq_false he)) (by decide)) (fun _ => ?_)
    refine zaload_n dX9_twins_9 rfl ?_
    refine zbipush (v := -2) dX9_twins_10 (by decide) ?_
    refine zcVf ob_Mo gk_X9_38 dX9_twins_12 (c_X9_no isE_2) rfl (by decide) (Nat.le_of_ble_eq_true rfl) ?_ rfl
    exact zireturn dX9_twins_15 rfl rfl ⟨_, rfl, qM_no (whF_2 he) isE_2 hR⟩
def ownB (n : Nat) (T : Tw) : Bool := aF (fun p => decide (T 4 p = nI p)) n 0
def homeF (n : Nat) : Nat → Nat → Tw → Int32
  | 0, _, _ => -9
  | k + 1, j, T => if ownB n T = true then nI j else homeF n k (j + 1) (monthT n T)
def fstF (n : Nat) (w : Int32) : Nat → Nat → Tw → Int32
  | 0, _, _ => -9
  | k + 1, j, T => if wF (T 5) 0 n 0 = -9 then fstF n w k (j + 1) (monthT n T) else if w = 0 then wF (T 5) 0 n 0 else nI j
set_option maxRecDepth 100000 in
set_option maxHeartbeats 4000000 in
theorem l_X8_monthsTillHome {n : Nat} {S0 : zSt} (r : Int32) : ∀ (k i : Nat) (S : zSt) (T : Tw), i + k = 61 → isT S 1 n T → VW n T → frT 1 S0 S → homeF n k i T = r → zZ x true mX8_monthsTillHome (fun q U => ∃ v : Int32, q = some (.int v) ∧ v = r ∧ frT 1 S0 U) 13 [(0, .ref (zad x 0)), (1, .int (nI i))] [] S := by
  intro k
  induction k with
  | zero =>
    intro i S T hi hT2 hV hf hr
    refine ziload_n dX8_monthsTillHome_13 rfl ?_
    refine zbipush (v := 60) dX8_monthsTillHome_14 (by decide) ?_
    refine zicmp_gt (tgt := 45) dX8_monthsTillHome_16 (by decide) (fun _ => ?_) (fun h => absurd (nI_lt (a := 60) (by omega) (by omega)) h)
    refine zbipush (v := -9) dX8_monthsTillHome_45 (by decide) ?_
    exact zireturn dX8_monthsTillHome_47 rfl rfl ⟨_, rfl, hr, hf⟩
  | succ k ih =>
    intro i S T hi hT2 hV hf hr
    have hn8 := hT2.2.1
    rw [homeF] at hr
    refine ziload_n dX8_monthsTillHome_13 rfl ?_
    refine zbipush (v := 60) dX8_monthsTillHome_14 (by decide) ?_
    refine zicmp_gt (tgt := 45) dX8_monthsTillHome_16 (by decide) (fun h => absurd h (nI_nlt (a := 60) (by omega) (by omega))) (fun _ => ?_)
    refine zaload_n dX8_monthsTillHome_19 rfl ?_
    refine gf_X8_36 rfl dX8_monthsTillHome_20 ?_
    refine zcVf (ob_town (t := 1) (by decide)) gk_X8_179 dX8_monthsTillHome_23 (show zF x true mX7_allWearTheirOwn _ S (some (.int (bI (ownB n T)))) S from c_X7_allWearTheirOwn (t := 1) (by decide) hT2) rfl (by decide) (Nat.le_of_ble_eq_true rfl) ?_ rfl
    refine zifb_eq (tgt := 31) dX8_monthsTillHome_26 (by decide) (fun h26 => ?_) (fun h26 => ?_)
    · refine zaload_n dX8_monthsTillHome_31 rfl ?_
      refine gf_X8_36 rfl dX8_monthsTillHome_32 ?_
      refine ziconst (v := nI 1) dX8_monthsTillHome_35 (by decide) ?_
      refine zcVn (ob_town (t := 1) (by decide)) gk_X8_166 dX8_monthsTillHome_36 (c_X7_goOn (t := 1) (by decide) hT2 hV (K := 1) (by decide)) rfl (by decide) (Nat.le_of_ble_eq_true rfl) (fun S3 hp3 => ?_) rfl
      obtain ⟨hT3, hV3, -, hf3⟩ := hp3
      refine ziinc dX8_monthsTillHome_39 rfl rfl (by decide) rfl ?_
      refine zgoto (tgt := 13) dX8_monthsTillHome_42 (by decide) ?_
      refine zlvs (lv' := [(0, .ref (zad x 0)), (1, .int (nI (i + 1)))]) ⟨rfl, by rw [nI_succ i]; rfl, trivial⟩ ?_
      exact ih (i + 1) S3 _ (by omega) hT3 hV3 (hf.trans hf3) (by rw [← hr, if_neg (by rw [h26]; decide)]; rfl)
    · refine ziload_n dX8_monthsTillHome_29 rfl ?_
      exact zireturn dX8_monthsTillHome_30 rfl rfl ⟨_, rfl, by rw [← hr, if_pos h26], hf⟩
set_option maxRecDepth 100000 in
set_option maxHeartbeats 4000000 in
theorem c_X8_monthsTillHome {n : Nat} {T : Tw} (hT : isT S 0 n T) (hV : VW n T) : zR x true mX8_monthsTillHome [.ref (zad x 0)] S (fun r S' => r = homeF n 61 0 T ∧ frT 1 S S') := by
  refine zC_of (by decide +kernel) (Nat.le_of_ble_eq_true rfl) ?_
  refine zaload_n dX8_monthsTillHome_0 rfl ?_
  refine gf_X8_36 rfl dX8_monthsTillHome_1 ?_
  refine zaload_n dX8_monthsTillHome_4 rfl ?_
  refine gf_X8_30 rfl dX8_monthsTillHome_5 ?_
  refine zcVn (ob_town (t := 1) (by decide)) gk_X8_88 dX8_monthsTillHome_8 (c_X7_becomeLike (t := 1) (u := 0) (by decide) (by decide) (by decide) hT) rfl (by decide) (Nat.le_of_ble_eq_true rfl) (fun S2 hp2 => ?_) rfl
  obtain ⟨hT2, -, hf2⟩ := hp2
  refine ziconst (v := 0) dX8_monthsTillHome_11 (by decide) ?_
  refine zistore_n dX8_monthsTillHome_12 (by decide) rfl ?_
  refine zlvs (lv' := [(0, .ref (zad x 0)), (1, .int (nI 0))]) ⟨rfl, rfl, trivial⟩ ?_
  exact l_X8_monthsTillHome _ 61 0 S2 T (by omega) hT2 hV hf2 rfl
set_option maxRecDepth 100000 in
set_option maxHeartbeats 4000000 in
theorem l_X8_firstWithoutFame {w : Int32} {n : Nat} {S0 : zSt} (r : Int32) : ∀ (k i : Nat) (S : zSt) (T : Tw), i + k = 61 → isT S 1 n T → VW n T → frT 1 S0 S → fstF n w k i T = r → zZ x true mX8_firstWithoutFame (fun q U => ∃ v : Int32, q = some (.int v) ∧ v = r ∧ frT 1 S0 U) 13 [(0, .ref (zad x 0)), (1, .int w), (2, .int (nI i))] [] S := by
  intro k
  induction k with
  | zero =>
    intro i S T hi hT2 hV hf hr
    refine ziload_n dX8_firstWithoutFame_13 rfl ?_
    refine zbipush (v := 60) dX8_firstWithoutFame_14 (by decide) ?_
    refine zicmp_gt (tgt := 57) dX8_firstWithoutFame_16 (by decide) (fun _ => ?_) (fun h => absurd (nI_lt (a := 60) (by omega) (by omega)) h)
    refine zbipush (v := -9) dX8_firstWithoutFame_57 (by decide) ?_
    exact zireturn dX8_firstWithoutFame_59 rfl rfl ⟨_, rfl, hr, hf⟩
  | succ k ih =>
    intro i S T hi hT2 hV hf hr
    have hn8 := hT2.2.1
    rw [fstF] at hr
    refine ziload_n dX8_firstWithoutFame_13 rfl ?_
    refine zbipush (v := 60) dX8_firstWithoutFame_14 (by decide) ?_
    refine zicmp_gt (tgt := 57) dX8_firstWithoutFame_16 (by decide) (fun h => absurd h (nI_nlt (a := 60) (by omega) (by omega))) (fun _ => ?_)
    refine zaload_n dX8_firstWithoutFame_19 rfl ?_
    refine gf_X8_36 rfl dX8_firstWithoutFame_20 ?_
    refine zcVf (ob_town (t := 1) (by decide)) gk_X8_183 dX8_firstWithoutFame_23 (c_X7_faceWithoutFame (t := 1) (by decide) hT2) rfl (by decide) (Nat.le_of_ble_eq_true rfl) ?_ rfl
    refine zistore_n dX8_firstWithoutFame_26 (by decide) rfl ?_
    refine ziload_n dX8_firstWithoutFame_27 rfl ?_
    refine zbipush (v := -9) dX8_firstWithoutFame_28 (by decide) ?_
    refine zicmp_eq (tgt := 43) dX8_firstWithoutFame_30 (by decide) (fun h30 => ?_) (fun h30 => ?_)
    · refine zaload_n dX8_firstWithoutFame_43 rfl ?_
      refine gf_X8_36 rfl dX8_firstWithoutFame_44 ?_
      refine ziconst (v := nI 1) dX8_firstWithoutFame_47 (by decide) ?_
      refine zcVn (ob_town (t := 1) (by decide)) gk_X8_166 dX8_firstWithoutFame_48 (c_X7_goOn (t := 1) (by decide) hT2 hV (K := 1) (by decide)) rfl (by decide) (Nat.le_of_ble_eq_true rfl) (fun S3 hp3 => ?_) rfl
      obtain ⟨hT3, hV3, -, hf3⟩ := hp3
      refine ziinc dX8_firstWithoutFame_51 rfl rfl (by decide) rfl ?_
      refine zgoto (tgt := 13) dX8_firstWithoutFame_54 (by decide) ?_
      refine zlvs (lv' := [(0, .ref (zad x 0)), (1, .int w), (2, .int (nI (i + 1)))]) ⟨rfl, rfl, by rw [nI_succ i]; rfl, trivial⟩ ?_
      exact ih (i + 1) S3 _ (by omega) hT3 hV3 (hf.trans hf3) (by rw [← hr, if_pos h30]; rfl)
    · refine ziload_n dX8_firstWithoutFame_33 rfl ?_
      refine zif_ne (tgt := 41) dX8_firstWithoutFame_34 (by decide) (fun h34 => ?_) (fun h34 => ?_)
      · refine ziload_n dX8_firstWithoutFame_41 rfl ?_
        first
        | exact zireturn dX8_firstWithoutFame_42 rfl rfl ⟨_, rfl, by rw [← hr, if_neg h30, if_neg h34], hf⟩
        | exact zireturn dX8_firstWithoutFame_42 rfl rfl ⟨_, rfl, by rw [← hr, if_neg h30, if_pos h34], hf⟩
      · refine ziload_n dX8_firstWithoutFame_37 rfl ?_
        refine zgoto (tgt := 42) dX8_firstWithoutFame_38 (by decide) ?_
        first
        | exact zireturn dX8_firstWithoutFame_42 rfl rfl ⟨_, rfl, by rw [← hr, if_neg h30, if_neg h34], hf⟩
        | exact zireturn dX8_firstWithoutFame_42 rfl rfl ⟨_, rfl, by rw [← hr, if_neg h30, if_pos h34], hf⟩
set_option maxRecDepth 100000 in
set_option maxHeartbeats 4000000 in
theorem c_X8_firstWithoutFame {w : Int32} {n : Nat} {T : Tw} (hT : isT S 0 n T) (hV : VW n T) : zR x true mX8_firstWithoutFame [.ref (zad x 0), .int w] S (fun r S' => r = fstF n w 61 0 T ∧ frT 1 S S') := by
  refine zC_of (by decide +kernel) (Nat.le_of_ble_eq_true rfl) ?_
  refine zaload_n dX8_firstWithoutFame_0 rfl ?_
  refine gf_X8_36 rfl dX8_firstWithoutFame_1 ?_
  refine zaload_n dX8_firstWithoutFame_4 rfl ?_
  refine gf_X8_30 rfl dX8_firstWithoutFame_5 ?_
  refine zcVn (ob_town (t := 1) (by decide)) gk_X8_88 dX8_firstWithoutFame_8 (c_X7_becomeLike (t := 1) (u := 0) (by decide) (by decide) (by decide) hT) rfl (by decide) (Nat.le_of_ble_eq_true rfl) (fun S2 hp2 => ?_) rfl
  obtain ⟨hT2, -, hf2⟩ := hp2
  refine ziconst (v := 0) dX8_firstWithoutFame_11 (by decide) ?_
  refine zistore_n dX8_firstWithoutFame_12 (by decide) rfl ?_
  refine zlvs (lv' := [(0, .ref (zad x 0)), (1, .int w), (2, .int (nI 0))]) ⟨rfl, rfl, rfl, trivial⟩ ?_
  exact l_X8_firstWithoutFame _ 61 0 S2 T (by omega) hT2 hV hf2 rfl
set_option maxRecDepth 100000 in
set_option maxHeartbeats 4000000 in
theorem c_X8_first (hR : RepC σ S) (hW : WS σ) (w : Int32) : zR x true mX8_first [.ref (zad x 0), .int w] S (qC (whF w 3) (if w = 2 then homeF (sN σ) 61 0 (sT σ) else fstF (sN σ) w 61 0 (sT σ)) σ (σ)) := by
  have hT := hR.1
  have hn8 : sN σ ≤ 8 := hT.2.1
  refine zC_of (by decide +kernel) (Nat.le_of_ble_eq_true rfl) ?_
  by_cases he : whF w 3 = 0
  · by_cases hw : w = 2
    · refine ziload_n dX8_first_0 rfl ?_
      refine ziconst (v := 3) dX8_first_1 (by decide) ?_
      refine zcSf  gk_X8_99 dX8_first_2 c_X8_whatFault rfl (by decide) (Nat.le_of_ble_eq_true rfl) ?_ rfl
      refine zistore_n dX8_first_5 (by decide) rfl ?_
      refine ziload_n dX8_first_6 rfl ?_
      refine zif_eq (tgt := 16) dX8_first_7 (by decide) (fun _ => ?_) (fun h => absurd he h)
      refine ziload_n dX8_first_16 rfl ?_
      refine ziconst (v := 2) dX8_first_17 (by decide) ?_
      refine zicmp_ne (tgt := 28) dX8_first_18 (by decide) (fun h => absurd hw h) (fun _ => ?_)
      refine zaload_n dX8_first_21 rfl ?_
      refine zcVr ob_X gk_X8_173 dX8_first_22 (c_X8_monthsTillHome hT hW.1.vw) rfl (by decide) (Nat.le_of_ble_eq_true rfl) (fun r S2 hp2 => ?_) rfl
      obtain ⟨rfl, hf2⟩ := hp2
      refine zgoto (tgt := 33) dX8_first_25 (by decide) ?_
      exact zireturn dX8_first_33 rfl rfl ⟨_, rfl, qC_ok he (by rw [if_pos hw]) (hR.mind hf2)⟩
    · refine ziload_n dX8_first_0 rfl ?_
      refine ziconst (v := 3) dX8_first_1 (by decide) ?_
      refine zcSf  gk_X8_99 dX8_first_2 c_X8_whatFault rfl (by decide) (Nat.le_of_ble_eq_true rfl) ?_ rfl
      refine zistore_n dX8_first_5 (by decide) rfl ?_
      refine ziload_n dX8_first_6 rfl ?_
      refine zif_eq (tgt := 16) dX8_first_7 (by decide) (fun _ => ?_) (fun h => absurd he h)
      refine ziload_n dX8_first_16 rfl ?_
      refine ziconst (v := 2) dX8_first_17 (by decide) ?_
      refine zicmp_ne (tgt := 28) dX8_first_18 (by decide) (fun _ => ?_) (fun h => absurd h hw)
      refine zaload_n dX8_first_28 rfl ?_
      refine ziload_n dX8_first_29 rfl ?_
      refine zcVr ob_X gk_X8_176 dX8_first_30 (c_X8_firstWithoutFame hT hW.1.vw) rfl (by decide) (Nat.le_of_ble_eq_true rfl) (fun r S2 hp2 => ?_) rfl
      obtain ⟨rfl, hf2⟩ := hp2
      exact zireturn dX8_first_33 rfl rfl ⟨_, rfl, qC_ok he (by rw [if_neg hw]) (hR.mind hf2)⟩
  · refine ziload_n dX8_first_0 rfl ?_
    refine ziconst (v := 3) dX8_first_1 (by decide) ?_
    refine zcSf  gk_X8_99 dX8_first_2 c_X8_whatFault rfl (by decide) (Nat.le_of_ble_eq_true rfl) ?_ rfl
    refine zistore_n dX8_first_5 (by decide) rfl ?_
    refine ziload_n dX8_first_6 rfl ?_
    refine zif_eq (tgt := 16) dX8_first_7 (by decide) (fun h => absurd h he) (fun _ => ?_)
    refine zaload_n dX8_first_10 rfl ?_
    refine ziload_n dX8_first_11 rfl ?_
    refine zcVf ob_X gk_X8_77 dX8_first_12 (c_X8_refuse (okE.e (okE_whF _ _) he)) rfl (by decide) (Nat.le_of_ble_eq_true rfl) ?_ rfl
    exact zireturn dX8_first_15 rfl rfl ⟨_, rfl, qC_no rfl (okE.e (okE_whF _ _) he) hR⟩
set_option maxRecDepth 100000 in
set_option maxHeartbeats 4000000 in
theorem l1_X9_first {w : Int32} {n j : Nat} {T : Tw} {post : Option Value → zSt → Prop} (hM : isM S 2 n T) (hw : w < 2) (hret : ∀ f, wF (T 5) 0 n 0 = nI f → f < n → post (some (.int (if w = 0 then nI f else nI j))) S) (hgo : wF (T 5) 0 n 0 = -9 → zZ x false mX9_first post 98 [(0, .ref (zad x 0)), (1, .int w), (2, .int (nI j))] [] S) : ∀ (k f : Nat), f + k = n → wF (T 5) 0 n 0 = wF (T 5) 0 k f → zZ x false mX9_first post 54 [(0, .ref (zad x 0)), (1, .int w), (2, .int (nI j)), (3, .int (nI f))] [] S := by
  have hn8 := hM.2.1
  intro k
  induction k with
  | zero =>
    intro f hf hr
    refine ziload_n dX9_first_54 rfl ?_
    refine zaload_n dX9_first_55 rfl ?_
    refine gf_X9_13 rfl dX9_first_56 ?_
    refine ziconst (v := nI 0) dX9_first_59 (by decide) ?_
    refine ziald dX9_first_60 (mrk hr2.2) (mrl hr2.1 hr2.2) (by decide) (by decide) ?_
    rw [hM.1]
    refine zicmp_ge (tgt := 98) dX9_first_61 (by decide) (fun _ => ?_) (fun h => absurd (nI_le (by omega) (by omega)) h)
    refine zlvs (lv' := [(0, .ref (zad x 0)), (1, .int w), (2, .int (nI j))]) ⟨rfl, rfl, rfl, trivial⟩ ?_
    exact hgo hr
  | succ k ih =>
    intro f hf hr
    rw [wF] at hr
    refine ziload_n dX9_first_54 rfl ?_
    refine zaload_n dX9_first_55 rfl ?_
    refine gf_X9_13 rfl dX9_first_56 ?_
    refine ziconst (v := nI 0) dX9_first_59 (by decide) ?_
    refine ziald dX9_first_60 (mrk hr2.2) (mrl hr2.1 hr2.2) (by decide) (by decide) ?_
    rw [hM.1]
    refine zicmp_ge (tgt := 98) dX9_first_61 (by decide) (fun h => absurd h (nI_ge (by omega) (by omega))) (fun _ => ?_)
    refine ziload_n dX9_first_64 rfl ?_
    refine ziconst (v := 2) dX9_first_65 (by decide) ?_
    refine zicmp_ge (tgt := 98) dX9_first_66 (by decide) (fun h => absurd h (Int32.not_le.mpr hw)) (fun _ => ?_)
    refine zaload_n dX9_first_69 rfl ?_
    refine gf_X9_13 rfl dX9_first_70 ?_
    refine ziload_n dX9_first_73 rfl ?_
    refine ziconst (v := nI 4) dX9_first_74 (by decide) ?_
    refine zcSf gk_X9_52 dX9_first_75 (c_X9_of (j := 4)) rfl (by decide) (Nat.le_of_ble_eq_true rfl) ?_ rfl
    refine zialM (k := 2) (j := 4) (w := 5) dX9_first_78 hr2 hM rfl (by decide) (by omega) ?_
    refine zif_ne (tgt := 92) dX9_first_79 (by decide) (fun h79 => ?_) (fun h79 => ?_)
    · refine ziinc dX9_first_92 rfl rfl (by decide) rfl ?_
      refine zgoto (tgt := 54) dX9_first_95 (by decide) ?_
      refine zlvs (lv' := [(0, .ref (zad x 0)), (1, .int w), (2, .int (nI j)), (3, .int (nI (f + 1)))]) ⟨rfl, rfl, rfl, by rw [nI_succ f]; rfl, trivial⟩ ?_
      exact ih (f + 1) (by omega) (by rw [hr, if_neg h79])
    · refine ziload_n dX9_first_82 rfl ?_
      refine zif_ne (tgt := 90) dX9_first_83 (by decide) (fun h83 => ?_) (fun h83 => ?_)
      · refine ziload_n dX9_first_90 rfl ?_
        have hq := hret f (by rw [hr, if_pos h79]) (by omega)
        first
        | (rw [if_neg h83] at hq; exact zireturn dX9_first_91 rfl rfl hq)
        | (rw [if_pos h83] at hq; exact zireturn dX9_first_91 rfl rfl hq)
      · refine ziload_n dX9_first_86 rfl ?_
        refine zgoto (tgt := 91) dX9_first_87 (by decide) ?_
        have hq := hret f (by rw [hr, if_pos h79]) (by omega)
        first
        | (rw [if_neg h83] at hq; exact zireturn dX9_first_91 rfl rfl hq)
        | (rw [if_pos h83] at hq; exact zireturn dX9_first_91 rfl rfl hq)
set_option maxRecDepth 100000 in
set_option maxHeartbeats 4000000 in
theorem l_X9_first {w : Int32} (h3 : whF w 3 = 0) {n : Nat} {S0 : zSt} (r : Int32) : ∀ (k i : Nat) (S : zSt) (T : Tw), i + k = 61 → isM S 2 n T → MW n T → frM 2 S0 S → (if w = 2 then homeF n k i T else fstF n w k i T) = r → zZ x false mX9_first (fun q U => ∃ v : Int32, q = some (.int v) ∧ v = r ∧ frM 2 S0 U) 29 [(0, .ref (zad x 0)), (1, .int w), (2, .int (nI i))] [] S := by
  intro k
  induction k with
  | zero =>
    intro i S T hi hM hW hf hr
    refine ziload_n dX9_first_29 rfl ?_
    refine zbipush (v := 60) dX9_first_30 (by decide) ?_
    refine zicmp_gt (tgt := 111) dX9_first_32 (by decide) (fun _ => ?_) (fun h => absurd (nI_lt (a := 60) (by omega) (by omega)) h)
    refine zbipush (v := -9) dX9_first_111 (by decide) ?_
    exact zireturn dX9_first_113 rfl rfl ⟨_, rfl, by rw [← hr]; split <;> rfl, hf⟩
  | succ k ih =>
    intro i S T hi hM hW hf hr
    have hn8 := hM.2.1
    have go : (if w = 2 then homeF n k (i + 1) (monthT n T) else fstF n w k (i + 1) (monthT n T)) = r → zZ x false mX9_first (fun q U => ∃ v : Int32, q = some (.int v) ∧ v = r ∧ frM 2 S0 U) 98 [(0, .ref (zad x 0)), (1, .int w), (2, .int (nI i))] [] S := by
      intro hgo2
      refine zaload_n dX9_first_98 rfl ?_
      refine gf_X9_13 rfl dX9_first_99 ?_
      refine zcSn  gk_X9_84 dX9_first_102 (c_X9_month hr2 hM hW) rfl (by decide) (Nat.le_of_ble_eq_true rfl) (fun S3 hp3 => ?_) rfl
      obtain ⟨hM3, hW3, -, hf3⟩ := hp3
      refine ziinc dX9_first_105 rfl rfl (by decide) rfl ?_
      refine zgoto (tgt := 29) dX9_first_108 (by decide) ?_
      refine zlvs (lv' := [(0, .ref (zad x 0)), (1, .int w), (2, .int (nI (i + 1)))]) ⟨rfl, rfl, by rw [nI_succ i]; rfl, trivial⟩ ?_
      exact ih (i + 1) S3 _ (by omega) hM3 hW3 (hf.trans hf3) hgo2
    by_cases h2 : w = 2
    · rw [if_pos h2, homeF] at hr
      by_cases ho : ownB n T = true
      · refine ziload_n dX9_first_29 rfl ?_
        refine zbipush (v := 60) dX9_first_30 (by decide) ?_
        refine zicmp_gt (tgt := 111) dX9_first_32 (by decide) (fun h => absurd h (nI_nlt (a := 60) (by omega) (by omega))) (fun _ => ?_)
        refine ziload_n dX9_first_35 rfl ?_
        refine ziconst (v := 2) dX9_first_36 (by decide) ?_
        refine zicmp_ne (tgt := 52) dX9_first_37 (by decide) (fun h => absurd h2 h) (fun _ => ?_)
        refine zaload_n dX9_first_40 rfl ?_
        refine gf_X9_13 rfl dX9_first_41 ?_
        refine zcSf  gk_X9_153 dX9_first_44 (show zF x false mX9_areHome _ S (some (.int (bI (ownB n T)))) S from c_X9_areHome hr2 hM) rfl (by decide) (Nat.le_of_ble_eq_true rfl) ?_ rfl
        refine zifb_eq (tgt := 52) dX9_first_47 (by decide) (fun h => absurd (h.symm.trans ho) (by decide)) (fun _ => ?_)
        refine ziload_n dX9_first_50 rfl ?_
        exact zireturn dX9_first_51 rfl rfl ⟨_, rfl, by rw [← hr, if_pos ho], hf⟩
      · have ho2 : ownB n T = false := by cases h : ownB n T; rfl; exact absurd h ho
        refine ziload_n dX9_first_29 rfl ?_
        refine zbipush (v := 60) dX9_first_30 (by decide) ?_
        refine zicmp_gt (tgt := 111) dX9_first_32 (by decide) (fun h => absurd h (nI_nlt (a := 60) (by omega) (by omega))) (fun _ => ?_)
        refine ziload_n dX9_first_35 rfl ?_
        refine ziconst (v := 2) dX9_first_36 (by decide) ?_
        refine zicmp_ne (tgt := 52) dX9_first_37 (by decide) (fun h => absurd h2 h) (fun _ => ?_)
        refine zaload_n dX9_first_40 rfl ?_
        refine gf_X9_13 rfl dX9_first_41 ?_
        refine zcSf  gk_X9_153 dX9_first_44 (show zF x false mX9_areHome _ S (some (.int (bI (ownB n T)))) S from c_X9_areHome hr2 hM) rfl (by decide) (Nat.le_of_ble_eq_true rfl) ?_ rfl
        refine zifb_eq (tgt := 52) dX9_first_47 (by decide) (fun _ => ?_) (fun h => absurd (h.symm.trans ho2) (by decide))
        refine ziconst (v := 0) dX9_first_52 (by decide) ?_
        refine zistore_n dX9_first_53 (by decide) rfl ?_
        by_cases hn0 : n = 0
        · refine ziload_n dX9_first_54 rfl ?_
          refine zaload_n dX9_first_55 rfl ?_
          refine gf_X9_13 rfl dX9_first_56 ?_
          refine ziconst (v := nI 0) dX9_first_59 (by decide) ?_
          refine ziald dX9_first_60 (mrk hr2.2) (mrl hr2.1 hr2.2) (by decide) (by decide) ?_
          rw [hM.1]
          refine zicmp_ge (tgt := 98) dX9_first_61 (by decide) (fun _ => ?_) (fun h => absurd (nI_le (b := 0) (by omega) (by omega)) h)
          refine zlvs (lv' := [(0, .ref (zad x 0)), (1, .int w), (2, .int (nI i))]) ⟨rfl, rfl, rfl, trivial⟩ ?_
          exact go (by rw [if_pos h2, ← hr, if_neg ho])
        · refine ziload_n dX9_first_54 rfl ?_
          refine zaload_n dX9_first_55 rfl ?_
          refine gf_X9_13 rfl dX9_first_56 ?_
          refine ziconst (v := nI 0) dX9_first_59 (by decide) ?_
          refine ziald dX9_first_60 (mrk hr2.2) (mrl hr2.1 hr2.2) (by decide) (by decide) ?_
          rw [hM.1]
          refine zicmp_ge (tgt := 98) dX9_first_61 (by decide) (fun h => absurd h (nI_ge (a := 0) (by omega) (by omega))) (fun _ => ?_)
          refine ziload_n dX9_first_64 rfl ?_
          refine ziconst (v := 2) dX9_first_65 (by decide) ?_
          refine zicmp_ge (tgt := 98) dX9_first_66 (by decide) (fun _ => ?_) (fun h => absurd (by rw [h2]; decide) h)
          refine zlvs (lv' := [(0, .ref (zad x 0)), (1, .int w), (2, .int (nI i))]) ⟨rfl, rfl, rfl, trivial⟩ ?_
          exact go (by rw [if_pos h2, ← hr, if_neg ho])
    · rw [if_neg h2, fstF] at hr
      have hw2 : w < 2 := by
        obtain ⟨j, hj, rfl⟩ := whF_of (k := 3) (by decide) h3
        exact nI_lt (b := 2) (by have : ¬ j = 2 := fun z => h2 (by rw [z]; rfl)
                                 omega) (by decide)
      refine ziload_n dX9_first_29 rfl ?_
      refine zbipush (v := 60) dX9_first_30 (by decide) ?_
      refine zicmp_gt (tgt := 111) dX9_first_32 (by decide) (fun h => absurd h (nI_nlt (a := 60) (by omega) (by omega))) (fun _ => ?_)
      refine ziload_n dX9_first_35 rfl ?_
      refine ziconst (v := 2) dX9_first_36 (by decide) ?_
      refine zicmp_ne (tgt := 52) dX9_first_37 (by decide) (fun _ => ?_) (fun h => absurd h h2)
      refine ziconst (v := 0) dX9_first_52 (by decide) ?_
      refine zistore_n dX9_first_53 (by decide) rfl ?_
      refine zlvs (lv' := [(0, .ref (zad x 0)), (1, .int w), (2, .int (nI i)), (3, .int (nI 0))]) ⟨rfl, rfl, rfl, rfl, trivial⟩ ?_
      exact l1_X9_first hM hw2 (fun f e hf2 => ⟨_, rfl, by rw [← hr, e, if_neg (nI_neN (by omega))], hf⟩) (fun e => go (by rw [if_neg h2, ← hr, if_pos e])) n 0 (by omega) rfl
set_option maxRecDepth 100000 in
set_option maxHeartbeats 4000000 in
theorem c_X9_first (hR : RepM σ S) (hW : WS σ) (w : Int32) : zR x false mX9_first [.ref (zad x 0), .int w] S (qM (whF w 3) (if w = 2 then homeF (sN σ) 61 0 (sT σ) else fstF (sN σ) w 61 0 (sT σ)) σ (σ)) := by
  have hM := hR.1
  have hn8 : sN σ ≤ 8 := hM.2.1
  refine zC_of (by decide +kernel) (Nat.le_of_ble_eq_true rfl) ?_
  by_cases he : whF w 3 = 0
  · refine ziload_n dX9_first_0 rfl ?_
    refine ziconst (v := 0) dX9_first_1 (by decide) ?_
    refine ziconst (v := 2) dX9_first_2 (by decide) ?_
    refine zcSf  gk_X9_44 dX9_first_3 c_isIn_2 rfl (by decide) (Nat.le_of_ble_eq_true rfl) ?_ rfl
    refine zifb_ne (tgt := 16) dX9_first_6 (by decide) (fun _ => ?_) (fun h => absurd (h.symm.trans (decide_eq_true he)) (by decide))
    refine zaload_n dX9_first_16 rfl ?_
    refine gf_X9_9 rfl dX9_first_17 ?_
    refine zaload_n dX9_first_20 rfl ?_
    refine gf_X9_13 rfl dX9_first_21 ?_
    refine zcSn  gk_X9_133 dX9_first_24 (c_X9_copies hr1 hr2 (by decide) hM) rfl (by decide) (Nat.le_of_ble_eq_true rfl) (fun S2 hp2 => ?_) rfl
    obtain ⟨hM2, -, hf2⟩ := hp2
    refine ziconst (v := 0) dX9_first_27 (by decide) ?_
    refine zistore_n dX9_first_28 (by decide) rfl ?_
    refine zlvs (lv' := [(0, .ref (zad x 0)), (1, .int w), (2, .int (nI 0))]) ⟨rfl, rfl, rfl, trivial⟩ ?_
    exact zZ_mono (l_X9_first he _ 61 0 S2 _ (by omega) hM2 hW.1.2.1 hf2 rfl) (fun q U h => by obtain ⟨v, h1, h2, h3⟩ := h; exact ⟨v, h1, qM_ok he h2 (hR.mind h3 (Or.inl rfl))⟩)
  · refine ziload_n dX9_first_0 rfl ?_
    refine ziconst (v := 0) dX9_first_1 (by decide) ?_
    refine ziconst (v := 2) dX9_first_2 (by decide) ?_
    refine zcSf  gk_X9_44 dX9_first_3 c_isIn_2 rfl (by decide) (Nat.le_of_ble_eq_true rfl) ?_ rfl
    refine zifb_ne (tgt := 16) dX9_first_6 (by decide) (fun h => absurd (h.symm.trans (decide_eq_false he)) (by decide)) (fun _ => ?_)
    refine zaload_n dX9_first_9 rfl ?_
    refine zbipush (v := -2) dX9_first_10 (by decide) ?_
    refine zcVf ob_Mo gk_X9_38 dX9_first_12 (c_X9_no isE_2) rfl (by decide) (Nat.le_of_ble_eq_true rfl) ?_ rfl
    exact zireturn dX9_first_15 rfl rfl ⟨_, rfl, qM_no (whF_2 he) isE_2 hR⟩
end PUB7
