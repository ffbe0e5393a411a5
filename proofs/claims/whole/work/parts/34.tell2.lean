/-! town, in the class -/
section TELL2
variable {x : zCx} {S : zSt} {σ σ' : Sig} {adK adV : Nat → Nat} {fa : Option Nat} {L : Nat → Nat} {N : Nat} {t : Tau}
theorem stS_p {p : Nat} (hc : L p = 112) : stS L p t = stP t (kindN (L (p + 1))) (L (p + 2) - 48) := by unfold stS; rw [if_pos hc]
theorem stS_l {p : Nat} (hc : L p = 108) : stS L p t = stL t (L (p + 1) - 48) (L (p + 2) - 48) := by unfold stS; rw [hc, if_neg (by decide), if_pos rfl]
theorem stS_b {p : Nat} (hc : L p = 98) : stS L p t = stB t (L (p + 1) - 48) := by unfold stS; rw [hc, if_neg (by decide), if_neg (by decide), if_pos rfl]
theorem stS_k {p : Nat} (hc : L p = 107) : stS L p t = stK t (L (p + 1) - 48) (L (p + 2) - 48) := by unfold stS; rw [hc, if_neg (by decide), if_neg (by decide), if_neg (by decide), if_pos rfl]
theorem stS_f {p : Nat} (hc : L p = 102) : stS L p t = stF t (L (p + 1) - 48) (10 * (L (p + 2) - 48) + (L (p + 3) - 48)) := by unfold stS; rw [hc, if_neg (by decide), if_neg (by decide), if_neg (by decide), if_neg (by decide), if_pos rfl]
theorem stS_m {p : Nat} (hc : L p = 109) : stS L p t = stM t (10 * (L (p + 1) - 48) + (L (p + 2) - 48)) := by unfold stS; rw [hc, if_neg (by decide), if_neg (by decide), if_neg (by decide), if_neg (by decide), if_neg (by decide)]

set_option maxRecDepth 100000 in
set_option maxHeartbeats 4000000 in
theorem c_X6_comesTo {p : Nat} (hx : zHS x adK adV fa) (hl : LC S L N) (hok : okS L N p) (ht : tauC S t) (hW : WFT t.1 t.2.1) : zR x true mX6_comesTo [.ref (zad x 32), .ref (zad x (tp 1)), .int (nI p)] S (stQ (stS L p t) S) := by
  have hN := hl.2.1
  have hpN : p < N := by have := hok.2.1; omega
  refine zC_of (by decide +kernel) (Nat.le_of_ble_eq_true rfl) ?_
  rcases heads hok.1 with hc | hc | hc | hc | hc | hc
  · obtain ⟨g1, ⟨kd, k1, k2⟩, g2, g3⟩ := okS_p hok hc
    refine zaload_n dX6_comesTo_0 rfl ?_
    refine gf_X6_9 rfl dX6_comesTo_1 ?_
    refine ziload_n dX6_comesTo_4 rfl ?_
    refine ziald dX6_comesTo_5 (by decide) rfl (by decide) (by omega) ?_
    rw [(hl.2.2 p (by omega)).1, hc]
    refine ztableIn (off := 74) (tgt := 80) dX6_comesTo_6 (by decide +kernel) (by decide +kernel) (by decide +kernel) (by decide) ?_
    refine zaload_n dX6_comesTo_80 rfl ?_
    refine zaload_n dX6_comesTo_81 rfl ?_
    refine ziload_n dX6_comesTo_82 rfl ?_
    refine ziconst (v := 1) dX6_comesTo_83 (by decide) ?_
    refine ziadd dX6_comesTo_84 ?_
    rw [nI_1]
    refine zcVf ob_Te gk_X6_67 dX6_comesTo_85 (c_X6_signAt hl (k := p + 1) (by omega)) rfl (by decide) (Nat.le_of_ble_eq_true rfl) ?_ rfl
    refine zcSf  gk_X6_58 dX6_comesTo_88 (c_X6_kindOf hx (hl.2.2 (p + 1) (by omega)).2) rfl (by decide) (Nat.le_of_ble_eq_true rfl) ?_ rfl
    refine zaload_n dX6_comesTo_91 rfl ?_
    refine ziload_n dX6_comesTo_92 rfl ?_
    refine ziconst (v := 2) dX6_comesTo_93 (by decide) ?_
    refine ziadd dX6_comesTo_94 ?_
    rw [show nI p + (2 : Int32) = nI (p + 2) from nI_add p 2]
    refine zcVf ob_Te gk_X6_70 dX6_comesTo_95 (c_X6_digitAt hl (k := p + 2) (by omega) g2) rfl (by decide) (Nat.le_of_ble_eq_true rfl) ?_ rfl
    refine zcVr (ob_town (t := 1) (by decide)) gk_X6_73 dX6_comesTo_98 (c_X7_takesIn (t := 1) (by decide) ht.1) rfl (by decide) (Nat.le_of_ble_eq_true rfl) (fun r2 S2 hp2 => ?_) rfl
    rcases hp2 with ⟨h8, rfl, rfl⟩ | ⟨h8, rfl, hT2, hg2, hf2⟩
    · exact zbret (q := false) dX6_comesTo_101 rfl rfl ⟨_, rfl, stQ_n (by rw [stS_p hc]; unfold stP; rw [if_pos h8])⟩
    · exact zbret (q := true) dX6_comesTo_101 rfl rfl ⟨_, rfl, stQ_s (u := (t.1 + 1, addT t.1 t.2.1 (kindN (L (p + 1))) (nI (L (p + 2) - 48)), t.2.2)) (by rw [stS_p hc]; unfold stP; rw [if_neg (by omega)]) ⟨hT2, hg2.trans ht.2⟩ hf2⟩
  · obtain ⟨g1, g2, g3⟩ := okS_b hok hc
    refine zaload_n dX6_comesTo_0 rfl ?_
    refine gf_X6_9 rfl dX6_comesTo_1 ?_
    refine ziload_n dX6_comesTo_4 rfl ?_
    refine ziald dX6_comesTo_5 (by decide) rfl (by decide) (by omega) ?_
    rw [(hl.2.2 p (by omega)).1, hc]
    refine ztableIn (off := 115) (tgt := 121) dX6_comesTo_6 (by decide +kernel) (by decide +kernel) (by decide +kernel) (by decide) ?_
    refine zaload_n dX6_comesTo_121 rfl ?_
    refine zaload_n dX6_comesTo_122 rfl ?_
    refine ziload_n dX6_comesTo_123 rfl ?_
    refine ziconst (v := 1) dX6_comesTo_124 (by decide) ?_
    refine ziadd dX6_comesTo_125 ?_
    rw [nI_1]
    refine zcVf ob_Te gk_X6_70 dX6_comesTo_126 (c_X6_digitAt hl (k := p + 1) (by omega) g2) rfl (by decide) (Nat.le_of_ble_eq_true rfl) ?_ rfl
    refine zcSr  gk_X6_83 dX6_comesTo_129 (c_X6_backComes (by omega) ht) rfl (by decide) (Nat.le_of_ble_eq_true rfl) (fun r2 S2 hp2 => ?_) rfl
    rcases hp2 with ⟨ho, rfl, hf⟩ | ⟨u, ho, rfl, hu, hf⟩
    · exact zbret (q := false) dX6_comesTo_132 rfl rfl ⟨_, rfl, Or.inl ⟨(stS_b hc).trans ho, rfl, hf⟩⟩
    · exact zbret (q := true) dX6_comesTo_132 rfl rfl ⟨_, rfl, Or.inr ⟨u, (stS_b hc).trans ho, rfl, hu, hf⟩⟩
  · obtain ⟨g1, ⟨g2, g3⟩, g4, g5⟩ := okS_2 hok (Or.inl hc)
    refine zaload_n dX6_comesTo_0 rfl ?_
    refine gf_X6_9 rfl dX6_comesTo_1 ?_
    refine ziload_n dX6_comesTo_4 rfl ?_
    refine ziald dX6_comesTo_5 (by decide) rfl (by decide) (by omega) ?_
    rw [(hl.2.2 p (by omega)).1, hc]
    refine ztableIn (off := 127) (tgt := 133) dX6_comesTo_6 (by decide +kernel) (by decide +kernel) (by decide +kernel) (by decide) ?_
    refine zaload_n dX6_comesTo_133 rfl ?_
    refine zaload_n dX6_comesTo_134 rfl ?_
    refine ziload_n dX6_comesTo_135 rfl ?_
    refine ziconst (v := 1) dX6_comesTo_136 (by decide) ?_
    refine ziadd dX6_comesTo_137 ?_
    rw [nI_1]
    refine zcVf ob_Te gk_X6_70 dX6_comesTo_138 (c_X6_digitAt hl (k := p + 1) (by omega) g2) rfl (by decide) (Nat.le_of_ble_eq_true rfl) ?_ rfl
    refine zaload_n dX6_comesTo_141 rfl ?_
    refine ziload_n dX6_comesTo_142 rfl ?_
    refine ziconst (v := 2) dX6_comesTo_143 (by decide) ?_
    refine ziadd dX6_comesTo_144 ?_
    rw [show nI p + (2 : Int32) = nI (p + 2) from nI_add p 2]
    refine zcVf ob_Te gk_X6_70 dX6_comesTo_145 (c_X6_digitAt hl (k := p + 2) (by omega) g4) rfl (by decide) (Nat.le_of_ble_eq_true rfl) ?_ rfl
    refine zcSr  gk_X6_86 dX6_comesTo_148 (c_X6_knowingComes (by omega) (by omega) ht) rfl (by decide) (Nat.le_of_ble_eq_true rfl) (fun r2 S2 hp2 => ?_) rfl
    rcases hp2 with ⟨ho, rfl, hf⟩ | ⟨u, ho, rfl, hu, hf⟩
    · exact zbret (q := false) dX6_comesTo_151 rfl rfl ⟨_, rfl, Or.inl ⟨(stS_k hc).trans ho, rfl, hf⟩⟩
    · exact zbret (q := true) dX6_comesTo_151 rfl rfl ⟨_, rfl, Or.inr ⟨u, (stS_k hc).trans ho, rfl, hu, hf⟩⟩
  · obtain ⟨g1, ⟨g2, g3⟩, g4, g5⟩ := okS_2 hok (Or.inr (Or.inl hc))
    refine zaload_n dX6_comesTo_0 rfl ?_
    refine gf_X6_9 rfl dX6_comesTo_1 ?_
    refine ziload_n dX6_comesTo_4 rfl ?_
    refine ziald dX6_comesTo_5 (by decide) rfl (by decide) (by omega) ?_
    rw [(hl.2.2 p (by omega)).1, hc]
    refine ztableIn (off := 96) (tgt := 102) dX6_comesTo_6 (by decide +kernel) (by decide +kernel) (by decide +kernel) (by decide) ?_
    refine zaload_n dX6_comesTo_102 rfl ?_
    refine zaload_n dX6_comesTo_103 rfl ?_
    refine ziload_n dX6_comesTo_104 rfl ?_
    refine ziconst (v := 1) dX6_comesTo_105 (by decide) ?_
    refine ziadd dX6_comesTo_106 ?_
    rw [nI_1]
    refine zcVf ob_Te gk_X6_70 dX6_comesTo_107 (c_X6_digitAt hl (k := p + 1) (by omega) g2) rfl (by decide) (Nat.le_of_ble_eq_true rfl) ?_ rfl
    refine zaload_n dX6_comesTo_110 rfl ?_
    refine ziload_n dX6_comesTo_111 rfl ?_
    refine ziconst (v := 2) dX6_comesTo_112 (by decide) ?_
    refine ziadd dX6_comesTo_113 ?_
    rw [show nI p + (2 : Int32) = nI (p + 2) from nI_add p 2]
    refine zcVf ob_Te gk_X6_70 dX6_comesTo_114 (c_X6_digitAt hl (k := p + 2) (by omega) g4) rfl (by decide) (Nat.le_of_ble_eq_true rfl) ?_ rfl
    refine zcSr  gk_X6_79 dX6_comesTo_117 (c_X6_lendingComes (by omega) (by omega) ht) rfl (by decide) (Nat.le_of_ble_eq_true rfl) (fun r2 S2 hp2 => ?_) rfl
    rcases hp2 with ⟨ho, rfl, hf⟩ | ⟨u, ho, rfl, hu, hf⟩
    · exact zbret (q := false) dX6_comesTo_120 rfl rfl ⟨_, rfl, Or.inl ⟨(stS_l hc).trans ho, rfl, hf⟩⟩
    · exact zbret (q := true) dX6_comesTo_120 rfl rfl ⟨_, rfl, Or.inr ⟨u, (stS_l hc).trans ho, rfl, hu, hf⟩⟩
  · obtain ⟨g1, ⟨g2, g3⟩, g4, g5⟩ := okS_2 hok (Or.inr (Or.inr hc))
    refine zaload_n dX6_comesTo_0 rfl ?_
    refine gf_X6_9 rfl dX6_comesTo_1 ?_
    refine ziload_n dX6_comesTo_4 rfl ?_
    refine ziald dX6_comesTo_5 (by decide) rfl (by decide) (by omega) ?_
    rw [(hl.2.2 p (by omega)).1, hc]
    refine ztableIn (off := 165) (tgt := 171) dX6_comesTo_6 (by decide +kernel) (by decide +kernel) (by decide +kernel) (by decide) ?_
    refine zaload_n dX6_comesTo_171 rfl ?_
    refine zaload_n dX6_comesTo_172 rfl ?_
    refine ziload_n dX6_comesTo_173 rfl ?_
    refine ziconst (v := 1) dX6_comesTo_174 (by decide) ?_
    refine ziadd dX6_comesTo_175 ?_
    rw [nI_1]
    refine zcVf ob_Te gk_X6_89 dX6_comesTo_176 (c_X6_twoDigitsAt hl (k := p + 1) (by omega) g2 g4) rfl (by decide) (Nat.le_of_ble_eq_true rfl) ?_ rfl
    refine zcSr  gk_X6_95 dX6_comesTo_179 (c_X6_monthsCome (v := 10 * (L (p + 1) - 48) + (L (p + 2) - 48)) (by omega) ht hW.vw) rfl (by decide) (Nat.le_of_ble_eq_true rfl) (fun r2 S2 hp2 => ?_) rfl
    rcases hp2 with ⟨ho, rfl, hf⟩ | ⟨u, ho, rfl, hu, hf⟩
    · exact zbret (q := false) dX6_comesTo_182 rfl rfl ⟨_, rfl, Or.inl ⟨(stS_m hc).trans ho, rfl, hf⟩⟩
    · exact zbret (q := true) dX6_comesTo_182 rfl rfl ⟨_, rfl, Or.inr ⟨u, (stS_m hc).trans ho, rfl, hu, hf⟩⟩
  · obtain ⟨g1, ⟨g2, g3⟩, ⟨g4, g5⟩, g6, g7⟩ := okS_f hok hc
    refine zaload_n dX6_comesTo_0 rfl ?_
    refine gf_X6_9 rfl dX6_comesTo_1 ?_
    refine ziload_n dX6_comesTo_4 rfl ?_
    refine ziald dX6_comesTo_5 (by decide) rfl (by decide) (by omega) ?_
    rw [(hl.2.2 p (by omega)).1, hc]
    refine ztableIn (off := 146) (tgt := 152) dX6_comesTo_6 (by decide +kernel) (by decide +kernel) (by decide +kernel) (by decide) ?_
    refine zaload_n dX6_comesTo_152 rfl ?_
    refine zaload_n dX6_comesTo_153 rfl ?_
    refine ziload_n dX6_comesTo_154 rfl ?_
    refine ziconst (v := 1) dX6_comesTo_155 (by decide) ?_
    refine ziadd dX6_comesTo_156 ?_
    rw [nI_1]
    refine zcVf ob_Te gk_X6_70 dX6_comesTo_157 (c_X6_digitAt hl (k := p + 1) (by omega) g2) rfl (by decide) (Nat.le_of_ble_eq_true rfl) ?_ rfl
    refine zaload_n dX6_comesTo_160 rfl ?_
    refine ziload_n dX6_comesTo_161 rfl ?_
    refine ziconst (v := 2) dX6_comesTo_162 (by decide) ?_
    refine ziadd dX6_comesTo_163 ?_
    rw [show nI p + (2 : Int32) = nI (p + 2) from nI_add p 2]
    refine zcVf ob_Te gk_X6_89 dX6_comesTo_164 (c_X6_twoDigitsAt hl (k := p + 2) (by omega) g4 g6) rfl (by decide) (Nat.le_of_ble_eq_true rfl) ?_ rfl
    refine zcSr  gk_X6_92 dX6_comesTo_167 (c_X6_fameComes (v := 10 * (L (p + 2) - 48) + (L (p + 3) - 48)) (by omega) ht) rfl (by decide) (Nat.le_of_ble_eq_true rfl) (fun r2 S2 hp2 => ?_) rfl
    rcases hp2 with ⟨ho, rfl, hf⟩ | ⟨u, ho, rfl, hu, hf⟩
    · exact zbret (q := false) dX6_comesTo_170 rfl rfl ⟨_, rfl, Or.inl ⟨(stS_f hc).trans ho, rfl, hf⟩⟩
    · exact zbret (q := true) dX6_comesTo_170 rfl rfl ⟨_, rfl, Or.inr ⟨u, (stS_f hc).trans ho, rfl, hu, hf⟩⟩
theorem comes_n {p : Nat} (hx : zHS x adK adV fa) (hl : LC S L N) (hok : okS L N p) (ht : tauC S t) (hW : WFT t.1 t.2.1) (h : stS L p t = none) : zR x true mX6_comesTo [.ref (zad x 32), .ref (zad x (tp 1)), .int (nI p)] S (fun r U => r = bI false ∧ frT 1 S U) :=
  zC_mono (c_X6_comesTo hx hl hok ht hW) (fun r U hq => by
    obtain ⟨v, e1, hq⟩ := hq
    rcases hq with ⟨ho, e2, hf⟩ | ⟨u, ho, e2, hu, hf⟩
    · exact ⟨v, e1, e2, hf⟩
    · rw [h] at ho; cases ho)
theorem comes_s {p : Nat} {u : Tau} (hx : zHS x adK adV fa) (hl : LC S L N) (hok : okS L N p) (ht : tauC S t) (hW : WFT t.1 t.2.1) (h : stS L p t = some u) : zR x true mX6_comesTo [.ref (zad x 32), .ref (zad x (tp 1)), .int (nI p)] S (fun r U => r = bI true ∧ tauC U u ∧ frT 1 S U) :=
  zC_mono (c_X6_comesTo hx hl hok ht hW) (fun r U hq => by
    obtain ⟨v, e1, hq⟩ := hq
    rcases hq with ⟨ho, e2, hf⟩ | ⟨u', ho, e2, hu, hf⟩
    · rw [h] at ho; cases ho
    · rw [h] at ho; cases ho; exact ⟨v, e1, e2, hu, hf⟩)
theorem brk_le : ∀ (k a i s q : Nat), a + k = N → brkF L N k a i s = some q → q ≤ N := by
  intro k
  induction k with
  | zero =>
    intro a i s q ha h
    rw [brkF] at h
    split at h
    · cases h; exact Nat.le_refl _
    · cases h
  | succ k ih =>
    intro a i s q ha h
    rw [brkF] at h
    split at h
    · split at h
      · exact ih _ _ _ q (by omega) h
      · cases h; omega
    · split at h
      · cases h; omega
      · exact ih _ _ _ q (by omega) h
theorem run_none : ∀ (f p c : Nat) (t : Tau), (runF L N f p c t).2 = none → ∃ q, q < N ∧ (runF L N f p c t).1 = -2000 - nI q := by
  intro f
  induction f with
  | zero => intro p c t h; cases h
  | succ f ih =>
    intro p c t h
    rw [runF] at h ⊢
    by_cases hp : p < N
    · rw [if_pos hp] at h ⊢
      cases hs : stS L p t with
      | none => exact ⟨p, hp, rfl⟩
      | some u => rw [hs] at h; exact ih _ _ u h
    · rw [if_neg hp] at h; cases h
set_option maxRecDepth 100000 in
theorem neg12 : ∀ q, q < 97 → ¬ (0 : Int32) < -1000 - nI q ∧ ¬ (0 : Int32) < -2000 - nI q := by decide +kernel
theorem cnt_pos (h : 0 < N) : 0 < cntT L N N 0 := by
  obtain ⟨f, rfl⟩ : ∃ f, N = f + 1 := ⟨N - 1, by omega⟩
  rw [cntT, if_pos h]
  omega
set_option maxRecDepth 100000 in
set_option maxHeartbeats 4000000 in
theorem l_X6_carry (hx : zHS x adK adV fa) {S0 : zSt} (hl0 : LC S0 L N) {b r : Int32} {o : Option Tau} : ∀ (f p c : Nat) (S : zSt) (t : Tau), vld L N f p → p ≤ N → tauC S t → WFT t.1 t.2.1 → frT 1 S0 S → runF L N f p c t = (r, o) → zZ x true mX6_carryOut (fun q U => ∃ v : Int32, q = some (.int v) ∧ v = r ∧ frT 1 S0 U ∧ ∀ u, o = some u → tauC U u) 22 [(0, .ref (zad x 32)), (1, .ref (zad x (tp 1))), (2, .int b), (3, .int (nI c)), (4, .int (nI p))] [] S := by
  have hN := hl0.2.1
  intro f
  induction f with
  | zero =>
    intro p c S t hv hp ht hW hf hr
    have hv : p = N := hv
    have hl := hl0.fr hf
    cases hr
    refine ziload dX6_carryOut_22 rfl ?_
    refine zaload_n dX6_carryOut_24 rfl ?_
    refine gf_X6_15 rfl dX6_carryOut_25 ?_
    rw [hl.1]
    refine zicmp_ge (tgt := 74) dX6_carryOut_28 (by decide) (fun _ => ?_) (fun h => absurd (nI_le (by omega) (by omega)) h)
    refine ziload_n dX6_carryOut_74 rfl ?_
    exact zireturn dX6_carryOut_75 rfl rfl ⟨_, rfl, rfl, hf, fun u hu => by cases hu; exact ht⟩
  | succ f ih =>
    intro p c S t hv hp ht hW hf hr
    have hl := hl0.fr hf
    rw [runF] at hr
    by_cases hpN : p < N
    · rw [if_pos hpN] at hr
      have hv : okS L N p ∧ vld L N f (p + 1 + sln (shp (L p))) := by rcases hv with hv | hv; omega; exact hv
      cases hs : stS L p t with
      | none =>
        rw [hs] at hr
        dsimp only at hr
        obtain ⟨e1, e2⟩ := Prod.mk.inj hr
        subst e1
        subst e2
        refine ziload dX6_carryOut_22 rfl ?_
        refine zaload_n dX6_carryOut_24 rfl ?_
        refine gf_X6_15 rfl dX6_carryOut_25 ?_
        rw [hl.1]
        refine zicmp_ge (tgt := 74) dX6_carryOut_28 (by decide) (fun h => absurd h (nI_ge hpN (by omega))) (fun _ => ?_)
        refine zaload_n dX6_carryOut_31 rfl ?_
        refine zaload_n dX6_carryOut_32 rfl ?_
        refine ziload dX6_carryOut_33 rfl ?_
        refine zcVr ob_Te gk_X6_23 dX6_carryOut_35 (comes_n hx hl hv.1 ht hW hs) rfl (by decide) (Nat.le_of_ble_eq_true rfl) (fun r2 S2 hp2 => ?_) rfl
        obtain ⟨rfl, hf2⟩ := hp2
        refine zifb_ne (tgt := 48) dX6_carryOut_38 (by decide) (fun h => absurd (h.symm.trans rfl) (by decide)) (fun _ => ?_)
        refine zsipush (v := -2000) dX6_carryOut_41 (by decide) ?_
        refine ziload dX6_carryOut_44 rfl ?_
        refine zisub dX6_carryOut_46 ?_
        exact zireturn dX6_carryOut_47 rfl rfl ⟨_, rfl, rfl, hf.trans hf2, fun u hu => by cases hu⟩
      | some u =>
        rw [hs] at hr
        refine ziload dX6_carryOut_22 rfl ?_
        refine zaload_n dX6_carryOut_24 rfl ?_
        refine gf_X6_15 rfl dX6_carryOut_25 ?_
        rw [hl.1]
        refine zicmp_ge (tgt := 74) dX6_carryOut_28 (by decide) (fun h => absurd h (nI_ge hpN (by omega))) (fun _ => ?_)
        refine zaload_n dX6_carryOut_31 rfl ?_
        refine zaload_n dX6_carryOut_32 rfl ?_
        refine ziload dX6_carryOut_33 rfl ?_
        refine zcVr ob_Te gk_X6_23 dX6_carryOut_35 (comes_s hx hl hv.1 ht hW hs) rfl (by decide) (Nat.le_of_ble_eq_true rfl) (fun r2 S2 hp2 => ?_) rfl
        obtain ⟨rfl, hu2, hf2⟩ := hp2
        have hl2 := hl.fr hf2
        refine zifb_ne (tgt := 48) dX6_carryOut_38 (by decide) (fun _ => ?_) (fun h => absurd (h.symm.trans rfl) (by decide))
        refine ziload dX6_carryOut_48 rfl ?_
        refine ziconst (v := 1) dX6_carryOut_50 (by decide) ?_
        refine zaload_n dX6_carryOut_51 rfl ?_
        refine gf_X6_9 rfl dX6_carryOut_52 ?_
        refine ziload dX6_carryOut_55 rfl ?_
        refine ziald dX6_carryOut_57 (by decide) rfl (by decide) (by omega) ?_
        rw [(hl2.2.2 p hpN).1]
        refine zcSf gk_X6_27 dX6_carryOut_58 (c_X6_shapeOf hx (hl2.2.2 p hpN).2) rfl (by decide) (Nat.le_of_ble_eq_true rfl) ?_ rfl
        refine zcTf hx (shp_lt (L p)) gj_len rfl dX6_carryOut_61 (c_length hx (shp_lt (L p))) rfl (by decide) (Nat.le_of_ble_eq_true rfl) ?_ rfl
        refine ziadd dX6_carryOut_64 ?_
        rw [show (1 : Int32) + nI (sLen.getD (shp (L p)) 0) = nI (1 + sln (shp (L p))) from nI_add 1 _]
        refine ziadd dX6_carryOut_65 ?_
        rw [nI_add, ← Nat.add_assoc]
        refine zistore dX6_carryOut_66 (by decide) rfl ?_
        refine ziinc dX6_carryOut_68 rfl rfl (by decide) rfl ?_
        refine zgoto (tgt := 22) dX6_carryOut_71 (by decide) ?_
        refine zlvs (lv' := [(0, .ref (zad x 32)), (1, .ref (zad x (tp 1))), (2, .int b), (3, .int (nI (c + 1))), (4, .int (nI (p + 1 + sln (shp (L p)))))]) ⟨rfl, rfl, rfl, by rw [nI_succ c]; rfl, rfl, trivial⟩ ?_
        exact ih _ (c + 1) S2 u hv.2 (by have := hv.1.2.1; omega) hu2 (st_wft hv.1 hW hs) (hf.trans hf2) hr
    · rw [if_neg hpN] at hr
      cases hr
      refine ziload dX6_carryOut_22 rfl ?_
      refine zaload_n dX6_carryOut_24 rfl ?_
      refine gf_X6_15 rfl dX6_carryOut_25 ?_
      rw [hl.1]
      refine zicmp_ge (tgt := 74) dX6_carryOut_28 (by decide) (fun _ => ?_) (fun h => absurd (nI_le (by omega) (by omega)) h)
      refine ziload_n dX6_carryOut_74 rfl ?_
      exact zireturn dX6_carryOut_75 rfl rfl ⟨_, rfl, rfl, hf, fun u hu => by cases hu; exact ht⟩
set_option maxRecDepth 100000 in
set_option maxHeartbeats 4000000 in
theorem c_X6_carryOut (hx : zHS x adK adV fa) (hl : LC S L N) (ht : tauC S t) (hW : WFT t.1 t.2.1) : zR x true mX6_carryOut [.ref (zad x 32), .ref (zad x (tp 1))] S (fun r U => r = townA L N t ∧ frT 1 S U ∧ (0 < r → tauC U (townT L N t)) ∧ (¬ 0 < r → townT L N t = t)) := by
  have hN := hl.2.1
  refine zC_of (by decide +kernel) (Nat.le_of_ble_eq_true rfl) ?_
  cases hb : brkF L N N 0 0 0 with
  | some q =>
    have hq := brk_le N 0 0 0 q (by omega) hb
    have e1 : townA L N t = -1000 - nI q := by unfold townA; rw [hb]
    have e2 : townT L N t = t := by unfold townT; rw [hb]
    rw [e1, e2]
    refine zaload_n dX6_carryOut_0 rfl ?_
    refine zcVf ob_Te gk_X6_19 dX6_carryOut_1 (c_X6_brokenPlace hx hl) rfl (by decide) (Nat.le_of_ble_eq_true rfl) ?_ rfl
    rw [hb]
    refine zistore_n dX6_carryOut_4 (by decide) rfl ?_
    refine ziload_n dX6_carryOut_5 rfl ?_
    refine zbipush (v := -9) dX6_carryOut_6 (by decide) ?_
    refine zicmp_eq (tgt := 17) dX6_carryOut_8 (by decide) (fun h => absurd h (nI_neN (by omega))) (fun _ => ?_)
    refine zsipush (v := -1000) dX6_carryOut_11 (by decide) ?_
    refine ziload_n dX6_carryOut_14 rfl ?_
    refine zisub dX6_carryOut_15 ?_
    exact zireturn dX6_carryOut_16 rfl rfl ⟨_, rfl, rfl, frT.rf, fun z => absurd z (neg12 q (by omega)).1, fun _ => rfl⟩
  | none =>
    have hv : vld L N N 0 := vld_of N 0 (Nat.zero_le N) (Nat.sub_le N 0) hb
    have hN0 : 0 < N := by
      rcases Nat.eq_zero_or_pos N with h | h
      · subst h; cases hb
      · exact h
    have e1 : townA L N t = (runF L N N 0 0 t).1 := by unfold townA; rw [hb]
    rw [e1]
    refine zaload_n dX6_carryOut_0 rfl ?_
    refine zcVf ob_Te gk_X6_19 dX6_carryOut_1 (c_X6_brokenPlace hx hl) rfl (by decide) (Nat.le_of_ble_eq_true rfl) ?_ rfl
    rw [hb]
    refine zistore_n dX6_carryOut_4 (by decide) rfl ?_
    refine ziload_n dX6_carryOut_5 rfl ?_
    refine zbipush (v := -9) dX6_carryOut_6 (by decide) ?_
    refine zicmp_eq (tgt := 17) dX6_carryOut_8 (by decide) (fun _ => ?_) (fun h => absurd rfl h)
    refine ziconst (v := nI 0) dX6_carryOut_17 (by decide) ?_
    refine zistore_n dX6_carryOut_18 (by decide) rfl ?_
    refine ziconst (v := nI 0) dX6_carryOut_19 (by decide) ?_
    refine zistore dX6_carryOut_20 (by decide) rfl ?_
    refine zlvs (lv' := [(0, .ref (zad x 32)), (1, .ref (zad x (tp 1))), (2, .int (brkI none)), (3, .int (nI 0)), (4, .int (nI 0))]) ⟨rfl, rfl, rfl, rfl, rfl, trivial⟩ ?_
    refine zZ_mono (l_X6_carry hx hl (r := (runF L N N 0 0 t).1) (o := (runF L N N 0 0 t).2) N 0 0 S t hv (Nat.zero_le N) ht hW frT.rf rfl) (fun q U h => ?_)
    obtain ⟨v, g1, g2, g3, g4⟩ := h
    refine ⟨v, g1, g2, g3, ?_, ?_⟩
    · intro hpos
      cases hr : (runF L N N 0 0 t).2 with
      | none =>
        obtain ⟨q, q1, q2⟩ := run_none N 0 0 t hr
        rw [g2, q2] at hpos
        exact absurd hpos (neg12 q (by omega)).2
      | some u =>
        have e2 : townT L N t = u := by unfold townT; rw [hb]; dsimp only; rw [hr]
        rw [e2]
        exact g4 u hr
    · intro hneg
      cases hr : (runF L N N 0 0 t).2 with
      | none => unfold townT; rw [hb]; dsimp only; rw [hr]
      | some u =>
        have hc := run_cnt N 0 0 t u hr
        rw [Nat.zero_add] at hc
        have h1 := cnt_pos (L := L) hN0
        have h2 := cnt_le (L := L) (N := N) N 0
        exact absurd (by rw [g2, hc]; exact nI_lt (a := 0) h1 (by omega)) hneg
def Lc (σ : Sig) (i : Nat) : Nat := ((sL σ).2 i).toNatClampNeg
def tauS (σ : Sig) : Tau := (sN σ, sT σ, sMo σ)
def townS (σ : Sig) : Sig := ((townT (Lc σ) (sL σ).1 (tauS σ)).1, (townT (Lc σ) (sL σ).1 (tauS σ)).2.1, (townT (Lc σ) (sL σ).1 (tauS σ)).2.2, sK σ, (0, (sL σ).2), σ.2.2.2.2.2)
theorem Lc_ok {i : Nat} (hW : WS σ) (hi : i < (sL σ).1) : (sL σ).2 i = nI (Lc σ i) ∧ Lc σ i < 256 := by
  obtain ⟨c, c1, c2⟩ := hW.2.2.1.2 i hi
  have e : Lc σ i = c := by unfold Lc; rw [c2, nI_clamp (by omega)]
  rw [e]
  exact ⟨c2, c1⟩
theorem RepC.lc (hR : RepC σ S) (hW : WS σ) : LC S (Lc σ) (sL σ).1 := ⟨hR.2.2.2.1.1, hW.2.2.1.1, fun i hi => ⟨(hR.2.2.2.1.2 i hi).trans (Lc_ok hW hi).1, (Lc_ok hW hi).2⟩⟩
theorem RepC.clr {n : Nat} {T : Tw} {mo : Int32} {k : Option (Nat × Tw × Int32)} {l : Nat × (Nat → Int32)} {r : (Nat × (Nat → Int32)) × (Nat → Int32)} (h : RepC (n, T, mo, k, l, r) S) : RepC (n, T, mo, k, (0, l.2), r) (S.1, u2 S.2 32 1 0) := by
  obtain ⟨h1, h2, h3, h4, h5, h6⟩ := h
  have g : ∀ p j, ¬ p = 32 → u2 S.2 32 1 0 p j = S.2 p j := fun p j hp => u2_w hp
  refine ⟨⟨(g _ _ (by decide)).trans h1.1, h1.2⟩, (g _ _ (by decide)).trans h2, ?_, ⟨by show u2 S.2 32 1 0 32 1 = nI 0; exact u2_self, fun i hi => absurd hi (Nat.not_lt_zero i)⟩, ⟨(g _ _ (by decide)).trans h5.1, h5.2⟩, h6⟩
  have h3 : keptC k S := h3
  show keptC k _
  unfold keptC at h3 ⊢
  cases k with
  | none => exact (g _ _ (by decide)).trans h3
  | some q => exact ⟨(g _ _ (by decide)).trans h3.1, ⟨(g _ _ (by decide)).trans h3.2.1.1, h3.2.1.2⟩, (g _ _ (by decide)).trans h3.2.2⟩
theorem townS_ws (hW : WS σ) : WS (townS σ) := ⟨town_wft hW.1, hW.2.1, ⟨Nat.zero_le 96, fun i hi => absurd hi (Nat.not_lt_zero i)⟩, hW.2.2.2⟩
set_option maxRecDepth 100000 in
set_option maxHeartbeats 4000000 in
theorem c_X8_town (hx : zHS x adK adV fa) (hR : RepC σ S) (hW : WS σ) : zR x true mX8_town [.ref (zad x 0)] S (qC 0 (townA (Lc σ) (sL σ).1 (tauS σ)) σ (townS σ)) := by
  have hT := hR.1
  refine zC_of (by decide +kernel) (Nat.le_of_ble_eq_true rfl) ?_
  refine zaload_n dX8_town_0 rfl ?_
  refine gf_X8_36 rfl dX8_town_1 ?_
  refine zaload_n dX8_town_4 rfl ?_
  refine gf_X8_30 rfl dX8_town_5 ?_
  refine zcVn (ob_town (t := 1) (by decide)) gk_X8_88 dX8_town_8 (c_X7_becomeLike (t := 1) (u := 0) (by decide) (by decide) (by decide) hT) rfl (by decide) (Nat.le_of_ble_eq_true rfl) (fun S2 hp2 => ?_) rfl
  obtain ⟨hT2, hm2, hf2⟩ := hp2
  have hR2 := hR.mind hf2
  have ht2 : tauC S2 (tauS σ) := ⟨hT2, hm2.trans hR.2.1⟩
  refine zaload_n dX8_town_11 rfl ?_
  refine gf_X8_45 rfl dX8_town_12 ?_
  refine zaload_n dX8_town_15 rfl ?_
  refine gf_X8_36 rfl dX8_town_16 ?_
  refine zcVr ob_Te gk_X8_92 dX8_town_19 (c_X6_carryOut hx (hR2.lc hW) ht2 hW.1) rfl (by decide) (Nat.le_of_ble_eq_true rfl) (fun r3 S3 hp3 => ?_) rfl
  obtain ⟨hr3, hf3, hpos, hneg⟩ := hp3
  have hR3 := hR2.mind hf3
  refine zistore_n dX8_town_22 (by decide) rfl ?_
  refine ziload_n dX8_town_23 rfl ?_
  refine zif_le (tgt := 38) dX8_town_24 (by decide) (fun h24 => ?_) (fun h24 => ?_)
  · refine zaload_n dX8_town_38 rfl ?_
    refine gf_X8_45 rfl dX8_town_39 ?_
    refine ziconst (v := 0) dX8_town_42 (by decide) ?_
    refine pf_X8_85 rfl dX8_town_43 ?_
    refine ziload_n dX8_town_46 rfl ?_
    first
    | exact zireturn dX8_town_47 rfl rfl ⟨_, rfl, qC_ok rfl hr3 (hR3.now hT4 (hm4.trans hu.2) hf4).clr⟩
    | exact zireturn dX8_town_47 rfl rfl ⟨_, rfl, qC_ok rfl hr3 (by have e := hneg (Int32.not_lt.mpr h24); unfold townS; rw [e]; exact hR3.clr)⟩
  · have hu := hpos (Int32.not_le.mp h24)
    refine zaload_n dX8_town_27 rfl ?_
    refine gf_X8_30 rfl dX8_town_28 ?_
    refine zaload_n dX8_town_31 rfl ?_
    refine gf_X8_36 rfl dX8_town_32 ?_
    refine zcVn (ob_town (t := 0) (by decide)) gk_X8_88 dX8_town_35 (c_X7_becomeLike (t := 0) (u := 1) (by decide) (by decide) (by decide) hu.1) rfl (by decide) (Nat.le_of_ble_eq_true rfl) (fun S4 hp4 => ?_) rfl
    obtain ⟨hT4, hm4, hf4⟩ := hp4
    refine zaload_n dX8_town_38 rfl ?_
    refine gf_X8_45 rfl dX8_town_39 ?_
    refine ziconst (v := 0) dX8_town_42 (by decide) ?_
    refine pf_X8_85 rfl dX8_town_43 ?_
    refine ziload_n dX8_town_46 rfl ?_
    first
    | exact zireturn dX8_town_47 rfl rfl ⟨_, rfl, qC_ok rfl hr3 (hR3.now hT4 (hm4.trans hu.2) hf4).clr⟩
    | exact zireturn dX8_town_47 rfl rfl ⟨_, rfl, qC_ok rfl hr3 (by have e := hneg (Int32.not_lt.mpr h24); unfold townS; rw [e]; exact hR3.clr)⟩
end TELL2
