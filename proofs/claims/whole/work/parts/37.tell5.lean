/-! The telling, in the reference: what is done; town -/
section TELL5
variable {x : zCx} {S : zSt} {σ σ' : Sig} {L : Nat → Nat} {N : Nat} {t : Tau}
theorem u2_at {T : Tw} {a c i : Nat} {v : Int32} (h : i = c) : u2 T a c v a i = v := by rw [h]; exact u2_self
theorem isM_add {n : Nat} {T : Tw} {kd fg : Int32} (hM : isM S 1 n T) (hn : n < 8) : isM (u2 (u2 (u2 (u2 (u2 (u2 (u2 (u2 S.1 1 (7 * n + 0 + 2) kd) 1 (7 * n + 1 + 2) fg) 1 (7 * n + 2 + 2) (1 <<< (nI n &&& 31))) 1 (7 * n + 3 + 2) (nI n)) 1 (7 * n + 4 + 2) 50) 1 (7 * n + 5 + 2) 0) 1 (7 * n + 6 + 2) 0) 1 0 (nI n + 1), S.2) 1 (n + 1) (addT n T kd fg) := by
  refine ⟨by dsimp only; rw [u2_self, nI_1], by omega, fun w p h0 hw hp => ?_⟩
  show u2 (u2 (u2 (u2 (u2 (u2 (u2 (u2 S.1 1 (7 * n + 0 + 2) kd) 1 (7 * n + 1 + 2) fg) 1 (7 * n + 2 + 2) (1 <<< (nI n &&& 31))) 1 (7 * n + 3 + 2) (nI n)) 1 (7 * n + 4 + 2) 50) 1 (7 * n + 5 + 2) 0) 1 (7 * n + 6 + 2) 0) 1 0 (nI n + 1) 1 (7 * p + w + 1) = _
  by_cases e : p = n
  · subst e
    rcases (show w = 1 ∨ w = 2 ∨ w = 3 ∨ w = 4 ∨ w = 5 ∨ w = 6 ∨ w = 7 by omega) with rfl | rfl | rfl | rfl | rfl | rfl | rfl
    · rw [u2_ne (by omega), u2_ne (by omega), u2_ne (by omega), u2_ne (by omega), u2_ne (by omega), u2_ne (by omega), u2_ne (by omega), u2_at (by omega)]; simp [addT, u2]
    · rw [u2_ne (by omega), u2_ne (by omega), u2_ne (by omega), u2_ne (by omega), u2_ne (by omega), u2_ne (by omega), u2_at (by omega)]; simp [addT, u2]
    · rw [u2_ne (by omega), u2_ne (by omega), u2_ne (by omega), u2_ne (by omega), u2_ne (by omega), u2_at (by omega)]; simp [addT, u2]
    · rw [u2_ne (by omega), u2_ne (by omega), u2_ne (by omega), u2_ne (by omega), u2_at (by omega)]; simp [addT, u2]
    · rw [u2_ne (by omega), u2_ne (by omega), u2_ne (by omega), u2_at (by omega)]; simp [addT, u2]
    · rw [u2_ne (by omega), u2_ne (by omega), u2_at (by omega)]; simp [addT, u2]
    · rw [u2_ne (by omega), u2_at (by omega)]; simp [addT, u2]
  · have hp' : p < n := by omega
    rw [u2_ne (by omega), u2_ne (by omega), u2_ne (by omega), u2_ne (by omega), u2_ne (by omega), u2_ne (by omega), u2_ne (by omega), u2_ne (by omega), hM.2.2 w p h0 hw hp']
    unfold addT
    rw [u2_ne (by omega), u2_ne (by omega), u2_ne (by omega), u2_ne (by omega), u2_ne (by omega), u2_ne (by omega), u2_ne (by omega)]
set_option maxRecDepth 100000 in
set_option maxHeartbeats 4000000 in
theorem c_X9_adds {n : Nat} {T : Tw} {kd fg : Int32} (hM : isM S 1 n T) : zR x false mX9_adds [.ref (zad x 0), .int kd, .int fg] S (fun r U => (n = 8 ∧ r = bI false ∧ U = S) ∨ (n < 8 ∧ r = bI true ∧ isM U 1 (n + 1) (addT n T kd fg) ∧ U.1 1 1 = S.1 1 1 ∧ frM 1 S U)) := by
  have hn8 := hM.2.1
  refine zC_of (by decide +kernel) (Nat.le_of_ble_eq_true rfl) ?_
  by_cases h8 : n = 8
  · refine zaload_n dX9_adds_0 rfl ?_
    refine gf_X9_9 rfl dX9_adds_1 ?_
    refine ziconst (v := nI 0) dX9_adds_4 (by decide) ?_
    refine ziald dX9_adds_5 (by decide) rfl (by decide) (by omega) ?_
    rw [hM.1]
    refine zbipush (v := nI 8) dX9_adds_6 (by decide) ?_
    refine zicmp_ne (tgt := 13) dX9_adds_8 (by decide) (fun h => absurd (by rw [h8]) h) (fun _ => ?_)
    refine ziconst (v := 0) dX9_adds_11 (by decide) ?_
    exact zbret (q := false) dX9_adds_12 rfl rfl ⟨_, rfl, Or.inl ⟨h8, rfl, rfl⟩⟩
  · refine zaload_n dX9_adds_0 rfl ?_
    refine gf_X9_9 rfl dX9_adds_1 ?_
    refine ziconst (v := nI 0) dX9_adds_4 (by decide) ?_
    refine ziald dX9_adds_5 (by decide) rfl (by decide) (by omega) ?_
    rw [hM.1]
    refine zbipush (v := nI 8) dX9_adds_6 (by decide) ?_
    refine zicmp_ne (tgt := 13) dX9_adds_8 (by decide) (fun _ => ?_) (fun h => absurd h (fun z => h8 ((nI_eq (by omega) (by decide)).mp z)))
    refine zaload_n dX9_adds_13 rfl ?_
    refine gf_X9_9 rfl dX9_adds_14 ?_
    refine ziconst (v := nI 0) dX9_adds_17 (by decide) ?_
    refine ziald dX9_adds_18 (by decide) rfl (by decide) (by omega) ?_
    rw [hM.1]
    refine zistore_n dX9_adds_19 (by decide) rfl ?_
    refine zaload_n dX9_adds_20 rfl ?_
    refine gf_X9_9 rfl dX9_adds_21 ?_
    refine ziload_n dX9_adds_24 rfl ?_
    refine ziconst (v := nI 0) dX9_adds_25 (by decide) ?_
    refine zcSf gk_X9_52 dX9_adds_26 (c_X9_of (j := 0)) rfl (by decide) (Nat.le_of_ble_eq_true rfl) ?_ rfl
    refine ziload_n dX9_adds_29 rfl ?_
    refine ziast dX9_adds_30 (by decide) rfl (by decide) (by omega) ?_
    refine zaload_n dX9_adds_31 rfl ?_
    refine gf_X9_9 rfl dX9_adds_32 ?_
    refine ziload_n dX9_adds_35 rfl ?_
    refine ziconst (v := nI 1) dX9_adds_36 (by decide) ?_
    refine zcSf gk_X9_52 dX9_adds_37 (c_X9_of (j := 1)) rfl (by decide) (Nat.le_of_ble_eq_true rfl) ?_ rfl
    refine ziload_n dX9_adds_40 rfl ?_
    refine ziast dX9_adds_41 (by decide) rfl (by decide) (by omega) ?_
    refine zaload_n dX9_adds_42 rfl ?_
    refine gf_X9_9 rfl dX9_adds_43 ?_
    refine ziload_n dX9_adds_46 rfl ?_
    refine ziconst (v := nI 2) dX9_adds_47 (by decide) ?_
    refine zcSf gk_X9_52 dX9_adds_48 (c_X9_of (j := 2)) rfl (by decide) (Nat.le_of_ble_eq_true rfl) ?_ rfl
    refine ziconst (v := 1) dX9_adds_51 (by decide) ?_
    refine ziload_n dX9_adds_52 rfl ?_
    refine zishl dX9_adds_53 ?_
    refine ziast dX9_adds_54 (by decide) rfl (by decide) (by omega) ?_
    refine zaload_n dX9_adds_55 rfl ?_
    refine gf_X9_9 rfl dX9_adds_56 ?_
    refine ziload_n dX9_adds_59 rfl ?_
    refine ziconst (v := nI 3) dX9_adds_60 (by decide) ?_
    refine zcSf gk_X9_52 dX9_adds_61 (c_X9_of (j := 3)) rfl (by decide) (Nat.le_of_ble_eq_true rfl) ?_ rfl
    refine ziload_n dX9_adds_64 rfl ?_
    refine ziast dX9_adds_65 (by decide) rfl (by decide) (by omega) ?_
    refine zaload_n dX9_adds_66 rfl ?_
    refine gf_X9_9 rfl dX9_adds_67 ?_
    refine ziload_n dX9_adds_70 rfl ?_
    refine ziconst (v := nI 4) dX9_adds_71 (by decide) ?_
    refine zcSf gk_X9_52 dX9_adds_72 (c_X9_of (j := 4)) rfl (by decide) (Nat.le_of_ble_eq_true rfl) ?_ rfl
    refine zbipush (v := 50) dX9_adds_75 (by decide) ?_
    refine ziast dX9_adds_77 (by decide) rfl (by decide) (by omega) ?_
    refine zaload_n dX9_adds_78 rfl ?_
    refine gf_X9_9 rfl dX9_adds_79 ?_
    refine ziload_n dX9_adds_82 rfl ?_
    refine ziconst (v := nI 5) dX9_adds_83 (by decide) ?_
    refine zcSf gk_X9_52 dX9_adds_84 (c_X9_of (j := 5)) rfl (by decide) (Nat.le_of_ble_eq_true rfl) ?_ rfl
    refine ziconst (v := 0) dX9_adds_87 (by decide) ?_
    refine ziast dX9_adds_88 (by decide) rfl (by decide) (by omega) ?_
    refine zaload_n dX9_adds_89 rfl ?_
    refine gf_X9_9 rfl dX9_adds_90 ?_
    refine ziload_n dX9_adds_93 rfl ?_
    refine zbipush (v := nI 6) dX9_adds_94 (by decide) ?_
    refine zcSf gk_X9_52 dX9_adds_96 (c_X9_of (j := 6)) rfl (by decide) (Nat.le_of_ble_eq_true rfl) ?_ rfl
    refine ziconst (v := 0) dX9_adds_99 (by decide) ?_
    refine ziast dX9_adds_100 (by decide) rfl (by decide) (by omega) ?_
    refine zaload_n dX9_adds_101 rfl ?_
    refine gf_X9_9 rfl dX9_adds_102 ?_
    refine ziconst (v := nI 0) dX9_adds_105 (by decide) ?_
    refine zdup2_11 dX9_adds_106 rfl rfl ?_
    refine ziald dX9_adds_107 (by decide) rfl (by decide) (by omega) ?_
    refine zsi (c := nI n) (by dsimp only; rw [u2_ne (by omega), u2_ne (by omega), u2_ne (by omega), u2_ne (by omega), u2_ne (by omega), u2_ne (by omega), u2_ne (by omega)]; exact hM.1) ?_
    refine ziconst (v := 1) dX9_adds_108 (by decide) ?_
    refine ziadd dX9_adds_109 ?_
    refine ziast dX9_adds_110 (by decide) rfl (by decide) (by omega) ?_
    refine ziconst (v := 1) dX9_adds_111 (by decide) ?_
    exact zbret (q := true) dX9_adds_112 rfl rfl ⟨_, rfl, Or.inr ⟨by omega, rfl, isM_add hM (by omega), by dsimp only; rw [u2_ne (by omega), u2_ne (by omega), u2_ne (by omega), u2_ne (by omega), u2_ne (by omega), u2_ne (by omega), u2_ne (by omega), u2_ne (by omega)], frM.rf.put.put.put.put.put.put.put.put⟩⟩
def tauM (S : zSt) (t : Tau) : Prop := isM S 1 t.1 t.2.1 ∧ S.1 1 1 = t.2.2
def sdQ (o : Option Tau) (S : zSt) : Int32 → zSt → Prop := fun r U => (o = none ∧ r = bI false ∧ U = S) ∨ ∃ u, o = some u ∧ r = bI true ∧ tauM U u ∧ frM 1 S U
theorem sdQ_n {o : Option Tau} (h : o = none) : sdQ o S (bI false) S := Or.inl ⟨h, rfl, rfl⟩
theorem sdQ_s {o : Option Tau} {U : zSt} (u : Tau) (h : o = some u) (hu : tauM U u) (hf : frM 1 S U) : sdQ o S (bI true) U := Or.inr ⟨u, h, rfl, hu, hf⟩
theorem isP_dec {n a : Nat} (ha : a < 100) (hn : n ≤ 8) : isP n (nI a) = decide (a < n) := thN (by omega) (by omega)
theorem tw_dec {n a c : Nat} (ha : a < 100) (hc : c < 100) (hn : n ≤ 8) : decide (twF n (nI a) (nI c) = 0) = decide (a < n ∧ c < n ∧ ¬ a = c) := by
  congr 1
  apply propext
  constructor
  · intro h
    obtain ⟨i, j, hi, hj, hij, e1, e2⟩ := twF_of (by omega) h
    have g1 := (nI_eq (by omega) (by omega)).mp e1
    have g2 := (nI_eq (by omega) (by omega)).mp e2
    omega
  · rintro ⟨h1, h2, h3⟩
    unfold twF
    rw [if_neg (fun z => h3 ((nI_eq (by omega) (by omega)).mp z))]
    unfold fO pF
    rw [isP_dec ha hn, isP_dec hc hn, decide_eq_true h1, decide_eq_true h2]
    rfl
theorem in60 {v : Nat} (hv : v < 100) : decide ((1 : Int32) ≤ nI v ∧ nI v ≤ 60) = decide (1 ≤ v ∧ v ≤ 60) := by
  congr 1
  apply propext
  exact ⟨fun z => ⟨(nI_leI (a := 1) (by decide) (by omega)).mp z.1, (nI_leI (b := 60) (by omega) (by decide)).mp z.2⟩, fun z => ⟨nI_le (a := 1) z.1 (by omega), nI_le (b := 60) z.2 (by decide)⟩⟩
theorem put_mo {a j : Nat} {v : Int32} (f : Nat → Nat → Int32) : u2 f 1 (7 * a + j + 2) v 1 1 = f 1 1 := u2_ne (by omega)
set_option maxRecDepth 100000 in
set_option maxHeartbeats 4000000 in
theorem c_X9_isDone {p : Nat} (hok : okS L N p) (hn : numsOk L p (S.1 9)) (ht : tauM S t) (hW : WFT t.1 t.2.1) : zR x false mX9_isDone [.ref (zad x 0), .int (nI (L p))] S (sdQ (stS L p t) S) := by
  have hM := ht.1
  have hn8 := hM.2.1
  refine zC_of (by decide +kernel) (Nat.le_of_ble_eq_true rfl) ?_
  rcases heads hok.1 with hc | hc | hc | hc | hc | hc
  · obtain ⟨n1, n2⟩ := hn.1 hc
    rw [stS_p hc]
    unfold stP
    refine zaload_n dX9_isDone_0 rfl ?_
    refine gf_X9_34 rfl dX9_isDone_1 ?_
    refine ziconst (v := nI 0) dX9_isDone_4 (by decide) ?_
    refine ziald dX9_isDone_5 (by decide) rfl (by decide) (by omega) ?_
    rw [n1]
    refine zistore_n dX9_isDone_6 (by decide) rfl ?_
    refine zaload_n dX9_isDone_7 rfl ?_
    refine gf_X9_34 rfl dX9_isDone_8 ?_
    refine ziconst (v := nI 1) dX9_isDone_11 (by decide) ?_
    refine ziald dX9_isDone_12 (by decide) rfl (by decide) (by omega) ?_
    rw [n2]
    refine zistore_n dX9_isDone_13 (by decide) rfl ?_
    refine ziconst (v := 0) dX9_isDone_14 (by decide) ?_
    refine zistore dX9_isDone_15 (by decide) rfl ?_
    refine ziload_n dX9_isDone_17 rfl ?_
    rw [hc]
    refine ztableIn (off := 74) (tgt := 92) dX9_isDone_18 (by decide +kernel) (by decide +kernel) (by decide +kernel) (by decide) ?_
    refine zaload_n dX9_isDone_92 rfl ?_
    refine ziload_n dX9_isDone_93 rfl ?_
    refine ziload_n dX9_isDone_94 rfl ?_
    refine zcVr ob_Mo gk_X9_112 dX9_isDone_95 (c_X9_adds hM) rfl (by decide) (Nat.le_of_ble_eq_true rfl) (fun r2 S2 hp2 => ?_) rfl
    rcases hp2 with ⟨h8, rfl, rfl⟩ | ⟨h8, rfl, hM2, hg2, hf2⟩
    · exact zbret (q := false) dX9_isDone_98 rfl rfl ⟨_, rfl, sdQ_n (by rw [if_pos h8])⟩
    · exact zbret (q := true) dX9_isDone_98 rfl rfl ⟨_, rfl, sdQ_s (t.1 + 1, addT t.1 t.2.1 (kindN (L (p + 1))) (nI (L (p + 2) - 48)), t.2.2) (by rw [if_neg (by omega)]) ⟨hM2, hg2.trans ht.2⟩ hf2⟩
  · have n1 := hn.2.2.1 hc
    obtain ⟨-, g2, g3⟩ := okS_b hok hc
    rw [stS_b hc]
    obtain ⟨a, ha⟩ : ∃ a, L (p + 1) - 48 = a := ⟨_, rfl⟩
    have ha9 : a < 100 := by omega
    rw [ha] at n1 ⊢
    unfold stB
    by_cases h1 : a < t.1
    · obtain ⟨m, m1, m2, m3⟩ := hW.2.1.2 a h1
      obtain ⟨e1, e2, e3, e4⟩ := nI_12 m1
      by_cases hm : m = 0
      · rw [if_neg (fun z => absurd z.2 (by rw [m2, e2]; omega))]
        refine zaload_n dX9_isDone_0 rfl ?_
        refine gf_X9_34 rfl dX9_isDone_1 ?_
        refine ziconst (v := nI 0) dX9_isDone_4 (by decide) ?_
        refine ziald dX9_isDone_5 (by decide) rfl (by decide) (by omega) ?_
        rw [n1]
        refine zistore_n dX9_isDone_6 (by decide) rfl ?_
        refine zaload_n dX9_isDone_7 rfl ?_
        refine gf_X9_34 rfl dX9_isDone_8 ?_
        refine ziconst (v := nI 1) dX9_isDone_11 (by decide) ?_
        refine ziald dX9_isDone_12 (by decide) rfl (by decide) (by omega) ?_
        refine zistore_n dX9_isDone_13 (by decide) rfl ?_
        refine ziconst (v := 0) dX9_isDone_14 (by decide) ?_
        refine zistore dX9_isDone_15 (by decide) rfl ?_
        refine ziload_n dX9_isDone_17 rfl ?_
        rw [hc]
        refine ztableIn (off := 115) (tgt := 133) dX9_isDone_18 (by decide +kernel) (by decide +kernel) (by decide +kernel) (by decide) ?_
        refine zaload_n dX9_isDone_133 rfl ?_
        refine ziload_n dX9_isDone_134 rfl ?_
        refine zcVf ob_Mo gk_X9_48 dX9_isDone_135 (show zF x false mX9_isOne _ S (some (.int (bI (decide (a < t.1))))) S from by have h := c_X9_isOne (x := x) (p := nI a) hM; rw [isP_dec (by omega) hn8] at h; exact h) rfl (by decide) (Nat.le_of_ble_eq_true rfl) ?_ rfl
        refine zifb_eq (tgt := 155) dX9_isDone_138 (by decide) (fun h => absurd (h.symm.trans (decide_eq_true h1)) (by decide)) (fun _ => ?_)
        refine zaload_n dX9_isDone_141 rfl ?_
        refine gf_X9_9 rfl dX9_isDone_142 ?_
        refine ziload_n dX9_isDone_145 rfl ?_
        refine zbipush (v := nI 6) dX9_isDone_146 (by decide) ?_
        refine zcSf gk_X9_52 dX9_isDone_148 (c_X9_of (j := 6)) rfl (by decide) (Nat.le_of_ble_eq_true rfl) ?_ rfl
        refine zialM (k := 1) (j := 6) (w := 7) dX9_isDone_151 hr1 hM rfl (by decide) (by omega) ?_
        refine zif_ne (tgt := 157) dX9_isDone_152 (by decide) (fun h => absurd (by rw [m2, e4]; exact hm) h) (fun _ => ?_)
        refine ziconst (v := 0) dX9_isDone_155 (by decide) ?_
        exact zbret (q := false) dX9_isDone_156 rfl rfl ⟨_, rfl, sdQ_n rfl⟩
      · rw [if_pos ⟨h1, by rw [m2, e2]; exact hm⟩]
        obtain ⟨r, a1, a2, a3, a4, a5⟩ := m3 hm
        have hw := MW.wearer a1 a3 a5
        refine zaload_n dX9_isDone_0 rfl ?_
        refine gf_X9_34 rfl dX9_isDone_1 ?_
        refine ziconst (v := nI 0) dX9_isDone_4 (by decide) ?_
        refine ziald dX9_isDone_5 (by decide) rfl (by decide) (by omega) ?_
        rw [n1]
        refine zistore_n dX9_isDone_6 (by decide) rfl ?_
        refine zaload_n dX9_isDone_7 rfl ?_
        refine gf_X9_34 rfl dX9_isDone_8 ?_
        refine ziconst (v := nI 1) dX9_isDone_11 (by decide) ?_
        refine ziald dX9_isDone_12 (by decide) rfl (by decide) (by omega) ?_
        refine zistore_n dX9_isDone_13 (by decide) rfl ?_
        refine ziconst (v := 0) dX9_isDone_14 (by decide) ?_
        refine zistore dX9_isDone_15 (by decide) rfl ?_
        refine ziload_n dX9_isDone_17 rfl ?_
        rw [hc]
        refine ztableIn (off := 115) (tgt := 133) dX9_isDone_18 (by decide +kernel) (by decide +kernel) (by decide +kernel) (by decide) ?_
        refine zaload_n dX9_isDone_133 rfl ?_
        refine ziload_n dX9_isDone_134 rfl ?_
        refine zcVf ob_Mo gk_X9_48 dX9_isDone_135 (show zF x false mX9_isOne _ S (some (.int (bI (decide (a < t.1))))) S from by have h := c_X9_isOne (x := x) (p := nI a) hM; rw [isP_dec (by omega) hn8] at h; exact h) rfl (by decide) (Nat.le_of_ble_eq_true rfl) ?_ rfl
        refine zifb_eq (tgt := 155) dX9_isDone_138 (by decide) (fun h => absurd (h.symm.trans (decide_eq_true h1)) (by decide)) (fun _ => ?_)
        refine zaload_n dX9_isDone_141 rfl ?_
        refine gf_X9_9 rfl dX9_isDone_142 ?_
        refine ziload_n dX9_isDone_145 rfl ?_
        refine zbipush (v := nI 6) dX9_isDone_146 (by decide) ?_
        refine zcSf gk_X9_52 dX9_isDone_148 (c_X9_of (j := 6)) rfl (by decide) (Nat.le_of_ble_eq_true rfl) ?_ rfl
        refine zialM (k := 1) (j := 6) (w := 7) dX9_isDone_151 hr1 hM rfl (by decide) (by omega) ?_
        refine zif_ne (tgt := 157) dX9_isDone_152 (by decide) (fun _ => ?_) (fun h => absurd h (by rw [m2, e4]; exact hm))
        refine zaload_n dX9_isDone_157 rfl ?_
        refine gf_X9_9 rfl dX9_isDone_158 ?_
        refine ziload_n dX9_isDone_161 rfl ?_
        refine zcSf  gk_X9_81 dX9_isDone_162 (c_X9_comesBack hr1 hM h1 a1 hw) rfl (by decide) (Nat.le_of_ble_eq_true rfl) ?_ rfl
        refine zistore dX9_isDone_165 (by decide) rfl ?_
        refine ziconst (v := 1) dX9_isDone_167 (by decide) ?_
        exact zbret (q := true) dX9_isDone_168 rfl rfl ⟨_, rfl, sdQ_s _ rfl ⟨isM_back hM a1 hw, by dsimp only; rw [put_mo, put_mo, put_mo]; exact ht.2⟩ (frM_back frM.rf)⟩
    · rw [if_neg (fun z => h1 z.1)]
      refine zaload_n dX9_isDone_0 rfl ?_
      refine gf_X9_34 rfl dX9_isDone_1 ?_
      refine ziconst (v := nI 0) dX9_isDone_4 (by decide) ?_
      refine ziald dX9_isDone_5 (by decide) rfl (by decide) (by omega) ?_
      rw [n1]
      refine zistore_n dX9_isDone_6 (by decide) rfl ?_
      refine zaload_n dX9_isDone_7 rfl ?_
      refine gf_X9_34 rfl dX9_isDone_8 ?_
      refine ziconst (v := nI 1) dX9_isDone_11 (by decide) ?_
      refine ziald dX9_isDone_12 (by decide) rfl (by decide) (by omega) ?_
      refine zistore_n dX9_isDone_13 (by decide) rfl ?_
      refine ziconst (v := 0) dX9_isDone_14 (by decide) ?_
      refine zistore dX9_isDone_15 (by decide) rfl ?_
      refine ziload_n dX9_isDone_17 rfl ?_
      rw [hc]
      refine ztableIn (off := 115) (tgt := 133) dX9_isDone_18 (by decide +kernel) (by decide +kernel) (by decide +kernel) (by decide) ?_
      refine zaload_n dX9_isDone_133 rfl ?_
      refine ziload_n dX9_isDone_134 rfl ?_
      refine zcVf ob_Mo gk_X9_48 dX9_isDone_135 (show zF x false mX9_isOne _ S (some (.int (bI (decide (a < t.1))))) S from by have h := c_X9_isOne (x := x) (p := nI a) hM; rw [isP_dec (by omega) hn8] at h; exact h) rfl (by decide) (Nat.le_of_ble_eq_true rfl) ?_ rfl
      refine zifb_eq (tgt := 155) dX9_isDone_138 (by decide) (fun _ => ?_) (fun h => absurd (h.symm.trans (decide_eq_false h1)) (by decide))
      refine ziconst (v := 0) dX9_isDone_155 (by decide) ?_
      exact zbret (q := false) dX9_isDone_156 rfl rfl ⟨_, rfl, sdQ_n rfl⟩
  · obtain ⟨n1, n2⟩ := hn.2.1 (Or.inl hc)
    obtain ⟨-, ⟨g2, g3⟩, g4, g5⟩ := okS_2 hok (Or.inl hc)
    rw [stS_k hc]
    obtain ⟨a, ha⟩ : ∃ a, L (p + 1) - 48 = a := ⟨_, rfl⟩
    obtain ⟨c, hc2⟩ : ∃ c, L (p + 2) - 48 = c := ⟨_, rfl⟩
    have ha9 : a < 100 := by omega
    have hc9 : c < 100 := by omega
    rw [ha] at n1 ⊢
    rw [hc2] at n2 ⊢
    unfold stK
    by_cases h1 : a < t.1
    · by_cases h2 : c < t.1
      · rw [if_pos ⟨h1, h2⟩]
        refine zaload_n dX9_isDone_0 rfl ?_
        refine gf_X9_34 rfl dX9_isDone_1 ?_
        refine ziconst (v := nI 0) dX9_isDone_4 (by decide) ?_
        refine ziald dX9_isDone_5 (by decide) rfl (by decide) (by omega) ?_
        rw [n1]
        refine zistore_n dX9_isDone_6 (by decide) rfl ?_
        refine zaload_n dX9_isDone_7 rfl ?_
        refine gf_X9_34 rfl dX9_isDone_8 ?_
        refine ziconst (v := nI 1) dX9_isDone_11 (by decide) ?_
        refine ziald dX9_isDone_12 (by decide) rfl (by decide) (by omega) ?_
        rw [n2]
        refine zistore_n dX9_isDone_13 (by decide) rfl ?_
        refine ziconst (v := 0) dX9_isDone_14 (by decide) ?_
        refine zistore dX9_isDone_15 (by decide) rfl ?_
        refine ziload_n dX9_isDone_17 rfl ?_
        rw [hc]
        refine ztableIn (off := 151) (tgt := 169) dX9_isDone_18 (by decide +kernel) (by decide +kernel) (by decide +kernel) (by decide) ?_
        refine zaload_n dX9_isDone_169 rfl ?_
        refine ziload_n dX9_isDone_170 rfl ?_
        refine zcVf ob_Mo gk_X9_48 dX9_isDone_171 (show zF x false mX9_isOne _ S (some (.int (bI (decide (a < t.1))))) S from by have h := c_X9_isOne (x := x) (p := nI a) hM; rw [isP_dec (by omega) hn8] at h; exact h) rfl (by decide) (Nat.le_of_ble_eq_true rfl) ?_ rfl
        refine zifb_eq (tgt := 185) dX9_isDone_174 (by decide) (fun h => absurd (h.symm.trans (decide_eq_true h1)) (by decide)) (fun _ => ?_)
        refine zaload_n dX9_isDone_177 rfl ?_
        refine ziload_n dX9_isDone_178 rfl ?_
        refine zcVf ob_Mo gk_X9_48 dX9_isDone_179 (show zF x false mX9_isOne _ S (some (.int (bI (decide (c < t.1))))) S from by have h := c_X9_isOne (x := x) (p := nI c) hM; rw [isP_dec (by omega) hn8] at h; exact h) rfl (by decide) (Nat.le_of_ble_eq_true rfl) ?_ rfl
        refine zifb_ne (tgt := 187) dX9_isDone_182 (by decide) (fun _ => ?_) (fun h => absurd (h.symm.trans (decide_eq_true h2)) (by decide))
        refine zaload_n dX9_isDone_187 rfl ?_
        refine gf_X9_9 rfl dX9_isDone_188 ?_
        refine ziload_n dX9_isDone_191 rfl ?_
        refine ziconst (v := nI 2) dX9_isDone_192 (by decide) ?_
        refine zcSf gk_X9_52 dX9_isDone_193 (c_X9_of (j := 2)) rfl (by decide) (Nat.le_of_ble_eq_true rfl) ?_ rfl
        refine zdup2_11 dX9_isDone_196 rfl rfl ?_
        refine zialM (k := 1) (j := 2) (w := 3) dX9_isDone_197 hr1 hM rfl (by decide) (by omega) ?_
        refine ziconst (v := 1) dX9_isDone_198 (by decide) ?_
        refine ziload_n dX9_isDone_199 rfl ?_
        refine zishl dX9_isDone_200 ?_
        refine zixor dX9_isDone_201 ?_
        refine ziast dX9_isDone_202 (mrk hr1.2) (mrl hr1.1 hr1.2) (by decide) (by omega) ?_
        refine ziconst (v := 1) dX9_isDone_203 (by decide) ?_
        exact zbret (q := true) dX9_isDone_204 rfl rfl ⟨_, rfl, sdQ_s _ rfl ⟨isM_put hM rfl (by decide), by dsimp only; rw [put_mo]; exact ht.2⟩ frM.rf.put⟩
      · rw [if_neg (fun z => h2 z.2)]
        refine zaload_n dX9_isDone_0 rfl ?_
        refine gf_X9_34 rfl dX9_isDone_1 ?_
        refine ziconst (v := nI 0) dX9_isDone_4 (by decide) ?_
        refine ziald dX9_isDone_5 (by decide) rfl (by decide) (by omega) ?_
        rw [n1]
        refine zistore_n dX9_isDone_6 (by decide) rfl ?_
        refine zaload_n dX9_isDone_7 rfl ?_
        refine gf_X9_34 rfl dX9_isDone_8 ?_
        refine ziconst (v := nI 1) dX9_isDone_11 (by decide) ?_
        refine ziald dX9_isDone_12 (by decide) rfl (by decide) (by omega) ?_
        rw [n2]
        refine zistore_n dX9_isDone_13 (by decide) rfl ?_
        refine ziconst (v := 0) dX9_isDone_14 (by decide) ?_
        refine zistore dX9_isDone_15 (by decide) rfl ?_
        refine ziload_n dX9_isDone_17 rfl ?_
        rw [hc]
        refine ztableIn (off := 151) (tgt := 169) dX9_isDone_18 (by decide +kernel) (by decide +kernel) (by decide +kernel) (by decide) ?_
        refine zaload_n dX9_isDone_169 rfl ?_
        refine ziload_n dX9_isDone_170 rfl ?_
        refine zcVf ob_Mo gk_X9_48 dX9_isDone_171 (show zF x false mX9_isOne _ S (some (.int (bI (decide (a < t.1))))) S from by have h := c_X9_isOne (x := x) (p := nI a) hM; rw [isP_dec (by omega) hn8] at h; exact h) rfl (by decide) (Nat.le_of_ble_eq_true rfl) ?_ rfl
        refine zifb_eq (tgt := 185) dX9_isDone_174 (by decide) (fun h => absurd (h.symm.trans (decide_eq_true h1)) (by decide)) (fun _ => ?_)
        refine zaload_n dX9_isDone_177 rfl ?_
        refine ziload_n dX9_isDone_178 rfl ?_
        refine zcVf ob_Mo gk_X9_48 dX9_isDone_179 (show zF x false mX9_isOne _ S (some (.int (bI (decide (c < t.1))))) S from by have h := c_X9_isOne (x := x) (p := nI c) hM; rw [isP_dec (by omega) hn8] at h; exact h) rfl (by decide) (Nat.le_of_ble_eq_true rfl) ?_ rfl
        refine zifb_ne (tgt := 187) dX9_isDone_182 (by decide) (fun h => absurd (h.symm.trans (decide_eq_false h2)) (by decide)) (fun _ => ?_)
        refine ziconst (v := 0) dX9_isDone_185 (by decide) ?_
        exact zbret (q := false) dX9_isDone_186 rfl rfl ⟨_, rfl, sdQ_n rfl⟩
    · rw [if_neg (fun z => h1 z.1)]
      refine zaload_n dX9_isDone_0 rfl ?_
      refine gf_X9_34 rfl dX9_isDone_1 ?_
      refine ziconst (v := nI 0) dX9_isDone_4 (by decide) ?_
      refine ziald dX9_isDone_5 (by decide) rfl (by decide) (by omega) ?_
      rw [n1]
      refine zistore_n dX9_isDone_6 (by decide) rfl ?_
      refine zaload_n dX9_isDone_7 rfl ?_
      refine gf_X9_34 rfl dX9_isDone_8 ?_
      refine ziconst (v := nI 1) dX9_isDone_11 (by decide) ?_
      refine ziald dX9_isDone_12 (by decide) rfl (by decide) (by omega) ?_
      rw [n2]
      refine zistore_n dX9_isDone_13 (by decide) rfl ?_
      refine ziconst (v := 0) dX9_isDone_14 (by decide) ?_
      refine zistore dX9_isDone_15 (by decide) rfl ?_
      refine ziload_n dX9_isDone_17 rfl ?_
      rw [hc]
      refine ztableIn (off := 151) (tgt := 169) dX9_isDone_18 (by decide +kernel) (by decide +kernel) (by decide +kernel) (by decide) ?_
      refine zaload_n dX9_isDone_169 rfl ?_
      refine ziload_n dX9_isDone_170 rfl ?_
      refine zcVf ob_Mo gk_X9_48 dX9_isDone_171 (show zF x false mX9_isOne _ S (some (.int (bI (decide (a < t.1))))) S from by have h := c_X9_isOne (x := x) (p := nI a) hM; rw [isP_dec (by omega) hn8] at h; exact h) rfl (by decide) (Nat.le_of_ble_eq_true rfl) ?_ rfl
      refine zifb_eq (tgt := 185) dX9_isDone_174 (by decide) (fun _ => ?_) (fun h => absurd (h.symm.trans (decide_eq_false h1)) (by decide))
      refine ziconst (v := 0) dX9_isDone_185 (by decide) ?_
      exact zbret (q := false) dX9_isDone_186 rfl rfl ⟨_, rfl, sdQ_n rfl⟩
  · obtain ⟨n1, n2⟩ := hn.2.1 (Or.inr hc)
    obtain ⟨-, ⟨g2, g3⟩, g4, g5⟩ := okS_2 hok (Or.inr (Or.inl hc))
    rw [stS_l hc]
    obtain ⟨a, ha⟩ : ∃ a, L (p + 1) - 48 = a := ⟨_, rfl⟩
    obtain ⟨c, hc2⟩ : ∃ c, L (p + 2) - 48 = c := ⟨_, rfl⟩
    have ha9 : a < 100 := by omega
    have hc9 : c < 100 := by omega
    rw [ha] at n1 ⊢
    rw [hc2] at n2 ⊢
    unfold stL
    by_cases h1 : a < t.1 ∧ c < t.1 ∧ ¬ a = c
    · by_cases h2 : ¬ a = c ∧ t.2.1 4 a = nI a ∧ t.2.1 4 c = nI c
      · rw [if_pos ⟨h1.1, h1.2.1, h2⟩]
        refine zaload_n dX9_isDone_0 rfl ?_
        refine gf_X9_34 rfl dX9_isDone_1 ?_
        refine ziconst (v := nI 0) dX9_isDone_4 (by decide) ?_
        refine ziald dX9_isDone_5 (by decide) rfl (by decide) (by omega) ?_
        rw [n1]
        refine zistore_n dX9_isDone_6 (by decide) rfl ?_
        refine zaload_n dX9_isDone_7 rfl ?_
        refine gf_X9_34 rfl dX9_isDone_8 ?_
        refine ziconst (v := nI 1) dX9_isDone_11 (by decide) ?_
        refine ziald dX9_isDone_12 (by decide) rfl (by decide) (by omega) ?_
        rw [n2]
        refine zistore_n dX9_isDone_13 (by decide) rfl ?_
        refine ziconst (v := 0) dX9_isDone_14 (by decide) ?_
        refine zistore dX9_isDone_15 (by decide) rfl ?_
        refine ziload_n dX9_isDone_17 rfl ?_
        rw [hc]
        refine ztableIn (off := 81) (tgt := 99) dX9_isDone_18 (by decide +kernel) (by decide +kernel) (by decide +kernel) (by decide) ?_
        refine zaload_n dX9_isDone_99 rfl ?_
        refine ziload_n dX9_isDone_100 rfl ?_
        refine ziload_n dX9_isDone_101 rfl ?_
        refine zcVf ob_Mo gk_X9_115 dX9_isDone_102 (show zF x false mX9_areTwo _ S (some (.int (bI (decide (a < t.1 ∧ c < t.1 ∧ ¬ a = c))))) S from by have h := c_X9_areTwo (x := x) (p := nI a) (q := nI c) hM; rw [tw_dec (by omega) (by omega) hn8] at h; exact h) rfl (by decide) (Nat.le_of_ble_eq_true rfl) ?_ rfl
        refine zifb_eq (tgt := 120) dX9_isDone_105 (by decide) (fun h => absurd (h.symm.trans (decide_eq_true h1)) (by decide)) (fun _ => ?_)
        refine zaload_n dX9_isDone_108 rfl ?_
        refine gf_X9_9 rfl dX9_isDone_109 ?_
        refine ziload_n dX9_isDone_112 rfl ?_
        refine ziload_n dX9_isDone_113 rfl ?_
        refine zcSf  gk_X9_118 dX9_isDone_114 (c_X9_canLend hr1 hM h1.1 h1.2.1) rfl (by decide) (Nat.le_of_ble_eq_true rfl) ?_ rfl
        refine zifb_ne (tgt := 122) dX9_isDone_117 (by decide) (fun _ => ?_) (fun h => absurd (h.symm.trans (decide_eq_true h2)) (by decide))
        refine zaload_n dX9_isDone_122 rfl ?_
        refine gf_X9_9 rfl dX9_isDone_123 ?_
        refine ziload_n dX9_isDone_126 rfl ?_
        refine ziload_n dX9_isDone_127 rfl ?_
        refine zcSv  gk_X9_122 dX9_isDone_128 (c_X9_lendsIn hr1 hM h1.1 h1.2.1) rfl (by decide) (Nat.le_of_ble_eq_true rfl) ?_ rfl
        refine ziconst (v := 1) dX9_isDone_131 (by decide) ?_
        exact zbret (q := true) dX9_isDone_132 rfl rfl ⟨_, rfl, sdQ_s _ rfl ⟨isM_hand hM, by dsimp only; rw [put_mo, put_mo, put_mo]; exact ht.2⟩ (frM_hand frM.rf)⟩
      · rw [if_neg (fun z => h2 z.2.2)]
        refine zaload_n dX9_isDone_0 rfl ?_
        refine gf_X9_34 rfl dX9_isDone_1 ?_
        refine ziconst (v := nI 0) dX9_isDone_4 (by decide) ?_
        refine ziald dX9_isDone_5 (by decide) rfl (by decide) (by omega) ?_
        rw [n1]
        refine zistore_n dX9_isDone_6 (by decide) rfl ?_
        refine zaload_n dX9_isDone_7 rfl ?_
        refine gf_X9_34 rfl dX9_isDone_8 ?_
        refine ziconst (v := nI 1) dX9_isDone_11 (by decide) ?_
        refine ziald dX9_isDone_12 (by decide) rfl (by decide) (by omega) ?_
        rw [n2]
        refine zistore_n dX9_isDone_13 (by decide) rfl ?_
        refine ziconst (v := 0) dX9_isDone_14 (by decide) ?_
        refine zistore dX9_isDone_15 (by decide) rfl ?_
        refine ziload_n dX9_isDone_17 rfl ?_
        rw [hc]
        refine ztableIn (off := 81) (tgt := 99) dX9_isDone_18 (by decide +kernel) (by decide +kernel) (by decide +kernel) (by decide) ?_
        refine zaload_n dX9_isDone_99 rfl ?_
        refine ziload_n dX9_isDone_100 rfl ?_
        refine ziload_n dX9_isDone_101 rfl ?_
        refine zcVf ob_Mo gk_X9_115 dX9_isDone_102 (show zF x false mX9_areTwo _ S (some (.int (bI (decide (a < t.1 ∧ c < t.1 ∧ ¬ a = c))))) S from by have h := c_X9_areTwo (x := x) (p := nI a) (q := nI c) hM; rw [tw_dec (by omega) (by omega) hn8] at h; exact h) rfl (by decide) (Nat.le_of_ble_eq_true rfl) ?_ rfl
        refine zifb_eq (tgt := 120) dX9_isDone_105 (by decide) (fun h => absurd (h.symm.trans (decide_eq_true h1)) (by decide)) (fun _ => ?_)
        refine zaload_n dX9_isDone_108 rfl ?_
        refine gf_X9_9 rfl dX9_isDone_109 ?_
        refine ziload_n dX9_isDone_112 rfl ?_
        refine ziload_n dX9_isDone_113 rfl ?_
        refine zcSf  gk_X9_118 dX9_isDone_114 (c_X9_canLend hr1 hM h1.1 h1.2.1) rfl (by decide) (Nat.le_of_ble_eq_true rfl) ?_ rfl
        refine zifb_ne (tgt := 122) dX9_isDone_117 (by decide) (fun h => absurd (h.symm.trans (decide_eq_false h2)) (by decide)) (fun _ => ?_)
        refine ziconst (v := 0) dX9_isDone_120 (by decide) ?_
        exact zbret (q := false) dX9_isDone_121 rfl rfl ⟨_, rfl, sdQ_n rfl⟩
    · rw [if_neg (fun z => h1 ⟨z.1, z.2.1, z.2.2.1⟩)]
      refine zaload_n dX9_isDone_0 rfl ?_
      refine gf_X9_34 rfl dX9_isDone_1 ?_
      refine ziconst (v := nI 0) dX9_isDone_4 (by decide) ?_
      refine ziald dX9_isDone_5 (by decide) rfl (by decide) (by omega) ?_
      rw [n1]
      refine zistore_n dX9_isDone_6 (by decide) rfl ?_
      refine zaload_n dX9_isDone_7 rfl ?_
      refine gf_X9_34 rfl dX9_isDone_8 ?_
      refine ziconst (v := nI 1) dX9_isDone_11 (by decide) ?_
      refine ziald dX9_isDone_12 (by decide) rfl (by decide) (by omega) ?_
      rw [n2]
      refine zistore_n dX9_isDone_13 (by decide) rfl ?_
      refine ziconst (v := 0) dX9_isDone_14 (by decide) ?_
      refine zistore dX9_isDone_15 (by decide) rfl ?_
      refine ziload_n dX9_isDone_17 rfl ?_
      rw [hc]
      refine ztableIn (off := 81) (tgt := 99) dX9_isDone_18 (by decide +kernel) (by decide +kernel) (by decide +kernel) (by decide) ?_
      refine zaload_n dX9_isDone_99 rfl ?_
      refine ziload_n dX9_isDone_100 rfl ?_
      refine ziload_n dX9_isDone_101 rfl ?_
      refine zcVf ob_Mo gk_X9_115 dX9_isDone_102 (show zF x false mX9_areTwo _ S (some (.int (bI (decide (a < t.1 ∧ c < t.1 ∧ ¬ a = c))))) S from by have h := c_X9_areTwo (x := x) (p := nI a) (q := nI c) hM; rw [tw_dec (by omega) (by omega) hn8] at h; exact h) rfl (by decide) (Nat.le_of_ble_eq_true rfl) ?_ rfl
      refine zifb_eq (tgt := 120) dX9_isDone_105 (by decide) (fun _ => ?_) (fun h => absurd (h.symm.trans (decide_eq_false h1)) (by decide))
      refine ziconst (v := 0) dX9_isDone_120 (by decide) ?_
      exact zbret (q := false) dX9_isDone_121 rfl rfl ⟨_, rfl, sdQ_n rfl⟩
  · have n1 := hn.2.2.2.2 hc
    obtain ⟨-, ⟨g2, g3⟩, g4, g5⟩ := okS_2 hok (Or.inr (Or.inr hc))
    rw [stS_m hc]
    obtain ⟨v, hv⟩ : ∃ v, 10 * (L (p + 1) - 48) + (L (p + 2) - 48) = v := ⟨_, rfl⟩
    have hv9 : v < 100 := by omega
    rw [hv] at n1 ⊢
    unfold stM
    by_cases h1 : 1 ≤ v ∧ v ≤ 60
    · by_cases h2 : t.2.2 + nI v ≤ 999
      · rw [if_pos ⟨h1.1, h1.2, h2⟩]
        refine zaload_n dX9_isDone_0 rfl ?_
        refine gf_X9_34 rfl dX9_isDone_1 ?_
        refine ziconst (v := nI 0) dX9_isDone_4 (by decide) ?_
        refine ziald dX9_isDone_5 (by decide) rfl (by decide) (by omega) ?_
        rw [n1]
        refine zistore_n dX9_isDone_6 (by decide) rfl ?_
        refine zaload_n dX9_isDone_7 rfl ?_
        refine gf_X9_34 rfl dX9_isDone_8 ?_
        refine ziconst (v := nI 1) dX9_isDone_11 (by decide) ?_
        refine ziald dX9_isDone_12 (by decide) rfl (by decide) (by omega) ?_
        refine zistore_n dX9_isDone_13 (by decide) rfl ?_
        refine ziconst (v := 0) dX9_isDone_14 (by decide) ?_
        refine zistore dX9_isDone_15 (by decide) rfl ?_
        refine ziload_n dX9_isDone_17 rfl ?_
        rw [hc]
        refine ztableIn (off := 210) (tgt := 228) dX9_isDone_18 (by decide +kernel) (by decide +kernel) (by decide +kernel) (by decide) ?_
        refine ziload_n dX9_isDone_228 rfl ?_
        refine ziconst (v := 1) dX9_isDone_229 (by decide) ?_
        refine zbipush (v := 60) dX9_isDone_230 (by decide) ?_
        refine zcSf  gk_X9_44 dX9_isDone_232 (show zF x false mX9_isIn _ S (some (.int (bI (decide (1 ≤ v ∧ v ≤ 60))))) S from by have h := c_X9_isIn (x := x) (S := S) (u := nI v) (v := 1) (q := 60); rw [in60 (by omega)] at h; exact h) rfl (by decide) (Nat.le_of_ble_eq_true rfl) ?_ rfl
        refine zifb_eq (tgt := 252) dX9_isDone_235 (by decide) (fun h => absurd (h.symm.trans (decide_eq_true h1)) (by decide)) (fun _ => ?_)
        refine zaload_n dX9_isDone_238 rfl ?_
        refine gf_X9_9 rfl dX9_isDone_239 ?_
        refine ziconst (v := nI 1) dX9_isDone_242 (by decide) ?_
        refine ziald dX9_isDone_243 (mrk hr1.2) (mrl hr1.1 hr1.2) (by decide) (by decide) ?_
        rw [ht.2]
        refine ziload_n dX9_isDone_244 rfl ?_
        refine ziadd dX9_isDone_245 ?_
        refine zsipush (v := 999) dX9_isDone_246 (by decide) ?_
        refine zicmp_le (tgt := 254) dX9_isDone_249 (by decide) (fun _ => ?_) (fun h => absurd h2 h)
        refine zaload_n dX9_isDone_254 rfl ?_
        refine gf_X9_9 rfl dX9_isDone_255 ?_
        refine ziload_n dX9_isDone_258 rfl ?_
        refine zcSn  gk_X9_126 dX9_isDone_259 (c_X9_monthsOn hr1 hM hW.2.1 (K := v) (by omega)) rfl (by decide) (Nat.le_of_ble_eq_true rfl) (fun S2 hp2 => ?_) rfl
        obtain ⟨hM2, -, hg2, hf2⟩ := hp2
        refine ziconst (v := 1) dX9_isDone_262 (by decide) ?_
        exact zbret (q := true) dX9_isDone_263 rfl rfl ⟨_, rfl, sdQ_s _ rfl ⟨hM2, by rw [hg2, ht.2]⟩ hf2⟩
      · rw [if_neg (fun z => h2 z.2.2)]
        refine zaload_n dX9_isDone_0 rfl ?_
        refine gf_X9_34 rfl dX9_isDone_1 ?_
        refine ziconst (v := nI 0) dX9_isDone_4 (by decide) ?_
        refine ziald dX9_isDone_5 (by decide) rfl (by decide) (by omega) ?_
        rw [n1]
        refine zistore_n dX9_isDone_6 (by decide) rfl ?_
        refine zaload_n dX9_isDone_7 rfl ?_
        refine gf_X9_34 rfl dX9_isDone_8 ?_
        refine ziconst (v := nI 1) dX9_isDone_11 (by decide) ?_
        refine ziald dX9_isDone_12 (by decide) rfl (by decide) (by omega) ?_
        refine zistore_n dX9_isDone_13 (by decide) rfl ?_
        refine ziconst (v := 0) dX9_isDone_14 (by decide) ?_
        refine zistore dX9_isDone_15 (by decide) rfl ?_
        refine ziload_n dX9_isDone_17 rfl ?_
        rw [hc]
        refine ztableIn (off := 210) (tgt := 228) dX9_isDone_18 (by decide +kernel) (by decide +kernel) (by decide +kernel) (by decide) ?_
        refine ziload_n dX9_isDone_228 rfl ?_
        refine ziconst (v := 1) dX9_isDone_229 (by decide) ?_
        refine zbipush (v := 60) dX9_isDone_230 (by decide) ?_
        refine zcSf  gk_X9_44 dX9_isDone_232 (show zF x false mX9_isIn _ S (some (.int (bI (decide (1 ≤ v ∧ v ≤ 60))))) S from by have h := c_X9_isIn (x := x) (S := S) (u := nI v) (v := 1) (q := 60); rw [in60 (by omega)] at h; exact h) rfl (by decide) (Nat.le_of_ble_eq_true rfl) ?_ rfl
        refine zifb_eq (tgt := 252) dX9_isDone_235 (by decide) (fun h => absurd (h.symm.trans (decide_eq_true h1)) (by decide)) (fun _ => ?_)
        refine zaload_n dX9_isDone_238 rfl ?_
        refine gf_X9_9 rfl dX9_isDone_239 ?_
        refine ziconst (v := nI 1) dX9_isDone_242 (by decide) ?_
        refine ziald dX9_isDone_243 (mrk hr1.2) (mrl hr1.1 hr1.2) (by decide) (by decide) ?_
        rw [ht.2]
        refine ziload_n dX9_isDone_244 rfl ?_
        refine ziadd dX9_isDone_245 ?_
        refine zsipush (v := 999) dX9_isDone_246 (by decide) ?_
        refine zicmp_le (tgt := 254) dX9_isDone_249 (by decide) (fun h => absurd h h2) (fun _ => ?_)
        refine ziconst (v := 0) dX9_isDone_252 (by decide) ?_
        exact zbret (q := false) dX9_isDone_253 rfl rfl ⟨_, rfl, sdQ_n rfl⟩
    · rw [if_neg (fun z => h1 ⟨z.1, z.2.1⟩)]
      refine zaload_n dX9_isDone_0 rfl ?_
      refine gf_X9_34 rfl dX9_isDone_1 ?_
      refine ziconst (v := nI 0) dX9_isDone_4 (by decide) ?_
      refine ziald dX9_isDone_5 (by decide) rfl (by decide) (by omega) ?_
      rw [n1]
      refine zistore_n dX9_isDone_6 (by decide) rfl ?_
      refine zaload_n dX9_isDone_7 rfl ?_
      refine gf_X9_34 rfl dX9_isDone_8 ?_
      refine ziconst (v := nI 1) dX9_isDone_11 (by decide) ?_
      refine ziald dX9_isDone_12 (by decide) rfl (by decide) (by omega) ?_
      refine zistore_n dX9_isDone_13 (by decide) rfl ?_
      refine ziconst (v := 0) dX9_isDone_14 (by decide) ?_
      refine zistore dX9_isDone_15 (by decide) rfl ?_
      refine ziload_n dX9_isDone_17 rfl ?_
      rw [hc]
      refine ztableIn (off := 210) (tgt := 228) dX9_isDone_18 (by decide +kernel) (by decide +kernel) (by decide +kernel) (by decide) ?_
      refine ziload_n dX9_isDone_228 rfl ?_
      refine ziconst (v := 1) dX9_isDone_229 (by decide) ?_
      refine zbipush (v := 60) dX9_isDone_230 (by decide) ?_
      refine zcSf  gk_X9_44 dX9_isDone_232 (show zF x false mX9_isIn _ S (some (.int (bI (decide (1 ≤ v ∧ v ≤ 60))))) S from by have h := c_X9_isIn (x := x) (S := S) (u := nI v) (v := 1) (q := 60); rw [in60 (by omega)] at h; exact h) rfl (by decide) (Nat.le_of_ble_eq_true rfl) ?_ rfl
      refine zifb_eq (tgt := 252) dX9_isDone_235 (by decide) (fun _ => ?_) (fun h => absurd (h.symm.trans (decide_eq_false h1)) (by decide))
      refine ziconst (v := 0) dX9_isDone_252 (by decide) ?_
      exact zbret (q := false) dX9_isDone_253 rfl rfl ⟨_, rfl, sdQ_n rfl⟩
  · obtain ⟨n1, n2⟩ := hn.2.2.2.1 hc
    obtain ⟨-, ⟨g2, g3⟩, -, -⟩ := okS_f hok hc
    rw [stS_f hc]
    obtain ⟨a, ha⟩ : ∃ a, L (p + 1) - 48 = a := ⟨_, rfl⟩
    have ha9 : a < 100 := by omega
    rw [ha] at n1 ⊢
    unfold stF
    by_cases h1 : a < t.1
    · rw [if_pos h1]
      refine zaload_n dX9_isDone_0 rfl ?_
      refine gf_X9_34 rfl dX9_isDone_1 ?_
      refine ziconst (v := nI 0) dX9_isDone_4 (by decide) ?_
      refine ziald dX9_isDone_5 (by decide) rfl (by decide) (by omega) ?_
      rw [n1]
      refine zistore_n dX9_isDone_6 (by decide) rfl ?_
      refine zaload_n dX9_isDone_7 rfl ?_
      refine gf_X9_34 rfl dX9_isDone_8 ?_
      refine ziconst (v := nI 1) dX9_isDone_11 (by decide) ?_
      refine ziald dX9_isDone_12 (by decide) rfl (by decide) (by omega) ?_
      rw [n2]
      refine zistore_n dX9_isDone_13 (by decide) rfl ?_
      refine ziconst (v := 0) dX9_isDone_14 (by decide) ?_
      refine zistore dX9_isDone_15 (by decide) rfl ?_
      refine ziload_n dX9_isDone_17 rfl ?_
      rw [hc]
      refine ztableIn (off := 187) (tgt := 205) dX9_isDone_18 (by decide +kernel) (by decide +kernel) (by decide +kernel) (by decide) ?_
      refine zaload_n dX9_isDone_205 rfl ?_
      refine ziload_n dX9_isDone_206 rfl ?_
      refine zcVf ob_Mo gk_X9_48 dX9_isDone_207 (show zF x false mX9_isOne _ S (some (.int (bI (decide (a < t.1))))) S from by have h := c_X9_isOne (x := x) (p := nI a) hM; rw [isP_dec (by omega) hn8] at h; exact h) rfl (by decide) (Nat.le_of_ble_eq_true rfl) ?_ rfl
      refine zifb_ne (tgt := 215) dX9_isDone_210 (by decide) (fun _ => ?_) (fun h => absurd (h.symm.trans (decide_eq_true h1)) (by decide))
      refine zaload_n dX9_isDone_215 rfl ?_
      refine gf_X9_9 rfl dX9_isDone_216 ?_
      refine ziload_n dX9_isDone_219 rfl ?_
      refine ziconst (v := nI 4) dX9_isDone_220 (by decide) ?_
      refine zcSf gk_X9_52 dX9_isDone_221 (c_X9_of (j := 4)) rfl (by decide) (Nat.le_of_ble_eq_true rfl) ?_ rfl
      refine ziload_n dX9_isDone_224 rfl ?_
      refine ziast dX9_isDone_225 (mrk hr1.2) (mrl hr1.1 hr1.2) (by decide) (by omega) ?_
      refine ziconst (v := 1) dX9_isDone_226 (by decide) ?_
      exact zbret (q := true) dX9_isDone_227 rfl rfl ⟨_, rfl, sdQ_s _ rfl ⟨isM_put hM rfl (by decide), by dsimp only; rw [put_mo]; exact ht.2⟩ frM.rf.put⟩
    · rw [if_neg h1]
      refine zaload_n dX9_isDone_0 rfl ?_
      refine gf_X9_34 rfl dX9_isDone_1 ?_
      refine ziconst (v := nI 0) dX9_isDone_4 (by decide) ?_
      refine ziald dX9_isDone_5 (by decide) rfl (by decide) (by omega) ?_
      rw [n1]
      refine zistore_n dX9_isDone_6 (by decide) rfl ?_
      refine zaload_n dX9_isDone_7 rfl ?_
      refine gf_X9_34 rfl dX9_isDone_8 ?_
      refine ziconst (v := nI 1) dX9_isDone_11 (by decide) ?_
      refine ziald dX9_isDone_12 (by decide) rfl (by decide) (by omega) ?_
      rw [n2]
      refine zistore_n dX9_isDone_13 (by decide) rfl ?_
      refine ziconst (v := 0) dX9_isDone_14 (by decide) ?_
      refine zistore dX9_isDone_15 (by decide) rfl ?_
      refine ziload_n dX9_isDone_17 rfl ?_
      rw [hc]
      refine ztableIn (off := 187) (tgt := 205) dX9_isDone_18 (by decide +kernel) (by decide +kernel) (by decide +kernel) (by decide) ?_
      refine zaload_n dX9_isDone_205 rfl ?_
      refine ziload_n dX9_isDone_206 rfl ?_
      refine zcVf ob_Mo gk_X9_48 dX9_isDone_207 (show zF x false mX9_isOne _ S (some (.int (bI (decide (a < t.1))))) S from by have h := c_X9_isOne (x := x) (p := nI a) hM; rw [isP_dec (by omega) hn8] at h; exact h) rfl (by decide) (Nat.le_of_ble_eq_true rfl) ?_ rfl
      refine zifb_ne (tgt := 215) dX9_isDone_210 (by decide) (fun h => absurd (h.symm.trans (decide_eq_false h1)) (by decide)) (fun _ => ?_)
      refine ziconst (v := 0) dX9_isDone_213 (by decide) ?_
      exact zbret (q := false) dX9_isDone_214 rfl rfl ⟨_, rfl, sdQ_n rfl⟩
end TELL5
