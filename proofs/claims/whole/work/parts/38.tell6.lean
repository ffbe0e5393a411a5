/-! town, in the reference -/
section TELL6
variable {x : zCx} {S : zSt} {σ σ' : Sig} {L : Nat → Nat} {N : Nat} {t : Tau}
theorem RepM.pl {S' : zSt} (h : RepM σ S) (hf : frP S S') : RepM σ S' := by
  obtain ⟨h1, h2, h3, h4, h5, h6⟩ := h
  have g : ∀ k', ¬ k' = 9 → S'.1 k' = S.1 k' := hf.1
  refine ⟨⟨by rw [g _ (by decide)]; exact h1.1, h1.2.1, fun w p a b c => by rw [g _ (by decide)]; exact h1.2.2 w p a b c⟩, by rw [g _ (by decide)]; exact h2, ?_, by rw [hf.2 _ _ (by decide), g _ (by decide)]; exact h4, by rw [hf.2 _ _ (by decide), g _ (by decide)]; exact h5, by rw [g _ (by decide)]; exact h6⟩
  unfold keptM at h3 ⊢
  cases hk : sK σ with
  | none => rw [hk] at h3; rw [hf.2 _ _ (by decide)]; exact h3
  | some q => rw [hk] at h3; rw [hf.2 _ _ (by decide)]; exact ⟨h3.1, ⟨by rw [g _ (by decide)]; exact h3.2.1.1, h3.2.1.2.1, fun w p a b c => by rw [g _ (by decide)]; exact h3.2.1.2.2 w p a b c⟩, by rw [g _ (by decide)]; exact h3.2.2⟩
def frW (S S' : zSt) : Prop := (∀ k, ¬ k = 1 → ¬ k = 9 → S'.1 k = S.1 k) ∧ ∀ k j, ¬ (k = 0 ∧ j = 11) → S'.2 k j = S.2 k j
theorem frW.p {S1 S2 S3 : zSt} (h : frW S1 S2) (h' : frP S2 S3) : frW S1 S3 := ⟨fun k h1 h9 => (h'.1 k h9).trans (h.1 k h1 h9), fun k j hj => (h'.2 k j hj).trans (h.2 k j hj)⟩
theorem frW.m {S1 S2 S3 : zSt} (h : frW S1 S2) (h' : frM 1 S2 S3) : frW S1 S3 := ⟨fun k h1 h9 => (h'.1 k h1).trans (h.1 k h1 h9), fun k j hj => (congrFun (congrFun h'.2 k) j).trans (h.2 k j hj)⟩
theorem frW.rf : frW S S := ⟨fun _ _ _ => rfl, fun _ _ _ => rfl⟩
theorem LMo.w {S' : zSt} (h : LMo S L N) (hf : frW S S') : LMo S' L N := ⟨(hf.2 0 9 (by decide)).trans h.1, h.2.1, fun i hi => by rw [hf.1 6 (by decide) (by decide)]; exact h.2.2 i hi⟩
theorem RepM.w {S' : zSt} (h : RepM σ S) (hf : frW S S') (ht : tauM S' t) : RepM (t.1, t.2.1, t.2.2, σ.2.2.2) S' := by
  obtain ⟨h1, h2, h3, h4, h5, h6⟩ := h
  have g : ∀ k', ¬ k' = 1 → ¬ k' = 9 → S'.1 k' = S.1 k' := hf.1
  refine ⟨ht.1, ht.2, ?_, by rw [hf.2 _ _ (by decide), g _ (by decide) (by decide)]; exact h4, by rw [hf.2 _ _ (by decide), g _ (by decide) (by decide)]; exact h5, by rw [g _ (by decide) (by decide)]; exact h6⟩
  show keptM (sK σ) S'
  unfold keptM at h3 ⊢
  cases hk : sK σ with
  | none => rw [hk] at h3; rw [hf.2 _ _ (by decide)]; exact h3
  | some q => rw [hk] at h3; rw [hf.2 _ _ (by decide)]; exact ⟨h3.1, ⟨by rw [g _ (by decide) (by decide)]; exact h3.2.1.1, h3.2.1.2.1, fun w p a b c => by rw [g _ (by decide) (by decide)]; exact h3.2.1.2.2 w p a b c⟩, by rw [g _ (by decide) (by decide)]; exact h3.2.2⟩
theorem RepM.clr {n : Nat} {T : Tw} {mo : Int32} {k : Option (Nat × Tw × Int32)} {l : Nat × (Nat → Int32)} {r : (Nat × (Nat → Int32)) × (Nat → Int32)} (h : RepM (n, T, mo, k, l, r) S) : RepM (n, T, mo, k, (0, l.2), r) (S.1, u2 S.2 0 9 0) := by
  obtain ⟨h1, h2, h3, h4, h5, h6⟩ := h
  have g : ∀ p j, ¬ j = 9 → u2 S.2 0 9 0 p j = S.2 p j := fun p j hp => u2_ne (fun z => hp z.2)
  refine ⟨h1, h2, ?_, ⟨by show u2 S.2 0 9 0 0 9 = nI 0; exact u2_self, fun i hi => absurd hi (Nat.not_lt_zero i)⟩, ⟨(g _ _ (by decide)).trans h5.1, h5.2⟩, h6⟩
  have h3 : keptM k S := h3
  show keptM k _
  unfold keptM at h3 ⊢
  cases k with
  | none => exact (g _ _ (by decide)).trans h3
  | some q => exact ⟨(g _ _ (by decide)).trans h3.1, h3.2⟩
theorem RepM.lm (hR : RepM σ S) (hW : WS σ) : LMo S (Lc σ) (sL σ).1 := ⟨hR.2.2.2.1.1, hW.2.2.1.1, fun i hi => ⟨(hR.2.2.2.1.2 i hi).trans (Lc_ok hW hi).1, (Lc_ok hW hi).2⟩⟩
theorem mt_ok {i : Nat} : ∀ (k s p : Nat), p + k ≤ N → (∀ j, j < k → fitB (L (p + j)) (due i (s + j)) = true) → mt L N i k s p = (true, p + k) := by
  intro k
  induction k with
  | zero => intro s p _ _; rfl
  | succ k ih =>
    intro s p h1 h2
    rw [mt, if_pos ⟨by omega, h2 0 (by omega)⟩, ih (s + 1) (p + 1) (by omega) (fun j hj => by rw [show p + 1 + j = p + (j + 1) by omega, show s + 1 + j = s + (j + 1) by omega]; exact h2 (j + 1) (by omega)), show p + 1 + k = p + (k + 1) by omega]
theorem okS_rs {p : Nat} (h : okS L N p) : rsF L N p = (true, p + 1 + sln (shp (L p))) := by
  obtain ⟨h1, h2, h3⟩ := h
  unfold rsF
  rw [if_pos ⟨by omega, h1⟩]
  exact mt_ok _ 0 (p + 1) (by omega) (fun j hj => by rw [Nat.zero_add]; exact h3 j hj)
set_option maxRecDepth 100000 in
theorem ne9 : ∀ q, q < 97 → ¬ -1000 - nI q = -9 ∧ ¬ -2000 - nI q = -9 := by decide +kernel
theorem rs_le {p : Nat} (hp : p ≤ N) : (rsF L N p).2 ≤ N := by
  have key : ∀ (i k s p : Nat), p ≤ N → (mt L N i k s p).2 ≤ N := by
    intro i k
    induction k with
    | zero => intro s p h; exact h
    | succ k ih =>
      intro s p h
      rw [mt]
      split
      · exact ih _ _ (by omega)
      · exact h
  unfold rsF
  split
  · exact key _ _ _ _ (by omega)
  · exact hp

set_option maxRecDepth 100000 in
set_option maxHeartbeats 4000000 in
theorem l_X9_town1 {S0 : zSt} (hl0 : LMo S0 L N) {o : Option Nat} {C : Nat} {post : Option Value → zSt → Prop} (hsome : ∀ q, o = some q → q ≤ N → ∀ (S : zSt) (n : Nat), frP S0 S → zZ x false mX9_town post 46 [(0, .ref (zad x 0)), (1, .int (nI n)), (2, .int (-1000 - nI q))] [] S) (hnone : o = none → ∀ (S : zSt), frP S0 S → zZ x false mX9_town post 46 [(0, .ref (zad x 0)), (1, .int (nI C)), (2, .int (-9))] [] S) : ∀ (m p n : Nat) (S : zSt), (p < N ∨ N = 0 ∧ p = 0) → N - p ≤ m → S.2 0 11 = nI p → frP S0 S → brkF L N (N - p) p 0 0 = o → (o = none → n + cntT L N m p = C) → zZ x false mX9_town post 10 [(0, .ref (zad x 0)), (1, .int (nI n)), (2, .int (-9))] [] S := by
  have hN := hl0.2.1
  intro m
  induction m with
  | zero =>
    intro p n S hpN hm hp hf ho hC
    have hl := hl0.fr hf
    have h0 : N = 0 ∧ p = 0 := by omega
    have hr : rsF L N p = (false, p) := by unfold rsF; rw [if_neg (fun z => by omega)]
    have ho2 : o = some p := by rw [← ho, h0.1, h0.2]; rfl
    have hr1 : (rsF L N p).1 = false := by rw [hr]
    refine zaload_n dX9_town_10 rfl ?_
    refine zcVr ob_Mo gk_X9_130 dX9_town_11 (show zR x false mX9_readsStatement _ _ _ from c_X9_readsStatement hl hp (by omega)) rfl (by decide) (Nat.le_of_ble_eq_true rfl) (fun r2 S2 hp2 => ?_) rfl
    obtain ⟨rfl, hq2, hf2, hn2⟩ := hp2
    refine zifb_ne (tgt := 26) dX9_town_14 (by decide) (fun h => absurd (h.symm.trans hr1) (by decide)) (fun _ => ?_)
    refine zsipush (v := -1000) dX9_town_17 (by decide) ?_
    refine zaload_n dX9_town_20 rfl ?_
    refine gf_X9_95 rfl dX9_town_21 ?_
    rw [hq2]
    refine zisub dX9_town_24 ?_
    refine zistore_n dX9_town_25 (by decide) rfl ?_
    refine ziinc dX9_town_26 rfl rfl (by decide) rfl ?_
    refine ziload_n dX9_town_29 rfl ?_
    refine zbipush (v := -9) dX9_town_30 (by decide) ?_
    refine zicmp_ne (tgt := 46) dX9_town_32 (by decide) (fun _ => ?_) (fun h => absurd h (ne9 _ (by have := rs_le (L := L) (N := N) (p := p) (by omega); omega)).1)
    refine zlvs (lv' := [(0, .ref (zad x 0)), (1, .int (nI (n + 1))), (2, .int (-1000 - nI (rsF L N p).2))]) ⟨rfl, by rw [nI_succ n]; rfl, rfl, trivial⟩ ?_
    rw [hr]
    exact hsome p ho2 (by omega) S2 (n + 1) (hf.trans hf2)
  | succ m ih =>
    intro p n S hpN hm hp hf ho hC
    have hl := hl0.fr hf
    by_cases hp0 : p < N
    · rw [brk_rs hp0] at ho
      have hle := rs_le (L := L) (N := N) (p := p) (by omega)
      cases hr1 : (rsF L N p).1 with
      | false =>
        rw [if_neg (by rw [hr1]; decide)] at ho
        refine zaload_n dX9_town_10 rfl ?_
        refine zcVr ob_Mo gk_X9_130 dX9_town_11 (show zR x false mX9_readsStatement _ _ _ from c_X9_readsStatement hl hp (by omega)) rfl (by decide) (Nat.le_of_ble_eq_true rfl) (fun r2 S2 hp2 => ?_) rfl
        obtain ⟨rfl, hq2, hf2, hn2⟩ := hp2
        refine zifb_ne (tgt := 26) dX9_town_14 (by decide) (fun h => absurd (h.symm.trans hr1) (by decide)) (fun _ => ?_)
        refine zsipush (v := -1000) dX9_town_17 (by decide) ?_
        refine zaload_n dX9_town_20 rfl ?_
        refine gf_X9_95 rfl dX9_town_21 ?_
        rw [hq2]
        refine zisub dX9_town_24 ?_
        refine zistore_n dX9_town_25 (by decide) rfl ?_
        refine ziinc dX9_town_26 rfl rfl (by decide) rfl ?_
        refine ziload_n dX9_town_29 rfl ?_
        refine zbipush (v := -9) dX9_town_30 (by decide) ?_
        refine zicmp_ne (tgt := 46) dX9_town_32 (by decide) (fun _ => ?_) (fun h => absurd h (ne9 _ (by omega)).1)
        refine zlvs (lv' := [(0, .ref (zad x 0)), (1, .int (nI (n + 1))), (2, .int (-1000 - nI (rsF L N p).2))]) ⟨rfl, by rw [nI_succ n]; rfl, rfl, trivial⟩ ?_
        exact hsome _ ho.symm hle S2 (n + 1) (hf.trans hf2)
      | true =>
        rw [if_pos hr1] at ho
        obtain ⟨e1, e2⟩ := rsF_t hr1
        by_cases hq : (rsF L N p).2 < N
        · refine zaload_n dX9_town_10 rfl ?_
          refine zcVr ob_Mo gk_X9_130 dX9_town_11 (show zR x false mX9_readsStatement _ _ _ from c_X9_readsStatement hl hp (by omega)) rfl (by decide) (Nat.le_of_ble_eq_true rfl) (fun r2 S2 hp2 => ?_) rfl
          obtain ⟨rfl, hq2, hf2, hn2⟩ := hp2
          refine zifb_ne (tgt := 26) dX9_town_14 (by decide) (fun _ => ?_) (fun h => absurd (h.symm.trans hr1) (by decide))
          refine ziinc dX9_town_26 rfl rfl (by decide) rfl ?_
          refine ziload_n dX9_town_29 rfl ?_
          refine zbipush (v := -9) dX9_town_30 (by decide) ?_
          refine zicmp_ne (tgt := 46) dX9_town_32 (by decide) (fun h => absurd rfl h) (fun _ => ?_)
          refine zaload_n dX9_town_35 rfl ?_
          refine gf_X9_95 rfl dX9_town_36 ?_
          rw [hq2]
          refine zaload_n dX9_town_39 rfl ?_
          refine gf_X9_91 rfl dX9_town_40 ?_
          rw [(hl.fr hf2).1]
          refine zicmp_lt (tgt := 10) dX9_town_43 (by decide) (fun _ => ?_) (fun h => absurd (nI_lt hq (by omega)) h)
          refine zlvs (lv' := [(0, .ref (zad x 0)), (1, .int (nI (n + 1))), (2, .int (-9))]) ⟨rfl, by rw [nI_succ n]; rfl, rfl, trivial⟩ ?_
          exact ih _ (n + 1) S2 (Or.inl hq) (by omega) hq2 (hf.trans hf2) ho (fun z => by have := hC z; rw [cntT, if_pos hp0] at this; rw [e1]; omega)
        · have ho2 : o = none := by
            rw [← ho, show N - (rsF L N p).2 = 0 by omega, brkF, if_neg (fun z => by rcases z with z | z; omega; exact absurd z (by decide))]
          have hCn : n + 1 = C := by
            have := hC ho2
            rw [cntT, if_pos hp0] at this
            have h0 : cntT L N m (p + 1 + sln (shp (L p))) = 0 := by
              cases m with
              | zero => rfl
              | succ m => rw [cntT, if_neg (by omega)]
            omega
          refine zaload_n dX9_town_10 rfl ?_
          refine zcVr ob_Mo gk_X9_130 dX9_town_11 (show zR x false mX9_readsStatement _ _ _ from c_X9_readsStatement hl hp (by omega)) rfl (by decide) (Nat.le_of_ble_eq_true rfl) (fun r2 S2 hp2 => ?_) rfl
          obtain ⟨rfl, hq2, hf2, hn2⟩ := hp2
          refine zifb_ne (tgt := 26) dX9_town_14 (by decide) (fun _ => ?_) (fun h => absurd (h.symm.trans hr1) (by decide))
          refine ziinc dX9_town_26 rfl rfl (by decide) rfl ?_
          refine ziload_n dX9_town_29 rfl ?_
          refine zbipush (v := -9) dX9_town_30 (by decide) ?_
          refine zicmp_ne (tgt := 46) dX9_town_32 (by decide) (fun h => absurd rfl h) (fun _ => ?_)
          refine zaload_n dX9_town_35 rfl ?_
          refine gf_X9_95 rfl dX9_town_36 ?_
          rw [hq2]
          refine zaload_n dX9_town_39 rfl ?_
          refine gf_X9_91 rfl dX9_town_40 ?_
          rw [(hl.fr hf2).1]
          refine zicmp_lt (tgt := 10) dX9_town_43 (by decide) (fun h => absurd h (nI_nlt (by omega) (by omega))) (fun _ => ?_)
          refine zlvs (lv' := [(0, .ref (zad x 0)), (1, .int (nI (n + 1))), (2, .int (-9))]) ⟨rfl, by rw [nI_succ n]; rfl, rfl, trivial⟩ ?_
          rw [hCn]
          exact hnone ho2 S2 (hf.trans hf2)
    · have h0 : N = 0 ∧ p = 0 := by omega
      have hr : rsF L N p = (false, p) := by unfold rsF; rw [if_neg (fun z => by omega)]
      have ho2 : o = some p := by rw [← ho, h0.1, h0.2]; rfl
      have hr1 : (rsF L N p).1 = false := by rw [hr]
      refine zaload_n dX9_town_10 rfl ?_
      refine zcVr ob_Mo gk_X9_130 dX9_town_11 (show zR x false mX9_readsStatement _ _ _ from c_X9_readsStatement hl hp (by omega)) rfl (by decide) (Nat.le_of_ble_eq_true rfl) (fun r2 S2 hp2 => ?_) rfl
      obtain ⟨rfl, hq2, hf2, hn2⟩ := hp2
      refine zifb_ne (tgt := 26) dX9_town_14 (by decide) (fun h => absurd (h.symm.trans hr1) (by decide)) (fun _ => ?_)
      refine zsipush (v := -1000) dX9_town_17 (by decide) ?_
      refine zaload_n dX9_town_20 rfl ?_
      refine gf_X9_95 rfl dX9_town_21 ?_
      rw [hq2]
      refine zisub dX9_town_24 ?_
      refine zistore_n dX9_town_25 (by decide) rfl ?_
      refine ziinc dX9_town_26 rfl rfl (by decide) rfl ?_
      refine ziload_n dX9_town_29 rfl ?_
      refine zbipush (v := -9) dX9_town_30 (by decide) ?_
      refine zicmp_ne (tgt := 46) dX9_town_32 (by decide) (fun _ => ?_) (fun h => absurd h (ne9 _ (by have := rs_le (L := L) (N := N) (p := p) (by omega); omega)).1)
      refine zlvs (lv' := [(0, .ref (zad x 0)), (1, .int (nI (n + 1))), (2, .int (-1000 - nI (rsF L N p).2))]) ⟨rfl, by rw [nI_succ n]; rfl, rfl, trivial⟩ ?_
      rw [hr]
      exact hsome p ho2 (by omega) S2 (n + 1) (hf.trans hf2)
theorem done_n {p : Nat} (hok : okS L N p) (hn : numsOk L p (S.1 9)) (ht : tauM S t) (hW : WFT t.1 t.2.1) (h : stS L p t = none) : zR x false mX9_isDone [.ref (zad x 0), .int (nI (L p))] S (fun r U => r = bI false ∧ U = S) :=
  zC_mono (c_X9_isDone hok hn ht hW) (fun r U hq => by
    obtain ⟨v, e1, hq⟩ := hq
    rcases hq with ⟨ho, e2, hf⟩ | ⟨u, ho, e2, hu, hf⟩
    · exact ⟨v, e1, e2, hf⟩
    · rw [h] at ho; cases ho)
theorem done_s {p : Nat} {u : Tau} (hok : okS L N p) (hn : numsOk L p (S.1 9)) (ht : tauM S t) (hW : WFT t.1 t.2.1) (h : stS L p t = some u) : zR x false mX9_isDone [.ref (zad x 0), .int (nI (L p))] S (fun r U => r = bI true ∧ tauM U u ∧ frM 1 S U) :=
  zC_mono (c_X9_isDone hok hn ht hW) (fun r U hq => by
    obtain ⟨v, e1, hq⟩ := hq
    rcases hq with ⟨ho, e2, hf⟩ | ⟨u', ho, e2, hu, hf⟩
    · rw [h] at ho; cases ho
    · rw [h] at ho; cases ho; exact ⟨v, e1, e2, hu, hf⟩)
theorem tauM.p {S' : zSt} (h : tauM S t) (hf : frP S S') : tauM S' t := ⟨⟨by rw [hf.1 1 (by decide)]; exact h.1.1, h.1.2.1, fun w p a b c => by rw [hf.1 1 (by decide)]; exact h.1.2.2 w p a b c⟩, by rw [hf.1 1 (by decide)]; exact h.2⟩
theorem isM_frW {S' : zSt} {n : Nat} {T : Tw} (h : isM S 4 n T) (hf : frW S S') : isM S' 4 n T := ⟨by rw [hf.1 4 (by decide) (by decide)]; exact h.1, h.2.1, fun w p a b c => by rw [hf.1 4 (by decide) (by decide)]; exact h.2.2 w p a b c⟩
set_option maxRecDepth 100000 in
set_option maxHeartbeats 4000000 in
theorem l_X9_town2 {S0 : zSt} (hl0 : LMo S0 L N) {t0 : Tau} (hw0 : isM S0 4 t0.1 t0.2.1) (hw1 : S0.1 4 1 = t0.2.2) {C : Nat} {r : Int32} {o : Option Tau} {post : Option Value → zSt → Prop} (hend : ∀ (S : zSt) (u : Tau), o = some u → tauM S u → frW S0 S → zZ x false mX9_town post 128 [(0, .ref (zad x 0)), (1, .int (nI C)), (2, .int (-9))] [] S) (hbad : ∀ (S : zSt) (q : Nat), q < N → o = none → r = -2000 - nI q → tauM S t0 → frW S0 S → zZ x false mX9_town post 128 [(0, .ref (zad x 0)), (1, .int (nI C)), (2, .int (-2000 - nI q))] [] S) : ∀ (f p c : Nat) (S : zSt) (t : Tau), vld L N f p → p ≤ N → S.2 0 11 = nI p → tauM S t → WFT t.1 t.2.1 → frW S0 S → runF L N f p c t = (r, o) → zZ x false mX9_town post 62 [(0, .ref (zad x 0)), (1, .int (nI C)), (2, .int (-9))] [] S := by
  have hN := hl0.2.1
  intro f
  induction f with
  | zero =>
    intro p c S t hv hpN hp ht hW hf hr
    have hv : p = N := hv
    have hl := hl0.w hf
    have ho : o = some t := (congrArg Prod.snd hr).symm
    refine ziload_n dX9_town_62 rfl ?_
    refine zbipush (v := -9) dX9_town_63 (by decide) ?_
    refine zicmp_ne (tgt := 128) dX9_town_65 (by decide) (fun h => absurd rfl h) (fun _ => ?_)
    refine zaload_n dX9_town_68 rfl ?_
    refine gf_X9_95 rfl dX9_town_69 ?_
    rw [hp]
    refine zaload_n dX9_town_72 rfl ?_
    refine gf_X9_91 rfl dX9_town_73 ?_
    rw [hl.1]
    refine zicmp_ge (tgt := 128) dX9_town_76 (by decide) (fun _ => ?_) (fun h => absurd (nI_le (by omega) (by omega)) h)
    refine zlvs (lv' := [(0, .ref (zad x 0)), (1, .int (nI C)), (2, .int (-9))]) ⟨rfl, rfl, rfl, trivial⟩ ?_
    exact hend S t ho ht hf
  | succ f ih =>
    intro p c S t hv hpN0 hp ht hW hf hr
    have hl := hl0.w hf
    rw [runF] at hr
    by_cases hpN : p < N
    · rw [if_pos hpN] at hr
      have he : hereI L N p = nI (L p) := if_pos hpN
      have hv : okS L N p ∧ vld L N f (p + 1 + sln (shp (L p))) := by rcases hv with hv | hv; omega; exact hv
      have hrs := okS_rs hv.1
      cases hs : stS L p t with
      | none =>
        rw [hs] at hr
        dsimp only at hr
        obtain ⟨e1, e2⟩ := Prod.mk.inj hr
        refine ziload_n dX9_town_62 rfl ?_
        refine zbipush (v := -9) dX9_town_63 (by decide) ?_
        refine zicmp_ne (tgt := 128) dX9_town_65 (by decide) (fun h => absurd rfl h) (fun _ => ?_)
        refine zaload_n dX9_town_68 rfl ?_
        refine gf_X9_95 rfl dX9_town_69 ?_
        rw [hp]
        refine zaload_n dX9_town_72 rfl ?_
        refine gf_X9_91 rfl dX9_town_73 ?_
        rw [hl.1]
        refine zicmp_ge (tgt := 128) dX9_town_76 (by decide) (fun h => absurd h (nI_ge hpN (by omega))) (fun _ => ?_)
        refine zaload_n dX9_town_79 rfl ?_
        refine gf_X9_95 rfl dX9_town_80 ?_
        rw [hp]
        refine zistore_n dX9_town_83 (by decide) rfl ?_
        refine zaload_n dX9_town_84 rfl ?_
        refine zcVf ob_Mo gk_X9_98 dX9_town_85 (c_X9_here hl hp (by omega)) rfl (by decide) (Nat.le_of_ble_eq_true rfl) ?_ rfl
        rw [he]
        refine zistore dX9_town_88 (by decide) rfl ?_
        refine zaload_n dX9_town_90 rfl ?_
        refine zcVr ob_Mo gk_X9_130 dX9_town_91 (show zR x false mX9_readsStatement _ _ _ from c_X9_readsStatement hl hp (by omega)) rfl (by decide) (Nat.le_of_ble_eq_true rfl) (fun r2 S2 hp2 => ?_) rfl
        obtain ⟨rfl, hq2, hf2, hn2⟩ := hp2
        rw [hrs] at hq2
        have hn2 := hn2 (by rw [hrs])
        have ht2 := ht.p hf2
        refine zistore dX9_town_94 (by decide) rfl ?_
        refine zaload_n dX9_town_96 rfl ?_
        refine ziload dX9_town_97 rfl ?_
        refine zcVr ob_Mo gk_X9_137 dX9_town_99 (done_n hv.1 hn2 ht2 hW hs) rfl (by decide) (Nat.le_of_ble_eq_true rfl) (fun r3 S3 hp3 => ?_) rfl
        obtain ⟨rfl, rfl⟩ := hp3
        have hw5 := isM_frW hw0 (hf.p hf2)
        refine zifb_eq (tgt := 108) dX9_town_102 (by decide) (fun _ => ?_) (fun h => absurd (h.symm.trans rfl) (by decide))
        refine zsipush (v := -2000) dX9_town_108 (by decide) ?_
        refine ziload_n dX9_town_111 rfl ?_
        refine zisub dX9_town_112 ?_
        refine zistore_n dX9_town_113 (by decide) rfl ?_
        refine zaload_n dX9_town_114 rfl ?_
        refine gf_X9_19 rfl dX9_town_115 ?_
        refine zaload_n dX9_town_118 rfl ?_
        refine gf_X9_9 rfl dX9_town_119 ?_
        refine zcSn  gk_X9_133 dX9_town_122 (c_X9_copies hr4 hr1 (by decide) hw5) rfl (by decide) (Nat.le_of_ble_eq_true rfl) (fun S4 hp4 => ?_) rfl
        obtain ⟨hM4, hm4, hf4⟩ := hp4
        refine zgoto (tgt := 62) dX9_town_125 (by decide) ?_
        refine ziload_n dX9_town_62 rfl ?_
        refine zbipush (v := -9) dX9_town_63 (by decide) ?_
        refine zicmp_ne (tgt := 128) dX9_town_65 (by decide) (fun _ => ?_) (fun h => absurd h (ne9 p (by omega)).2)
        refine zlvs (lv' := [(0, .ref (zad x 0)), (1, .int (nI C)), (2, .int (-2000 - nI p))]) ⟨rfl, rfl, rfl, trivial⟩ ?_
        exact hbad S4 p hpN e2.symm e1.symm ⟨hM4, hm4.trans ((congrFun ((hf.p hf2).1 4 (by decide) (by decide)) 1).trans hw1)⟩ ((hf.p hf2).m hf4)
      | some u =>
        rw [hs] at hr
        refine ziload_n dX9_town_62 rfl ?_
        refine zbipush (v := -9) dX9_town_63 (by decide) ?_
        refine zicmp_ne (tgt := 128) dX9_town_65 (by decide) (fun h => absurd rfl h) (fun _ => ?_)
        refine zaload_n dX9_town_68 rfl ?_
        refine gf_X9_95 rfl dX9_town_69 ?_
        rw [hp]
        refine zaload_n dX9_town_72 rfl ?_
        refine gf_X9_91 rfl dX9_town_73 ?_
        rw [hl.1]
        refine zicmp_ge (tgt := 128) dX9_town_76 (by decide) (fun h => absurd h (nI_ge hpN (by omega))) (fun _ => ?_)
        refine zaload_n dX9_town_79 rfl ?_
        refine gf_X9_95 rfl dX9_town_80 ?_
        rw [hp]
        refine zistore_n dX9_town_83 (by decide) rfl ?_
        refine zaload_n dX9_town_84 rfl ?_
        refine zcVf ob_Mo gk_X9_98 dX9_town_85 (c_X9_here hl hp (by omega)) rfl (by decide) (Nat.le_of_ble_eq_true rfl) ?_ rfl
        rw [he]
        refine zistore dX9_town_88 (by decide) rfl ?_
        refine zaload_n dX9_town_90 rfl ?_
        refine zcVr ob_Mo gk_X9_130 dX9_town_91 (show zR x false mX9_readsStatement _ _ _ from c_X9_readsStatement hl hp (by omega)) rfl (by decide) (Nat.le_of_ble_eq_true rfl) (fun r2 S2 hp2 => ?_) rfl
        obtain ⟨rfl, hq2, hf2, hn2⟩ := hp2
        rw [hrs] at hq2
        have hn2 := hn2 (by rw [hrs])
        have ht2 := ht.p hf2
        refine zistore dX9_town_94 (by decide) rfl ?_
        refine zaload_n dX9_town_96 rfl ?_
        refine ziload dX9_town_97 rfl ?_
        refine zcVr ob_Mo gk_X9_137 dX9_town_99 (done_s hv.1 hn2 ht2 hW hs) rfl (by decide) (Nat.le_of_ble_eq_true rfl) (fun r3 S3 hp3 => ?_) rfl
        obtain ⟨rfl, hu3, hf3⟩ := hp3
        refine zifb_eq (tgt := 108) dX9_town_102 (by decide) (fun h => absurd (h.symm.trans rfl) (by decide)) (fun _ => ?_)
        refine zgoto (tgt := 62) dX9_town_105 (by decide) ?_
        refine zlvs (lv' := [(0, .ref (zad x 0)), (1, .int (nI C)), (2, .int (-9))]) ⟨rfl, rfl, rfl, trivial⟩ ?_
        exact ih _ (c + 1) S3 u hv.2 (by have := hv.1.2.1; omega) (by rw [hf3.2]; exact hq2) hu3 (st_wft hv.1 hW hs) ((hf.p hf2).m hf3) hr
    · rw [if_neg hpN] at hr
      have ho : o = some t := (congrArg Prod.snd hr).symm
      refine ziload_n dX9_town_62 rfl ?_
      refine zbipush (v := -9) dX9_town_63 (by decide) ?_
      refine zicmp_ne (tgt := 128) dX9_town_65 (by decide) (fun h => absurd rfl h) (fun _ => ?_)
      refine zaload_n dX9_town_68 rfl ?_
      refine gf_X9_95 rfl dX9_town_69 ?_
      rw [hp]
      refine zaload_n dX9_town_72 rfl ?_
      refine gf_X9_91 rfl dX9_town_73 ?_
      rw [hl.1]
      refine zicmp_ge (tgt := 128) dX9_town_76 (by decide) (fun _ => ?_) (fun h => absurd (nI_le (by omega) (by omega)) h)
      refine zlvs (lv' := [(0, .ref (zad x 0)), (1, .int (nI C)), (2, .int (-9))]) ⟨rfl, rfl, rfl, trivial⟩ ?_
      exact hend S t ho ht hf
set_option maxRecDepth 100000 in
set_option maxHeartbeats 4000000 in
theorem c_X9_town (hR : RepM σ S) (hW : WS σ) : zR x false mX9_town [.ref (zad x 0)] S (qM 0 (townA (Lc σ) (sL σ).1 (tauS σ)) σ (townS σ)) := by
  have hM := hR.1
  have hl := hR.lm hW
  have hN := hl.2.1
  refine zC_of (by decide +kernel) (Nat.le_of_ble_eq_true rfl) ?_
  have hb0 : brkF (Lc σ) (sL σ).1 ((sL σ).1 - 0) 0 0 0 = brkF (Lc σ) (sL σ).1 (sL σ).1 0 0 0 := by rw [Nat.sub_zero]
  refine zaload_n dX9_town_0 rfl ?_
  refine ziconst (v := nI 0) dX9_town_1 (by decide) ?_
  refine pf_X9_95 rfl dX9_town_2 ?_
  refine ziconst (v := nI 0) dX9_town_5 (by decide) ?_
  refine zistore_n dX9_town_6 (by decide) rfl ?_
  refine zbipush (v := -9) dX9_town_7 (by decide) ?_
  refine zistore_n dX9_town_9 (by decide) rfl ?_
  refine zlvs (lv' := [(0, .ref (zad x 0)), (1, .int (nI 0)), (2, .int (-9))]) ⟨rfl, rfl, rfl, trivial⟩ ?_
  have hf0 : frP S (S.1, u2 S.2 0 11 (nI 0)) := frP.rf.plc
  refine l_X9_town1 (o := brkF (Lc σ) (sL σ).1 (sL σ).1 0 0 0) (C := cntT (Lc σ) (sL σ).1 (sL σ).1 0) hl (fun q hq hqN S6 n hf6 => ?_) (fun ho S6 hf6 => ?_) (sL σ).1 0 0 _ (by omega) (by omega) plcS hf0 hb0 (fun _ => by omega)
  · have hR6 := hR.pl hf6
    have hM6 := hR6.1
    have e1 : townA (Lc σ) (sL σ).1 (tauS σ) = -1000 - nI q := by unfold townA; rw [hq]
    have e2 : townT (Lc σ) (sL σ).1 (tauS σ) = tauS σ := by unfold townT; rw [hq]
    refine zaload_n dX9_town_46 rfl ?_
    refine gf_X9_9 rfl dX9_town_47 ?_
    refine zaload_n dX9_town_50 rfl ?_
    refine gf_X9_19 rfl dX9_town_51 ?_
    refine zcSn  gk_X9_133 dX9_town_54 (c_X9_copies hr1 hr4 (by decide) hM6) rfl (by decide) (Nat.le_of_ble_eq_true rfl) (fun S7 hp7 => ?_) rfl
    obtain ⟨hM7, hm7, hf7⟩ := hp7
    refine zaload_n dX9_town_57 rfl ?_
    refine ziconst (v := 0) dX9_town_58 (by decide) ?_
    refine pf_X9_95 rfl dX9_town_59 ?_
    refine ziload_n dX9_town_62 rfl ?_
    refine zbipush (v := -9) dX9_town_63 (by decide) ?_
    refine zicmp_ne (tgt := 128) dX9_town_65 (by decide) (fun _ => ?_) (fun h => absurd h (ne9 q (by omega)).1)
    refine zaload_n dX9_town_128 rfl ?_
    refine ziconst (v := 0) dX9_town_129 (by decide) ?_
    refine pf_X9_91 rfl dX9_town_130 ?_
    refine ziload_n dX9_town_133 rfl ?_
    refine zbipush (v := -9) dX9_town_134 (by decide) ?_
    refine zicmp_ne (tgt := 143) dX9_town_136 (by decide) (fun _ => ?_) (fun h => absurd h (ne9 q (by omega)).1)
    refine ziload_n dX9_town_143 rfl ?_
    exact zireturn dX9_town_144 rfl rfl ⟨_, rfl, qM_ok rfl e1.symm (by unfold townS; rw [e2]; exact ((hR6.mind hf7 (Or.inr (Or.inl rfl))).pl frP.rf.plc).clr)⟩
  · have hR6 := hR.pl hf6
    have hM6 := hR6.1
    have hv := vld_of (sL σ).1 0 (Nat.zero_le _) (Nat.sub_le _ 0) (hb0.trans ho)
    have e1 : townA (Lc σ) (sL σ).1 (tauS σ) = (runF (Lc σ) (sL σ).1 (sL σ).1 0 0 (tauS σ)).1 := by unfold townA; rw [ho]
    refine zaload_n dX9_town_46 rfl ?_
    refine gf_X9_9 rfl dX9_town_47 ?_
    refine zaload_n dX9_town_50 rfl ?_
    refine gf_X9_19 rfl dX9_town_51 ?_
    refine zcSn  gk_X9_133 dX9_town_54 (c_X9_copies hr1 hr4 (by decide) hM6) rfl (by decide) (Nat.le_of_ble_eq_true rfl) (fun S7 hp7 => ?_) rfl
    obtain ⟨hM7, hm7, hf7⟩ := hp7
    refine zaload_n dX9_town_57 rfl ?_
    refine ziconst (v := nI 0) dX9_town_58 (by decide) ?_
    refine pf_X9_95 rfl dX9_town_59 ?_
    have hR7 := hR6.mind hf7 (Or.inr (Or.inl rfl))
    have hR8 : RepM σ (S7.1, u2 S7.2 0 11 (nI 0)) := hR7.pl frP.rf.plc
    have hf8 : frP S7 (S7.1, u2 S7.2 0 11 (nI 0)) := frP.rf.plc
    refine zlvs (lv' := [(0, .ref (zad x 0)), (1, .int (nI (cntT (Lc σ) (sL σ).1 (sL σ).1 0))), (2, .int (-9))]) ⟨rfl, rfl, rfl, trivial⟩ ?_
    refine l_X9_town2 (t0 := tauS σ) (r := (runF (Lc σ) (sL σ).1 (sL σ).1 0 0 (tauS σ)).1) (o := (runF (Lc σ) (sL σ).1 (sL σ).1 0 0 (tauS σ)).2) (hR8.lm hW) hM7 (hm7.trans hR6.2.1) (fun S9 u hu hu9 hf9 => ?_) (fun S9 q hqN hn hr9 ht9 hf9 => ?_) (sL σ).1 0 0 _ (tauS σ) hv (Nat.zero_le _) plcS ⟨hR8.1, hR8.2.1⟩ hW.1 frW.rf rfl
    · have e2 : townT (Lc σ) (sL σ).1 (tauS σ) = u := by unfold townT; rw [ho]; dsimp only; rw [hu]
      have e3 := run_cnt (sL σ).1 0 0 (tauS σ) u hu
      rw [Nat.zero_add] at e3
      refine zaload_n dX9_town_128 rfl ?_
      refine ziconst (v := 0) dX9_town_129 (by decide) ?_
      refine pf_X9_91 rfl dX9_town_130 ?_
      refine ziload_n dX9_town_133 rfl ?_
      refine zbipush (v := -9) dX9_town_134 (by decide) ?_
      refine zicmp_ne (tgt := 143) dX9_town_136 (by decide) (fun h => absurd rfl h) (fun _ => ?_)
      refine ziload_n dX9_town_139 rfl ?_
      refine zgoto (tgt := 144) dX9_town_140 (by decide) ?_
      exact zireturn dX9_town_144 rfl rfl ⟨_, rfl, qM_ok rfl (by rw [e1, e3]) (by unfold townS; rw [e2]; exact (hR8.w hf9 hu9).clr)⟩
    · have e2 : townT (Lc σ) (sL σ).1 (tauS σ) = tauS σ := by unfold townT; rw [ho]; dsimp only; rw [hn]
      refine zaload_n dX9_town_128 rfl ?_
      refine ziconst (v := 0) dX9_town_129 (by decide) ?_
      refine pf_X9_91 rfl dX9_town_130 ?_
      refine ziload_n dX9_town_133 rfl ?_
      refine zbipush (v := -9) dX9_town_134 (by decide) ?_
      refine zicmp_ne (tgt := 143) dX9_town_136 (by decide) (fun _ => ?_) (fun h => absurd h (ne9 q (by omega)).2)
      refine ziload_n dX9_town_143 rfl ?_
      exact zireturn dX9_town_144 rfl rfl ⟨_, rfl, qM_ok rfl (by rw [e1, hr9]) (by unfold townS; rw [e2]; exact (hR8.w hf9 ht9).clr)⟩
end TELL6
