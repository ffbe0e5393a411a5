/-! a town stays as it must be, whatever is asked of it -/
section WSP
variable {σ : Sig} {e : Int32} {σ' : Sig}
theorem wsp_of (hW : WS σ) (h : e = 0 → WS σ') : WS (if e = 0 then σ' else rfS σ e) := by
  by_cases h0 : e = 0
  · rw [if_pos h0]; exact h h0
  · rw [if_neg h0]; exact hW.rf
theorem wsp_T {T : Tw} (hW : WS σ) (h : WFT (sN σ) T) : WS (setT σ T) := ⟨h, hW.2⟩
theorem ws_n (hW : WS σ) : sN σ < 2 ^ 31 := Nat.lt_of_le_of_lt hW.1.1 (by decide)
theorem ws_snoc {r : Nat × (Nat → Int32)} {v : Int32} {M c j : Nat} (h : r.1 ≤ M ∧ ∀ i, i < r.1 → ∃ k, k < c ∧ r.2 i = nI k) (hf : fullF r.1 M = 0) (hv : v = nI j) (hj : j < c) : (snoc r v).1 ≤ M ∧ ∀ i, i < (snoc r v).1 → ∃ k, k < c ∧ (snoc r v).2 i = nI k := by
  have hne : ¬ r.1 = M := by
    intro q
    unfold fullF at hf
    rw [if_pos q] at hf
    exact absurd hf (by decide)
  have h1 := h.1
  refine ⟨show r.1 + 1 ≤ M by omega, fun i hi => ?_⟩
  have hi' : i < r.1 + 1 := hi
  show ∃ k, k < c ∧ (if i = r.1 then v else r.2 i) = nI k
  by_cases q : i = r.1
  · rw [if_pos q]; exact ⟨j, hj, hv⟩
  · rw [if_neg q]; exact h.2 i (by omega)
theorem w_lends (hW : WS σ) (a b : Int32) : WS (if fO (twF (sN σ) a b) (clF (sT σ) a b) = 0 then setT σ (handT (sT σ) a.toNatClampNeg b.toNatClampNeg) else rfS σ (fO (twF (sN σ) a b) (clF (sT σ) a b))) := by
  refine wsp_of hW (fun h0 => wsp_T hW ?_)
  obtain ⟨h1, h2⟩ := fO_0 h0
  obtain ⟨i, j, hi, hj, hne, rfl, rfl⟩ := twF_of (ws_n hW) h1
  have hn8 := hW.1.1
  rw [clF_nI (by omega) (by omega)] at h2
  rw [nI_clamp (by omega), nI_clamp (by omega)]
  have h3 : (sT σ) 4 i = nI i ∧ (sT σ) 4 j = nI j := by
    by_cases q : (sT σ) 4 i = nI i ∧ (sT σ) 4 j = nI j
    · exact q
    · rw [if_neg q] at h2; exact absurd h2 (by decide)
  exact hW.1.hand hi hj hne h3.1 h3.2
theorem w_back (hW : WS σ) (a : Int32) : WS (if fO (pF (sN σ) a) (ltF (sT σ) a) = 0 then setT σ (backT (sN σ) (sT σ) a.toNatClampNeg) else rfS σ (fO (pF (sN σ) a) (ltF (sT σ) a))) := by
  refine wsp_of hW (fun h0 => wsp_T hW ?_)
  obtain ⟨h1, h2⟩ := fO_0 h0
  obtain ⟨j, hj, rfl⟩ := pF_of (ws_n hW) h1
  have hn8 := hW.1.1
  unfold ltF at h2
  rw [nI_clamp (by omega)] at h2 ⊢
  refine hW.1.back hj (fun q => ?_)
  rw [q] at h2
  exact absurd h2 (by decide)
theorem w_learns (hW : WS σ) (a b : Int32) : WS (if fO (pF (sN σ) a) (pF (sN σ) b) = 0 then setT σ (u2 (sT σ) 3 a.toNatClampNeg ((sT σ) 3 a.toNatClampNeg ^^^ (1 <<< (b &&& 31)))) else rfS σ (fO (pF (sN σ) a) (pF (sN σ) b))) :=
  wsp_of hW (fun _ => wsp_T hW (hW.1.put (by decide) (by decide) (fun q => absurd q (by decide)) (fun q => absurd q (by decide))))
theorem w_becomes (hW : WS σ) (f w v : Int32) : WS (if fO (pF (sN σ) f) (fO (whF w 2) (rgF v 0 99)) = 0 then setT σ (u2 (sT σ) (w.toNatClampNeg + 5) f.toNatClampNeg v) else rfS σ (fO (pF (sN σ) f) (fO (whF w 2) (rgF v 0 99)))) := by
  refine wsp_of hW (fun h0 => wsp_T hW ?_)
  obtain ⟨h1, h2⟩ := fO_0 h0
  obtain ⟨h3, h4⟩ := fO_0 h2
  obtain ⟨j, hj, rfl⟩ := whF_of (k := 2) (by decide) h3
  obtain ⟨m, -, hm, rfl⟩ := rgF_of (a := 0) (c := 99) (by decide) (by decide) h4
  rw [nI_clamp (by omega)]
  exact hW.1.put (by omega) (by omega) (fun q => absurd q (by omega)) (fun _ => ⟨m, by omega, rfl⟩)
theorem w_turn (hW : WS σ) (p k g : Int32) : WS (if fO (pF (sN σ) p) (fO (whF k 6) (rgF g 0 9)) = 0 then setT σ (u2 (u2 (sT σ) 1 p.toNatClampNeg k) 2 p.toNatClampNeg g) else rfS σ (fO (pF (sN σ) p) (fO (whF k 6) (rgF g 0 9)))) := by
  refine wsp_of hW (fun h0 => wsp_T hW ?_)
  obtain ⟨h1, h2⟩ := fO_0 h0
  obtain ⟨h3, h4⟩ := fO_0 h2
  obtain ⟨j, hj, rfl⟩ := whF_of (k := 6) (by decide) h3
  exact (hW.1.put (w := 1) (by decide) (by decide) (fun _ => ⟨j, hj, rfl⟩) (fun q => absurd q (by decide))).put (by decide) (by decide) (fun q => absurd q (by decide)) (fun q => absurd q (by decide))
theorem w_months (hW : WS σ) (k : Int32) : WS (if fO (rgF k 1 60) (moF (sMo σ) k) = 0 then setTM σ (monthsT (sN σ) k.toNatClampNeg (sT σ)) (sMo σ + k) else rfS σ (fO (rgF k 1 60) (moF (sMo σ) k))) :=
  wsp_of hW (fun _ => ⟨WFT.months k.toNatClampNeg (sT σ) hW.1, hW.2⟩)
theorem w_row (hW : WS σ) (v : Int32) : WS (if fO (rgF v 0 99) (fullF (sR σ).1 16) = 0 then setR σ (snoc (sR σ) v) else rfS σ (fO (rgF v 0 99) (fullF (sR σ).1 16))) := by
  refine wsp_of hW (fun h0 => ?_)
  obtain ⟨h1, h2⟩ := fO_0 h0
  obtain ⟨m, -, hm, hv⟩ := rgF_of (a := 0) (c := 99) (by decide) (by decide) h1
  exact ⟨hW.1, hW.2.1, hW.2.2.1, ws_snoc hW.2.2.2 h2 hv (by omega)⟩
theorem w_letter (hW : WS σ) (c : Int32) : WS (if fO (rgF c 0 255) (fullF (sL σ).1 96) = 0 then setL σ (snoc (sL σ) c) else rfS σ (fO (rgF c 0 255) (fullF (sL σ).1 96))) := by
  refine wsp_of hW (fun h0 => ?_)
  obtain ⟨h1, h2⟩ := fO_0 h0
  obtain ⟨m, -, hm, hv⟩ := rgF_of (a := 0) (c := 255) (by decide) (by decide) h1
  exact ⟨hW.1, hW.2.1, ws_snoc hW.2.2.1 h2 hv (by omega), hW.2.2.2⟩
theorem w_clear (hW : WS σ) : WS (if (0 : Int32) = 0 then setR σ (0, (sR σ).2) else rfS σ 0) :=
  wsp_of hW (fun _ => ⟨hW.1, hW.2.1, hW.2.2.1, Nat.zero_le 16, fun i hi => absurd hi (Nat.not_lt_zero i)⟩)
theorem w_image (hW : WS σ) : WS (if (0 : Int32) = 0 then setK σ (sN σ, sT σ, sMo σ) else rfS σ 0) :=
  wsp_of hW (fun _ => ⟨hW.1, fun q hq => by cases hq; exact hW.1, hW.2.2⟩)
theorem w_on (hW : WS σ) : WS (if onF (sK σ) = 0 then onS σ else rfS σ (onF (sK σ))) := by
  refine wsp_of hW (fun _ => ?_)
  unfold onS
  cases hs : sK σ with
  | none => exact hW
  | some q => exact ⟨hW.2.1 q hs, hW.2⟩
theorem w_town (hW : WS σ) : WS (if (0 : Int32) = 0 then townS σ else rfS σ 0) := wsp_of hW (fun _ => townS_ws hW)
theorem w_same (hW : WS σ) : WS (if e = 0 then σ else rfS σ e) := wsp_of hW (fun _ => hW)
end WSP
