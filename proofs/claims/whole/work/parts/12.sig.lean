/-! What both sides are, in one value; faults -/
abbrev Tw : Type := Nat → Nat → Int32
/-- people, town, month, image, letters, row, refusals -/
abbrev Sig : Type := Nat × Tw × Int32 × Option (Nat × Tw × Int32) × (Nat × (Nat → Int32)) × (Nat × (Nat → Int32)) × (Nat → Int32)
abbrev sN (σ : Sig) : Nat := σ.1
abbrev sT (σ : Sig) : Tw := σ.2.1
abbrev sMo (σ : Sig) : Int32 := σ.2.2.1
abbrev sK (σ : Sig) : Option (Nat × Tw × Int32) := σ.2.2.2.1
abbrev sL (σ : Sig) : Nat × (Nat → Int32) := σ.2.2.2.2.1
abbrev sR (σ : Sig) : Nat × (Nat → Int32) := σ.2.2.2.2.2.1
abbrev sRf (σ : Sig) : Nat → Int32 := σ.2.2.2.2.2.2
def keptC (k : Option (Nat × Tw × Int32)) (S : zSt) : Prop := match k with
  | none => S.2 0 10 = 0
  | some q => S.2 0 10 = 1 ∧ isT S 2 q.1 q.2.1 ∧ S.2 (tp 2) 9 = q.2.2
def keptM (k : Option (Nat × Tw × Int32)) (S : zSt) : Prop := match k with
  | none => S.2 0 5 = 0
  | some q => S.2 0 5 = 1 ∧ isM S 3 q.1 q.2.1 ∧ S.1 3 1 = q.2.2
def RepC (σ : Sig) (S : zSt) : Prop := isT S 0 (sN σ) (sT σ) ∧ S.2 (tp 0) 9 = sMo σ ∧ keptC (sK σ) S ∧ (S.2 32 1 = nI (sL σ).1 ∧ ∀ i, i < (sL σ).1 → S.1 33 i = (sL σ).2 i) ∧ (S.2 0 9 = nI (sR σ).1 ∧ ∀ i, i < (sR σ).1 → S.1 34 i = (sR σ).2 i) ∧ ∀ i, i < 7 → S.1 35 i = sRf σ i
def RepM (σ : Sig) (S : zSt) : Prop := isM S 1 (sN σ) (sT σ) ∧ S.1 1 1 = sMo σ ∧ keptM (sK σ) S ∧ (S.2 0 9 = nI (sL σ).1 ∧ ∀ i, i < (sL σ).1 → S.1 6 i = (sL σ).2 i) ∧ (S.2 0 10 = nI (sR σ).1 ∧ ∀ i, i < (sR σ).1 → S.1 7 i = (sR σ).2 i) ∧ ∀ i, i < 7 → S.1 8 i = sRf σ i
/-- a town as it must be -/
def WFT (n : Nat) (T : Tw) : Prop := n ≤ 8 ∧ MW n T ∧ (∀ p q r, p < n → q < n → r < n → T 4 p = nI r → T 4 q = nI r → p = q) ∧ (∀ q r, q < n → r < n → ¬ q = r → T 4 q = nI r → T 4 r = 9) ∧ ∀ p, p < n → (∃ m, m < 100 ∧ T 5 p = nI m) ∧ ∃ m, m < 100 ∧ T 6 p = nI m
def WS (σ : Sig) : Prop := WFT (sN σ) (sT σ) ∧ (∀ q, sK σ = some q → WFT q.1 q.2.1) ∧ ((sL σ).1 ≤ 96 ∧ ∀ i, i < (sL σ).1 → ∃ c, c < 256 ∧ (sL σ).2 i = nI c) ∧ ((sR σ).1 ≤ 16 ∧ ∀ i, i < (sR σ).1 → ∃ v, v < 100 ∧ (sR σ).2 i = nI v)
def rfS (σ : Sig) (e : Int32) : Sig := (σ.1, σ.2.1, σ.2.2.1, σ.2.2.2.1, σ.2.2.2.2.1, σ.2.2.2.2.2.1, fun i => if i = (-e).toNatClampNeg then σ.2.2.2.2.2.2 i + 1 else σ.2.2.2.2.2.2 i)
theorem WS.rf {σ : Sig} {e : Int32} (h : WS σ) : WS (rfS σ e) := h
/-- faults -/
def isP (n : Nat) (p : Int32) : Bool := decide (0 ≤ p ∧ p < nI n)
def pF (n : Nat) (p : Int32) : Int32 := if isP n p = true then 0 else -1
def whF (w k : Int32) : Int32 := if 0 ≤ w ∧ w < k then 0 else -2
def rgF (v lo hi : Int32) : Int32 := if v < lo then -4 else if hi < v then -6 else 0
def fO (a b : Int32) : Int32 := if a = 0 then b else a
def twF (n : Nat) (a b : Int32) : Int32 := if a = b then -1 else fO (pF n a) (pF n b)
def isE (e : Int32) : Prop := ∃ j, 0 < j ∧ j < 7 ∧ e = -(nI j)
def okE (e : Int32) : Prop := e = 0 ∨ isE e
theorem isE_1 : isE (-1) := ⟨1, by decide, by decide, by decide⟩
theorem isE_2 : isE (-2) := ⟨2, by decide, by decide, by decide⟩
theorem isE_3 : isE (-3) := ⟨3, by decide, by decide, by decide⟩
theorem isE_4 : isE (-4) := ⟨4, by decide, by decide, by decide⟩
theorem isE_6 : isE (-6) := ⟨6, by decide, by decide, by decide⟩
theorem okE.e {e : Int32} (h : okE e) (h0 : ¬ e = 0) : isE e := h.resolve_left h0
theorem isE.ne {e : Int32} (h : isE e) : ¬ e = 0 := by
  obtain ⟨j, h1, h2, rfl⟩ := h
  rcases (show j = 1 ∨ j = 2 ∨ j = 3 ∨ j = 4 ∨ j = 5 ∨ j = 6 by omega) with rfl | rfl | rfl | rfl | rfl | rfl <;> decide
theorem okE_pF (n : Nat) (p : Int32) : okE (pF n p) := by unfold pF; split; exact Or.inl rfl; exact Or.inr isE_1
theorem okE_whF (w k : Int32) : okE (whF w k) := by unfold whF; split; exact Or.inl rfl; exact Or.inr isE_2
theorem okE_rgF (v lo hi : Int32) : okE (rgF v lo hi) := by
  unfold rgF; split
  · exact Or.inr isE_4
  · split
    · exact Or.inr isE_6
    · exact Or.inl rfl
theorem okE_fO {a b : Int32} (ha : okE a) (hb : okE b) : okE (fO a b) := by unfold fO; split; exact hb; exact ha
theorem okE_twF (n : Nat) (a b : Int32) : okE (twF n a b) := by unfold twF; split; exact Or.inr isE_1; exact okE_fO (okE_pF n a) (okE_pF n b)
theorem fO_0 {a b : Int32} (h : fO a b = 0) : a = 0 ∧ b = 0 := by
  unfold fO at h
  split at h
  · exact ⟨by assumption, h⟩
  · exact absurd h (by assumption)
theorem isP_of {n : Nat} {p : Int32} (hn : n < 2 ^ 31) (h : isP n p = true) : ∃ j, j < n ∧ p = nI j := by
  unfold isP at h
  obtain ⟨h1, h2⟩ := of_decide_eq_true h
  obtain ⟨j, hj, rfl⟩ := nI_of (x := p) (Int32.not_lt.mpr h1)
  exact ⟨j, (nI_ltI hj hn).mp h2, rfl⟩
theorem isP_nI {n j : Nat} (hn : n < 2 ^ 31) (h : j < n) : isP n (nI j) = true := by
  unfold isP
  exact decide_eq_true ⟨nI_pos' (by omega), nI_lt h hn⟩
theorem pF_0 {n : Nat} {p : Int32} (h : pF n p = 0) : isP n p = true := by
  unfold pF at h
  split at h
  · assumption
  · exact absurd h (by decide)
theorem pF_of {n : Nat} {p : Int32} (hn : n < 2 ^ 31) (h : pF n p = 0) : ∃ j, j < n ∧ p = nI j := isP_of hn (pF_0 h)
theorem whF_of {w : Int32} {k : Nat} (hk : k < 2 ^ 31) (h : whF w (nI k) = 0) : ∃ j, j < k ∧ w = nI j := by
  unfold whF at h
  split at h
  · rename_i q
    obtain ⟨j, hj, rfl⟩ := nI_of (x := w) (Int32.not_lt.mpr q.1)
    exact ⟨j, (nI_ltI hj hk).mp q.2, rfl⟩
  · exact absurd h (by decide)
theorem rgF_of {v : Int32} {a c : Nat} (ha : a < 2 ^ 31) (hc : c < 2 ^ 31) (h : rgF v (nI a) (nI c) = 0) : ∃ j, a ≤ j ∧ j ≤ c ∧ v = nI j := by
  unfold rgF at h
  split at h
  · exact absurd h (by decide)
  · split at h
    · exact absurd h (by decide)
    · rename_i h1 h2
      have h3 : ¬ v < 0 := fun z => h1 (Int32.lt_of_lt_of_le z (nI_pos' ha))
      obtain ⟨j, hj, rfl⟩ := nI_of (x := v) h3
      refine ⟨j, ?_, ?_, rfl⟩
      · exact Nat.not_lt.mp (fun z => h1 (nI_lt z ha))
      · exact Nat.not_lt.mp (fun z => h2 (nI_lt z hj))
theorem twF_of {n : Nat} {a b : Int32} (hn : n < 2 ^ 31) (h : twF n a b = 0) : ∃ i j, i < n ∧ j < n ∧ ¬ i = j ∧ a = nI i ∧ b = nI j := by
  unfold twF at h
  split at h
  · exact absurd h (by decide)
  · rename_i hne
    obtain ⟨h1, h2⟩ := fO_0 h
    obtain ⟨i, hi, rfl⟩ := pF_of hn h1
    obtain ⟨j, hj, rfl⟩ := pF_of hn h2
    exact ⟨i, j, hi, hj, fun z => hne (by rw [z]), rfl, rfl⟩
theorem zldcw {x : zCx} {b : Bool} {M : zM} {post : Option Value → zSt → Prop} {pc idx : Nat} {lv : List (Nat × Value)} {st : List Value} {S : zSt} {v : Int32} (hw : Cond.constant M.1.cls idx v ∈ wsL_law) (d : decode M.2.1 pc = .ok (.ldc_w idx, 3)) (k : zZ x b M post (pc + 3) lv (.int v :: st) S) : zZ x b M post pc lv st S :=
  fun p e s m args below meth c H locs ls F hP hS hl => lv_ldcw F.1 F.2.1 F.2.2.2.1 (F.2.2.2.2.2.2.2.1 _ hw _) d (k p e s m args below meth c H locs ls F hP hS hl)
theorem hr1 : 0 < 1 ∧ 1 < 6 := by decide
theorem hr2 : 0 < 2 ∧ 2 < 6 := by decide
theorem hr3 : 0 < 3 ∧ 3 < 6 := by decide
theorem hr4 : 0 < 4 ∧ 4 < 6 := by decide
theorem hr5 : 0 < 5 ∧ 5 < 6 := by decide
section SIG
variable {x : zCx} {S : zSt} {σ σ' : Sig}
theorem clampE {e : Int32} (h : isE e) : ∃ j, 0 < j ∧ j < 7 ∧ -e = nI j ∧ (-e).toNatClampNeg = j := by
  obtain ⟨j, h1, h2, rfl⟩ := h
  have e1 : -(-(nI j)) = nI j := Int32.neg_neg
  exact ⟨j, h1, h2, e1, by rw [e1]; exact nI_clamp (by omega)⟩
theorem RepC.ref {e : Int32} (hE : isE e) (h : RepC σ S) : RepC (rfS σ e) (u2 S.1 35 (-e).toNatClampNeg (S.1 35 (-e).toNatClampNeg + 1), S.2) := by
  obtain ⟨j, j1, j2, -, j3⟩ := clampE hE
  obtain ⟨h1, h2, h3, h4, h5, h6⟩ := h
  rw [j3]
  have o : ∀ k i, ¬ k = 35 → u2 S.1 35 j (S.1 35 j + 1) k i = S.1 k i := fun k i hk => u2_w hk
  refine ⟨⟨h1.1, h1.2.1, fun w p a b c => (o _ _ (by unfold tp; omega)).trans (h1.2.2 w p a b c)⟩, h2, ?_, ⟨h4.1, fun i hi => (o _ _ (by decide)).trans (h4.2 i hi)⟩, ⟨h5.1, fun i hi => (o _ _ (by decide)).trans (h5.2 i hi)⟩, fun i hi => ?_⟩
  · show keptC (sK σ) _
    unfold keptC at h3 ⊢
    cases hk : sK σ with
    | none => rw [hk] at h3; exact h3
    | some q =>
      rw [hk] at h3
      exact ⟨h3.1, ⟨h3.2.1.1, h3.2.1.2.1, fun w p a b c => (o _ _ (by unfold tp; omega)).trans (h3.2.1.2.2 w p a b c)⟩, h3.2.2⟩
  · show u2 S.1 35 j (S.1 35 j + 1) 35 i = if i = (-e).toNatClampNeg then sRf σ i + 1 else sRf σ i
    rw [j3, ← h6 i hi]
    unfold u2
    by_cases q : i = j
    · subst q; simp
    · simp [q]
theorem RepM.ref {e : Int32} (hE : isE e) (h : RepM σ S) : RepM (rfS σ e) (u2 S.1 8 (-e).toNatClampNeg (S.1 8 (-e).toNatClampNeg + 1), S.2) := by
  obtain ⟨j, j1, j2, -, j3⟩ := clampE hE
  obtain ⟨h1, h2, h3, h4, h5, h6⟩ := h
  rw [j3]
  have o : ∀ k i, ¬ k = 8 → u2 S.1 8 j (S.1 8 j + 1) k i = S.1 k i := fun k i hk => u2_w hk
  refine ⟨isM_other h1 (by decide), (o _ _ (by decide)).trans h2, ?_, ⟨h4.1, fun i hi => (o _ _ (by decide)).trans (h4.2 i hi)⟩, ⟨h5.1, fun i hi => (o _ _ (by decide)).trans (h5.2 i hi)⟩, fun i hi => ?_⟩
  · show keptM (sK σ) _
    unfold keptM at h3 ⊢
    cases hk : sK σ with
    | none => rw [hk] at h3; exact h3
    | some q =>
      rw [hk] at h3
      exact ⟨h3.1, isM_other h3.2.1 (by decide), (o _ _ (by decide)).trans h3.2.2⟩
  · show u2 S.1 8 j (S.1 8 j + 1) 8 i = if i = (-e).toNatClampNeg then sRf σ i + 1 else sRf σ i
    rw [j3, ← h6 i hi]
    unfold u2
    by_cases q : i = j
    · subst q; simp
    · simp [q]
/-- a method's answer: fault e or A -/
def qC (e A : Int32) (σ σ' : Sig) : Int32 → zSt → Prop := fun r S' => r = (if e = 0 then A else e) ∧ RepC (if e = 0 then σ' else rfS σ e) S'
def qM (e A : Int32) (σ σ' : Sig) : Int32 → zSt → Prop := fun r S' => r = (if e = 0 then A else e) ∧ RepM (if e = 0 then σ' else rfS σ e) S'
theorem qC_ok {e A r : Int32} {S' : zSt} (he : e = 0) (hA : r = A) (h : RepC σ' S') : qC e A σ σ' r S' := by unfold qC; rw [if_pos he, if_pos he]; exact ⟨hA, h⟩
theorem qM_ok {e A r : Int32} {S' : zSt} (he : e = 0) (hA : r = A) (h : RepM σ' S') : qM e A σ σ' r S' := by unfold qM; rw [if_pos he, if_pos he]; exact ⟨hA, h⟩
theorem qC_no {e A c : Int32} (hc : e = c) (hE : isE c) (h : RepC σ S) : qC e A σ σ' c (u2 S.1 35 (-c).toNatClampNeg (S.1 35 (-c).toNatClampNeg + 1), S.2) := by
  subst hc; unfold qC; rw [if_neg hE.ne, if_neg hE.ne]; exact ⟨rfl, h.ref hE⟩
theorem qM_no {e A c : Int32} (hc : e = c) (hE : isE c) (h : RepM σ S) : qM e A σ σ' c (u2 S.1 8 (-c).toNatClampNeg (S.1 8 (-c).toNatClampNeg + 1), S.2) := by
  subst hc; unfold qM; rw [if_neg hE.ne, if_neg hE.ne]; exact ⟨rfl, h.ref hE⟩
/-- what is in mind is nobody's business -/
theorem RepC.mind {S' : zSt} (h : RepC σ S) (hf : frT 1 S S') : RepC σ S' := by
  obtain ⟨h1, h2, h3, h4, h5, h6⟩ := h
  have g : ∀ k, (k < 16 ∨ 24 ≤ k) → S'.1 k = S.1 k := fun k hk => hf.1 k (by unfold tp; omega)
  have g2 : ∀ k, ¬ k = 16 → S'.2 k = S.2 k := fun k hk => hf.2 k hk
  refine ⟨isT_frT h1 (by decide) hf, by rw [g2 _ (by decide)]; exact h2, ?_, by rw [g2 _ (by decide), g _ (by decide)]; exact h4, by rw [g2 _ (by decide), g _ (by decide)]; exact h5, by rw [g _ (by decide)]; exact h6⟩
  unfold keptC at h3 ⊢
  cases hk : sK σ with
  | none => rw [hk] at h3; rw [g2 _ (by decide)]; exact h3
  | some q => rw [hk] at h3; rw [g2 _ (by decide), g2 _ (by decide)]; exact ⟨h3.1, isT_frT h3.2.1 (by decide) hf, h3.2.2⟩
theorem RepM.mind {S' : zSt} {k : Nat} (h : RepM σ S) (hf : frM k S S') (hk : k = 2 ∨ k = 4 ∨ k = 5) : RepM σ S' := by
  obtain ⟨h1, h2, h3, h4, h5, h6⟩ := h
  have g : ∀ k', ¬ k' = k → S'.1 k' = S.1 k' := hf.1
  refine ⟨isM_frM h1 hf (by omega), by rw [g _ (by omega)]; exact h2, ?_, by rw [hf.2, g _ (by omega)]; exact h4, by rw [hf.2, g _ (by omega)]; exact h5, by rw [g _ (by omega)]; exact h6⟩
  unfold keptM at h3 ⊢
  cases hk : sK σ with
  | none => rw [hk] at h3; rw [hf.2]; exact h3
  | some q => rw [hk] at h3; rw [hf.2, g _ (by omega)]; exact ⟨h3.1, isM_frM h3.2.1 hf (by omega), h3.2.2⟩

set_option maxRecDepth 100000 in
set_option maxHeartbeats 4000000 in
theorem c_X8_whatFault {u v : Int32} : zF x true mX8_whatFault [.int u, .int v] S (some (.int (whF u v))) S := by
  refine zC_of (by decide +kernel) (Nat.le_of_ble_eq_true rfl) ?_
  refine ziload_n dX8_whatFault_0 rfl ?_
  refine zif_lt (tgt := 13) dX8_whatFault_1 (by decide) (fun h1 => ?_) (fun h1 => ?_)
  · refine zbipush (v := -2) dX8_whatFault_13 (by decide) ?_
    exact zireturn dX8_whatFault_15 rfl rfl ⟨congrArg (fun q => some (Value.int q)) (by unfold whF; first | exact (if_pos ⟨Int32.not_lt.mp h1, Int32.not_le.mp h6⟩).symm | exact (if_neg (fun z => absurd z.1 (Int32.not_le.mpr h1))).symm | exact (if_neg (fun z => absurd z.2 (Int32.not_lt.mpr h6))).symm), rfl⟩
  · refine ziload_n dX8_whatFault_4 rfl ?_
    refine ziload_n dX8_whatFault_5 rfl ?_
    refine zicmp_ge (tgt := 13) dX8_whatFault_6 (by decide) (fun h6 => ?_) (fun h6 => ?_)
    · refine zbipush (v := -2) dX8_whatFault_13 (by decide) ?_
      exact zireturn dX8_whatFault_15 rfl rfl ⟨congrArg (fun q => some (Value.int q)) (by unfold whF; first | exact (if_pos ⟨Int32.not_lt.mp h1, Int32.not_le.mp h6⟩).symm | exact (if_neg (fun z => absurd z.1 (Int32.not_le.mpr h1))).symm | exact (if_neg (fun z => absurd z.2 (Int32.not_lt.mpr h6))).symm), rfl⟩
    · refine ziconst (v := 0) dX8_whatFault_9 (by decide) ?_
      refine zgoto (tgt := 15) dX8_whatFault_10 (by decide) ?_
      exact zireturn dX8_whatFault_15 rfl rfl ⟨congrArg (fun q => some (Value.int q)) (by unfold whF; first | exact (if_pos ⟨Int32.not_lt.mp h1, Int32.not_le.mp h6⟩).symm | exact (if_neg (fun z => absurd z.1 (Int32.not_le.mpr h1))).symm | exact (if_neg (fun z => absurd z.2 (Int32.not_lt.mpr h6))).symm), rfl⟩
set_option maxRecDepth 100000 in
set_option maxHeartbeats 4000000 in
theorem c_X8_leastFault {u v : Int32} : zF x true mX8_leastFault [.int u, .int v] S (some (.int (if u < v then -4 else 0))) S := by
  refine zC_of (by decide +kernel) (Nat.le_of_ble_eq_true rfl) ?_
  refine ziload_n dX8_leastFault_0 rfl ?_
  refine ziload_n dX8_leastFault_1 rfl ?_
  refine zicmp_ge (tgt := 10) dX8_leastFault_2 (by decide) (fun h2 => ?_) (fun h2 => ?_)
  · refine ziconst (v := 0) dX8_leastFault_10 (by decide) ?_
    exact zireturn dX8_leastFault_11 rfl rfl ⟨congrArg (fun q => some (Value.int q)) (by first | rw [if_pos (Int32.not_le.mp h2)] | rw [if_neg (Int32.not_lt.mpr h2)]), rfl⟩
  · refine zbipush (v := -4) dX8_leastFault_5 (by decide) ?_
    refine zgoto (tgt := 11) dX8_leastFault_7 (by decide) ?_
    exact zireturn dX8_leastFault_11 rfl rfl ⟨congrArg (fun q => some (Value.int q)) (by first | rw [if_pos (Int32.not_le.mp h2)] | rw [if_neg (Int32.not_lt.mpr h2)]), rfl⟩
set_option maxRecDepth 100000 in
set_option maxHeartbeats 4000000 in
theorem c_X8_mostFault {u v : Int32} : zF x true mX8_mostFault [.int u, .int v] S (some (.int (if v < u then -6 else 0))) S := by
  refine zC_of (by decide +kernel) (Nat.le_of_ble_eq_true rfl) ?_
  refine ziload_n dX8_mostFault_0 rfl ?_
  refine ziload_n dX8_mostFault_1 rfl ?_
  refine zicmp_le (tgt := 10) dX8_mostFault_2 (by decide) (fun h2 => ?_) (fun h2 => ?_)
  · refine ziconst (v := 0) dX8_mostFault_10 (by decide) ?_
    exact zireturn dX8_mostFault_11 rfl rfl ⟨congrArg (fun q => some (Value.int q)) (by first | rw [if_pos (Int32.not_le.mp h2)] | rw [if_neg (Int32.not_lt.mpr h2)]), rfl⟩
  · refine zbipush (v := -6) dX8_mostFault_5 (by decide) ?_
    refine zgoto (tgt := 11) dX8_mostFault_7 (by decide) ?_
    exact zireturn dX8_mostFault_11 rfl rfl ⟨congrArg (fun q => some (Value.int q)) (by first | rw [if_pos (Int32.not_le.mp h2)] | rw [if_neg (Int32.not_lt.mpr h2)]), rfl⟩
set_option maxRecDepth 100000 in
set_option maxHeartbeats 4000000 in
theorem c_X8_firstOf {u v : Int32} : zF x true mX8_firstOf [.int u, .int v] S (some (.int (fO u v))) S := by
  refine zC_of (by decide +kernel) (Nat.le_of_ble_eq_true rfl) ?_
  refine ziload_n dX8_firstOf_0 rfl ?_
  refine zif_eq (tgt := 8) dX8_firstOf_1 (by decide) (fun h1 => ?_) (fun h1 => ?_)
  · refine ziload_n dX8_firstOf_8 rfl ?_
    exact zireturn dX8_firstOf_9 rfl rfl ⟨congrArg (fun q => some (Value.int q)) (by unfold fO; first | rw [if_pos h1] | rw [if_neg h1]), rfl⟩
  · refine ziload_n dX8_firstOf_4 rfl ?_
    refine zgoto (tgt := 9) dX8_firstOf_5 (by decide) ?_
    exact zireturn dX8_firstOf_9 rfl rfl ⟨congrArg (fun q => some (Value.int q)) (by unfold fO; first | rw [if_pos h1] | rw [if_neg h1]), rfl⟩
theorem rgF_eq (v lo hi : Int32) : fO (if v < lo then -4 else 0) (if hi < v then -6 else 0) = rgF v lo hi := by
  unfold rgF fO
  split
  · rw [if_neg (by decide)]
  · rw [if_pos rfl]
set_option maxRecDepth 100000 in
set_option maxHeartbeats 4000000 in
theorem c_X8_rangeFault {u v q : Int32} : zF x true mX8_rangeFault [.int u, .int v, .int q] S (some (.int (rgF u v q))) S := by
  refine zC_of (by decide +kernel) (Nat.le_of_ble_eq_true rfl) ?_
  refine ziload_n dX8_rangeFault_0 rfl ?_
  refine ziload_n dX8_rangeFault_1 rfl ?_
  refine zcSf  gk_X8_233 dX8_rangeFault_2 c_X8_leastFault rfl (by decide) (Nat.le_of_ble_eq_true rfl) ?_ rfl
  refine ziload_n dX8_rangeFault_5 rfl ?_
  refine ziload_n dX8_rangeFault_6 rfl ?_
  refine zcSf  gk_X8_236 dX8_rangeFault_7 c_X8_mostFault rfl (by decide) (Nat.le_of_ble_eq_true rfl) ?_ rfl
  refine zcSf  gk_X8_103 dX8_rangeFault_10 c_X8_firstOf rfl (by decide) (Nat.le_of_ble_eq_true rfl) ?_ rfl
  exact zireturn dX8_rangeFault_13 rfl rfl ⟨congrArg (fun q => some (Value.int q)) (by exact rgF_eq _ _ _), rfl⟩
set_option maxRecDepth 100000 in
set_option maxHeartbeats 4000000 in
theorem c_X8_firstOfThree {u v q : Int32} : zF x true mX8_firstOfThree [.int u, .int v, .int q] S (some (.int (fO u (fO v q)))) S := by
  refine zC_of (by decide +kernel) (Nat.le_of_ble_eq_true rfl) ?_
  refine ziload_n dX8_firstOfThree_0 rfl ?_
  refine ziload_n dX8_firstOfThree_1 rfl ?_
  refine ziload_n dX8_firstOfThree_2 rfl ?_
  refine zcSf  gk_X8_103 dX8_firstOfThree_3 c_X8_firstOf rfl (by decide) (Nat.le_of_ble_eq_true rfl) ?_ rfl
  refine zcSf  gk_X8_103 dX8_firstOfThree_6 c_X8_firstOf rfl (by decide) (Nat.le_of_ble_eq_true rfl) ?_ rfl
  exact zireturn dX8_firstOfThree_9 rfl rfl ⟨rfl, rfl⟩
set_option maxRecDepth 100000 in
set_option maxHeartbeats 4000000 in
theorem c_X8_personFault {p : Int32} {n : Nat} {T : Tw} (hT : isT S 0 n T) : zF x true mX8_personFault [.ref (zad x 0), .int p] S (some (.int (pF n p))) S := by
  refine zC_of (by decide +kernel) (Nat.le_of_ble_eq_true rfl) ?_
  refine zaload_n dX8_personFault_0 rfl ?_
  refine gf_X8_30 rfl dX8_personFault_1 ?_
  refine ziload_n dX8_personFault_4 rfl ?_
  refine zcVf (ob_town (t := 0) (by decide)) gk_X8_279 dX8_personFault_5 (c_X7_isThere (by decide) hT) rfl (by decide) (Nat.le_of_ble_eq_true rfl) ?_ rfl
  refine zifb_eq (tgt := 15) dX8_personFault_8 (by decide) (fun h8 => ?_) (fun h8 => ?_)
  · refine ziconst (v := -1) dX8_personFault_15 (by decide) ?_
    exact zireturn dX8_personFault_16 rfl rfl ⟨congrArg (fun q => some (Value.int q)) (by unfold pF isP; first | rw [if_pos h8] | rw [if_neg (by rw [h8]; decide)]), rfl⟩
  · refine ziconst (v := 0) dX8_personFault_11 (by decide) ?_
    refine zgoto (tgt := 16) dX8_personFault_12 (by decide) ?_
    exact zireturn dX8_personFault_16 rfl rfl ⟨congrArg (fun q => some (Value.int q)) (by unfold pF isP; first | rw [if_pos h8] | rw [if_neg (by rw [h8]; decide)]), rfl⟩
set_option maxRecDepth 100000 in
set_option maxHeartbeats 4000000 in
theorem c_X8_twoFault {p q : Int32} {n : Nat} {T : Tw} (hT : isT S 0 n T) : zF x true mX8_twoFault [.ref (zad x 0), .int p, .int q] S (some (.int (twF n p q))) S := by
  refine zC_of (by decide +kernel) (Nat.le_of_ble_eq_true rfl) ?_
  refine ziload_n dX8_twoFault_0 rfl ?_
  refine ziload_n dX8_twoFault_1 rfl ?_
  refine zicmp_ne (tgt := 9) dX8_twoFault_2 (by decide) (fun h2 => ?_) (fun h2 => ?_)
  · refine zaload_n dX8_twoFault_9 rfl ?_
    refine ziload_n dX8_twoFault_10 rfl ?_
    refine zcVf ob_X gk_X8_96 dX8_twoFault_11 (c_X8_personFault hT) rfl (by decide) (Nat.le_of_ble_eq_true rfl) ?_ rfl
    refine zaload_n dX8_twoFault_14 rfl ?_
    refine ziload_n dX8_twoFault_15 rfl ?_
    refine zcVf ob_X gk_X8_96 dX8_twoFault_16 (c_X8_personFault hT) rfl (by decide) (Nat.le_of_ble_eq_true rfl) ?_ rfl
    refine zcSf  gk_X8_103 dX8_twoFault_19 c_X8_firstOf rfl (by decide) (Nat.le_of_ble_eq_true rfl) ?_ rfl
    exact zireturn dX8_twoFault_22 rfl rfl ⟨congrArg (fun q => some (Value.int q)) (by unfold twF; first | rw [if_neg h2] | rw [if_pos h2]), rfl⟩
  · refine ziconst (v := -1) dX8_twoFault_5 (by decide) ?_
    refine zgoto (tgt := 22) dX8_twoFault_6 (by decide) ?_
    exact zireturn dX8_twoFault_22 rfl rfl ⟨congrArg (fun q => some (Value.int q)) (by unfold twF; first | rw [if_neg h2] | rw [if_pos h2]), rfl⟩
set_option maxRecDepth 100000 in
set_option maxHeartbeats 4000000 in
theorem c_X8_refuse {e : Int32} (hE : isE e) : zF x true mX8_refuse [.ref (zad x 0), .int e] S (some (.int e)) (u2 S.1 35 (-e).toNatClampNeg (S.1 35 (-e).toNatClampNeg + 1), S.2) := by
  obtain ⟨j, j1, j2, j3, j4⟩ := clampE hE
  refine zC_of (by decide +kernel) (Nat.le_of_ble_eq_true rfl) ?_
  rw [j4]
  refine zaload_n dX8_refuse_0 rfl ?_
  refine gf_X8_53 rfl dX8_refuse_1 ?_
  refine ziload_n dX8_refuse_4 rfl ?_
  refine zineg dX8_refuse_5 ?_
  rw [j3]
  refine zdup2_11 dX8_refuse_6 rfl rfl ?_
  refine ziald dX8_refuse_7 (by decide) rfl (by decide) (by omega) ?_
  refine ziconst (v := 1) dX8_refuse_8 (by decide) ?_
  refine ziadd dX8_refuse_9 ?_
  refine ziast dX8_refuse_10 (by decide) rfl (by decide) (by omega) ?_
  refine ziload_n dX8_refuse_11 rfl ?_
  exact zireturn dX8_refuse_12 rfl rfl ⟨rfl, rfl⟩
set_option maxRecDepth 100000 in
set_option maxHeartbeats 4000000 in
theorem c_X8_refuseFarOff {e : Int32} (hE : isE e) : zF x true mX8_refuseFarOff [.ref (zad x 0), .int e] S (some (.int (1000000000 - e))) (u2 S.1 35 (-e).toNatClampNeg (S.1 35 (-e).toNatClampNeg + 1), S.2) := by
  refine zC_of (by decide +kernel) (Nat.le_of_ble_eq_true rfl) ?_
  refine zldcw (List.mem_of_getElem? (i := 525) (by decide +kernel) : Cond.constant RX8 300 1000000000 ∈ wsL_law) dX8_refuseFarOff_0 ?_
  refine zaload_n dX8_refuseFarOff_3 rfl ?_
  refine ziload_n dX8_refuseFarOff_4 rfl ?_
  refine zcVf ob_X gk_X8_77 dX8_refuseFarOff_5 (c_X8_refuse hE) rfl (by decide) (Nat.le_of_ble_eq_true rfl) ?_ rfl
  refine zisub dX8_refuseFarOff_8 ?_
  exact zireturn dX8_refuseFarOff_9 rfl rfl ⟨rfl, rfl⟩
set_option maxRecDepth 100000 in
set_option maxHeartbeats 4000000 in
theorem c_X8_refuseLong {e : Int32} (hE : isE e) : zF x true mX8_refuseLong [.ref (zad x 0), .int e] S (some (.long (4000000000000000000 - e.toInt64))) (u2 S.1 35 (-e).toNatClampNeg (S.1 35 (-e).toNatClampNeg + 1), S.2) := by
  refine zC_of (by decide +kernel) (Nat.le_of_ble_eq_true rfl) ?_
  refine zldc2 (v := 4000000000000000000) dX8_refuseLong_0 (List.mem_of_getElem? (i := 892) (by decide +kernel) : Cond.constantLong RX8 301 4000000000000000000 ∈ wsL_law) ?_
  refine zaload_n dX8_refuseLong_3 rfl ?_
  refine ziload_n dX8_refuseLong_4 rfl ?_
  refine zcVf ob_X gk_X8_77 dX8_refuseLong_5 (c_X8_refuse hE) rfl (by decide) (Nat.le_of_ble_eq_true rfl) ?_ rfl
  refine zi2l dX8_refuseLong_8 ?_
  refine zlsub dX8_refuseLong_9 ?_
  exact zlreturn dX8_refuseLong_10 rfl ⟨rfl, rfl⟩
theorem leP {n : Nat} {p : Int32} (hn : n ≤ 8) : decide (0 ≤ p ∧ p ≤ nI n - 1) = isP n p := by
  unfold isP
  congr 1
  apply propext
  constructor
  · rintro ⟨h1, h2⟩
    refine ⟨h1, ?_⟩
    rcases (show n = 0 ∨ n = (n - 1) + 1 by omega) with h | h
    · rw [h] at h2
      exact absurd (Int32.le_trans h1 h2) (by decide)
    · rw [h, nI_pred] at h2
      rw [h]
      obtain ⟨j, hj, rfl⟩ := nI_of (x := p) (Int32.not_lt.mpr h1)
      rw [nI_leI hj (by omega)] at h2
      exact nI_lt (by omega) (by omega)
  · rintro ⟨h1, h2⟩
    refine ⟨h1, ?_⟩
    obtain ⟨j, hj, rfl⟩ := nI_of (x := p) (Int32.not_lt.mpr h1)
    rw [nI_ltI hj (by omega)] at h2
    rw [show n = (n - 1) + 1 by omega, nI_pred]
    exact nI_le (by omega) (by omega)
theorem whI (w : Int32) (k : Nat) (hk : k < 100) : decide (0 ≤ w ∧ w ≤ nI k) = decide (whF w (nI (k + 1)) = 0) := by
  congr 1
  apply propext
  unfold whF
  constructor
  · rintro ⟨h1, h2⟩
    obtain ⟨j, hj, rfl⟩ := nI_of (x := w) (Int32.not_lt.mpr h1)
    rw [nI_leI hj (by omega)] at h2
    rw [if_pos ⟨h1, nI_lt (by omega) (by omega)⟩]
  · intro h
    split at h
    · rename_i q
      refine ⟨q.1, ?_⟩
      obtain ⟨j, hj, rfl⟩ := nI_of (x := w) (Int32.not_lt.mpr q.1)
      have := (nI_ltI hj (by omega)).mp q.2
      exact nI_le (by omega) (by omega)
    · exact absurd h (by decide)
theorem c_isIn_1 {u : Int32} : zF x false mX9_isIn [.int u, .int 0, .int 1] S (some (.int (bI (decide (whF u 2 = 0))))) S := by
  have h := c_X9_isIn (x := x) (S := S) (u := u) (v := 0) (q := 1)
  rw [show decide ((0 : Int32) ≤ u ∧ u ≤ 1) = decide (whF u 2 = 0) from whI u 1 (by decide)] at h
  exact h
theorem c_isIn_2 {u : Int32} : zF x false mX9_isIn [.int u, .int 0, .int 2] S (some (.int (bI (decide (whF u 3 = 0))))) S := by
  have h := c_X9_isIn (x := x) (S := S) (u := u) (v := 0) (q := 2)
  rw [show decide ((0 : Int32) ≤ u ∧ u ≤ 2) = decide (whF u 3 = 0) from whI u 2 (by decide)] at h
  exact h
theorem c_isIn_3 {u : Int32} : zF x false mX9_isIn [.int u, .int 0, .int 3] S (some (.int (bI (decide (whF u 4 = 0))))) S := by
  have h := c_X9_isIn (x := x) (S := S) (u := u) (v := 0) (q := 3)
  rw [show decide ((0 : Int32) ≤ u ∧ u ≤ 3) = decide (whF u 4 = 0) from whI u 3 (by decide)] at h
  exact h
theorem c_isIn_5 {u : Int32} : zF x false mX9_isIn [.int u, .int 0, .int 5] S (some (.int (bI (decide (whF u 6 = 0))))) S := by
  have h := c_X9_isIn (x := x) (S := S) (u := u) (v := 0) (q := 5)
  rw [show decide ((0 : Int32) ≤ u ∧ u ≤ 5) = decide (whF u 6 = 0) from whI u 5 (by decide)] at h
  exact h
set_option maxRecDepth 100000 in
set_option maxHeartbeats 4000000 in
theorem c_X9_isOne {p : Int32} {n : Nat} {T : Tw} (hM : isM S 1 n T) : zF x false mX9_isOne [.ref (zad x 0), .int p] S (some (.int (bI (isP n p)))) S := by
  refine zC_of (by decide +kernel) (Nat.le_of_ble_eq_true rfl) ?_
  refine ziload_n dX9_isOne_0 rfl ?_
  refine ziconst (v := 0) dX9_isOne_1 (by decide) ?_
  refine zaload_n dX9_isOne_2 rfl ?_
  refine gf_X9_9 rfl dX9_isOne_3 ?_
  refine ziconst (v := nI 0) dX9_isOne_6 (by decide) ?_
  refine ziald dX9_isOne_7 (mrk hr1.2) (mrl hr1.1 hr1.2) (by decide) (by decide) ?_
  rw [hM.1]
  refine ziconst (v := 1) dX9_isOne_8 (by decide) ?_
  refine zisub dX9_isOne_9 ?_
  refine zcSf  gk_X9_44 dX9_isOne_10 c_X9_isIn rfl (by decide) (Nat.le_of_ble_eq_true rfl) ?_ rfl
  exact zbret dX9_isOne_13 rfl rfl ⟨congrArg (fun q => some (Value.int (bI q))) (by exact leP hM.2.1), rfl⟩
set_option maxRecDepth 100000 in
set_option maxHeartbeats 4000000 in
theorem c_X9_areTwo {p q : Int32} {n : Nat} {T : Tw} (hM : isM S 1 n T) : zF x false mX9_areTwo [.ref (zad x 0), .int p, .int q] S (some (.int (bI (decide (twF n p q = 0))))) S := by
  refine zC_of (by decide +kernel) (Nat.le_of_ble_eq_true rfl) ?_
  refine zaload_n dX9_areTwo_0 rfl ?_
  refine ziload_n dX9_areTwo_1 rfl ?_
  refine zcVf ob_Mo gk_X9_48 dX9_areTwo_2 (c_X9_isOne hM) rfl (by decide) (Nat.le_of_ble_eq_true rfl) ?_ rfl
  refine zifb_eq (tgt := 25) dX9_areTwo_5 (by decide) (fun h5 => ?_) (fun h5 => ?_)
  · refine ziconst (v := 0) dX9_areTwo_25 (by decide) ?_
    exact zbret (q := false) dX9_areTwo_26 rfl rfl ⟨congrArg (fun q => some (Value.int (bI q))) (by unfold twF; first | (rw [if_pos h18]; rfl) | (rw [if_neg h18]; unfold fO pF; rw [h5, h13]; rfl) | (split; rfl; unfold fO pF; simp [h5, h13]; done) | (split; rfl; unfold fO pF; simp [h5]; done)), rfl⟩
  · refine zaload_n dX9_areTwo_8 rfl ?_
    refine ziload_n dX9_areTwo_9 rfl ?_
    refine zcVf ob_Mo gk_X9_48 dX9_areTwo_10 (c_X9_isOne hM) rfl (by decide) (Nat.le_of_ble_eq_true rfl) ?_ rfl
    refine zifb_eq (tgt := 25) dX9_areTwo_13 (by decide) (fun h13 => ?_) (fun h13 => ?_)
    · refine ziconst (v := 0) dX9_areTwo_25 (by decide) ?_
      exact zbret (q := false) dX9_areTwo_26 rfl rfl ⟨congrArg (fun q => some (Value.int (bI q))) (by unfold twF; first | (rw [if_pos h18]; rfl) | (rw [if_neg h18]; unfold fO pF; rw [h5, h13]; rfl) | (split; rfl; unfold fO pF; simp [h5, h13]; done) | (split; rfl; unfold fO pF; simp [h5]; done)), rfl⟩
    · refine ziload_n dX9_areTwo_16 rfl ?_
      refine ziload_n dX9_areTwo_17 rfl ?_
      refine zicmp_eq (tgt := 25) dX9_areTwo_18 (by decide) (fun h18 => ?_) (fun h18 => ?_)
      · refine ziconst (v := 0) dX9_areTwo_25 (by decide) ?_
        exact zbret (q := false) dX9_areTwo_26 rfl rfl ⟨congrArg (fun q => some (Value.int (bI q))) (by unfold twF; first | (rw [if_pos h18]; rfl) | (rw [if_neg h18]; unfold fO pF; rw [h5, h13]; rfl) | (split; rfl; unfold fO pF; simp [h5, h13]; done) | (split; rfl; unfold fO pF; simp [h5]; done)), rfl⟩
      · refine ziconst (v := 1) dX9_areTwo_21 (by decide) ?_
        refine zgoto (tgt := 26) dX9_areTwo_22 (by decide) ?_
        exact zbret (q := true) dX9_areTwo_26 rfl rfl ⟨congrArg (fun q => some (Value.int (bI q))) (by unfold twF; first | (rw [if_pos h18]; rfl) | (rw [if_neg h18]; unfold fO pF; rw [h5, h13]; rfl) | (split; rfl; unfold fO pF; simp [h5, h13]; done) | (split; rfl; unfold fO pF; simp [h5]; done)), rfl⟩
set_option maxRecDepth 100000 in
set_option maxHeartbeats 4000000 in
theorem c_X9_no {e : Int32} (hE : isE e) : zF x false mX9_no [.ref (zad x 0), .int e] S (some (.int e)) (u2 S.1 8 (-e).toNatClampNeg (S.1 8 (-e).toNatClampNeg + 1), S.2) := by
  obtain ⟨j, j1, j2, j3, j4⟩ := clampE hE
  refine zC_of (by decide +kernel) (Nat.le_of_ble_eq_true rfl) ?_
  rw [j4]
  refine zaload_n dX9_no_0 rfl ?_
  refine gf_X9_31 rfl dX9_no_1 ?_
  refine ziload_n dX9_no_4 rfl ?_
  refine zineg dX9_no_5 ?_
  rw [j3]
  refine zdup2_11 dX9_no_6 rfl rfl ?_
  refine ziald dX9_no_7 (by decide) rfl (by decide) (by omega) ?_
  refine ziconst (v := 1) dX9_no_8 (by decide) ?_
  refine ziadd dX9_no_9 ?_
  refine ziast dX9_no_10 (by decide) rfl (by decide) (by omega) ?_
  refine ziload_n dX9_no_11 rfl ?_
  exact zireturn dX9_no_12 rfl rfl ⟨rfl, rfl⟩
set_option maxRecDepth 100000 in
set_option maxHeartbeats 4000000 in
theorem c_X9_noFar {e : Int32} (hE : isE e) : zF x false mX9_noFar [.ref (zad x 0), .int e] S (some (.int (1000000000 - e))) (u2 S.1 8 (-e).toNatClampNeg (S.1 8 (-e).toNatClampNeg + 1), S.2) := by
  refine zC_of (by decide +kernel) (Nat.le_of_ble_eq_true rfl) ?_
  refine zldc (v := 1000000000) dX9_noFar_0 (List.mem_of_getElem? (i := 541) (by decide +kernel) : Cond.constant RX9 37 1000000000 ∈ wsL_law) ?_
  refine zaload_n dX9_noFar_2 rfl ?_
  refine ziload_n dX9_noFar_3 rfl ?_
  refine zcVf ob_Mo gk_X9_38 dX9_noFar_4 (c_X9_no hE) rfl (by decide) (Nat.le_of_ble_eq_true rfl) ?_ rfl
  refine zisub dX9_noFar_7 ?_
  exact zireturn dX9_noFar_8 rfl rfl ⟨rfl, rfl⟩
set_option maxRecDepth 100000 in
set_option maxHeartbeats 4000000 in
theorem c_X9_noWide {e : Int32} (hE : isE e) : zF x false mX9_noWide [.ref (zad x 0), .int e] S (some (.long (4000000000000000000 - e.toInt64))) (u2 S.1 8 (-e).toNatClampNeg (S.1 8 (-e).toNatClampNeg + 1), S.2) := by
  refine zC_of (by decide +kernel) (Nat.le_of_ble_eq_true rfl) ?_
  refine zldc2 (v := 4000000000000000000) dX9_noWide_0 (List.mem_of_getElem? (i := 913) (by decide +kernel) : Cond.constantLong RX9 42 4000000000000000000 ∈ wsL_law) ?_
  refine zaload_n dX9_noWide_3 rfl ?_
  refine ziload_n dX9_noWide_4 rfl ?_
  refine zcVf ob_Mo gk_X9_38 dX9_noWide_5 (c_X9_no hE) rfl (by decide) (Nat.le_of_ble_eq_true rfl) ?_ rfl
  refine zi2l dX9_noWide_8 ?_
  refine zlsub dX9_noWide_9 ?_
  exact zlreturn dX9_noWide_10 rfl ⟨rfl, rfl⟩
set_option maxRecDepth 100000 in
set_option maxHeartbeats 4000000 in
theorem l_X9_copies {k k2 : Nat} (hk : 0 < k ∧ k < 6) (hk2 : 0 < k2 ∧ k2 < 6) (hne : ¬ k = k2) {S0 : zSt} {post : Option Value → zSt → Prop} : ∀ (q i : Nat) (S : zSt), i + q = 58 → S.1 k = S0.1 k → (∀ j, j < i → S.1 k2 j = S0.1 k j) → frM k2 S0 S → (∀ S', (∀ j, j < 58 → S'.1 k2 j = S0.1 k j) → frM k2 S0 S' → post none S') → zZ x false mX9_copies post 2 [(0, .ref (zad x k)), (1, .ref (zad x k2)), (2, .int (nI i))] [] S := by
  intro q
  induction q with
  | zero =>
    intro i S hi h1 h2 h3 kk
    refine ziload_n dX9_copies_2 rfl ?_
    refine zbipush (v := 58) dX9_copies_3 (by decide) ?_
    refine zicmp_ge (tgt := 20) dX9_copies_5 (by decide) (fun _ => ?_) (fun h => absurd (nI_le (a := 58) (by omega) (by omega)) h)
    exact zreturn dX9_copies_20 rfl (kk S (fun j hj => h2 j (by omega)) h3)
  | succ q ih =>
    intro i S hi h1 h2 h3 kk
    refine ziload_n dX9_copies_2 rfl ?_
    refine zbipush (v := 58) dX9_copies_3 (by decide) ?_
    refine zicmp_ge (tgt := 20) dX9_copies_5 (by decide) (fun h => absurd h (nI_ge (b := 58) (by omega) (by omega))) (fun _ => ?_)
    refine zaload_n dX9_copies_8 rfl ?_
    refine ziload_n dX9_copies_9 rfl ?_
    refine zaload_n dX9_copies_10 rfl ?_
    refine ziload_n dX9_copies_11 rfl ?_
    refine ziald dX9_copies_12 (mrk hk.2) (mrl hk.1 hk.2) (by decide) (by omega) ?_
    refine ziast dX9_copies_13 (mrk hk2.2) (mrl hk2.1 hk2.2) (by decide) (by omega) ?_
    refine ziinc dX9_copies_14 rfl rfl (by decide) rfl ?_
    refine zgoto (tgt := 2) dX9_copies_17 (by decide) ?_
    refine zlvs (lv' := [(0, .ref (zad x k)), (1, .ref (zad x k2)), (2, .int (nI (i + 1)))]) ⟨rfl, rfl, by rw [← nI_1]; rfl, trivial⟩ ?_
    refine ih (i + 1) _ (by omega) ?_ ?_ h3.put kk
    · rw [← h1]; funext j; exact u2_w hne
    · intro j hj
      show u2 S.1 k2 i _ k2 j = _
      by_cases e : j = i
      · subst e; rw [u2_self, h1]
      · rw [u2_ne (fun z => e z.2)]; exact h2 j (by omega)
set_option maxRecDepth 100000 in
set_option maxHeartbeats 4000000 in
theorem c_X9_copies {k k2 n : Nat} {T : Tw} (hk : 0 < k ∧ k < 6) (hk2 : 0 < k2 ∧ k2 < 6) (hne : ¬ k = k2) (hM : isM S k n T) : zV x false mX9_copies [.ref (zad x k), .ref (zad x k2)] S (fun S' => isM S' k2 n T ∧ S'.1 k2 1 = S.1 k 1 ∧ frM k2 S S') := by
  have hn8 := hM.2.1
  refine zC_of (by decide +kernel) (Nat.le_of_ble_eq_true rfl) ?_
  refine ziconst (v := 0) dX9_copies_0 (by decide) ?_
  refine zistore_n dX9_copies_1 (by decide) rfl ?_
  refine zlvs (lv' := [(0, .ref (zad x k)), (1, .ref (zad x k2)), (2, .int (nI 0))]) ⟨rfl, rfl, rfl, trivial⟩ ?_
  exact l_X9_copies hk hk2 hne (S0 := S) 58 0 S (by omega) rfl (fun j hj => absurd hj (Nat.not_lt_zero j)) frM.rf (fun S' h1 h2 => ⟨rfl, ⟨by rw [h1 0 (by decide)]; exact hM.1, hM.2.1, fun w p a b c => by rw [h1 _ (by omega)]; exact hM.2.2 w p a b c⟩, h1 1 (by decide), h2⟩)
end SIG
