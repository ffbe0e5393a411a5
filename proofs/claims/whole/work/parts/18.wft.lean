/-! A town stays as it must be -/
section WFTS
variable {n : Nat} {T : Tw}
theorem hand_4 {a c q : Nat} (hne : ¬ a = c) : handT T a c 4 q = if q = c then nI a else if q = a then 9 else T 4 q := by
  unfold handT
  rw [u2_w (by decide)]
  by_cases h1 : q = c
  · subst h1; rw [u2_self, if_pos rfl]
  · rw [u2_ne (fun z => h1 z.2), if_neg h1]
    by_cases h2 : q = a
    · subst h2; rw [u2_self, if_pos rfl]
    · rw [u2_ne (fun z => h2 z.2), if_neg h2]
theorem hand_7 {a c q : Nat} : handT T a c 7 q = if q = a then 1 else T 7 q := by
  unfold handT
  by_cases h1 : q = a
  · subst h1; rw [u2_self, if_pos rfl]
  · rw [u2_ne (fun z => h1 z.2), u2_w (by decide), u2_w (by decide), if_neg h1]
theorem hand_w {a c w q : Nat} (h4 : ¬ w = 4) (h7 : ¬ w = 7) : handT T a c w q = T w q := by
  unfold handT
  rw [u2_w h7, u2_w h4, u2_w h4]
theorem nI_eq8 {a b : Nat} (ha : a < 8) (hb : b < 8) : nI a = nI b ↔ a = b := nI_eq (by omega) (by omega)
theorem WFT.hand {a c : Nat} (h : WFT n T) (ha : a < n) (hc : c < n) (hne : ¬ a = c) (ca : T 4 a = nI a) (cc : T 4 c = nI c) : WFT n (handT T a c) := by
  obtain ⟨hn, hM, hU, hV, hm⟩ := h
  have l0 : T 7 a = 0 ∧ T 7 c = 0 := by
    constructor
    · obtain ⟨m, m1, m2, m3⟩ := hM.2 a ha
      by_cases z : m = 0
      · rw [m2, z]; rfl
      · obtain ⟨r, -, -, -, r4, -⟩ := m3 z
        rw [ca] at r4; exact absurd r4 (nI_ne9 (by omega))
    · obtain ⟨m, m1, m2, m3⟩ := hM.2 c hc
      by_cases z : m = 0
      · rw [m2, z]; rfl
      · obtain ⟨r, -, -, -, r4, -⟩ := m3 z
        rw [cc] at r4; exact absurd r4 (nI_ne9 (by omega))
  refine ⟨hn, ⟨fun p hp => ⟨?_, by rw [hand_w (by decide) (by decide)]; exact (hM.1 p hp).2⟩, fun f hf => ?_⟩, ?_, ?_, fun p hp => by rw [hand_w (by decide) (by decide), hand_w (by decide) (by decide)]; exact hm p hp⟩
  · rw [hand_4 hne]
    by_cases h1 : p = c
    · rw [if_pos h1]; exact Or.inr ⟨a, ha, rfl⟩
    · rw [if_neg h1]
      by_cases h2 : p = a
      · rw [if_pos h2]; exact Or.inl rfl
      · rw [if_neg h2]; exact (hM.1 p hp).1
  · rw [hand_7]
    by_cases h1 : f = a
    · subst h1
      rw [if_pos rfl]
      refine ⟨1, by decide, rfl, fun _ => ⟨c, hc, fun z => hne z.symm, by rw [hand_4 hne, if_pos rfl], by rw [hand_4 hne, if_neg hne, if_pos rfl], fun q hq e => ?_⟩⟩
      rw [hand_4 hne] at e
      by_cases q1 : q = c
      · exact q1
      · rw [if_neg q1] at e
        by_cases q2 : q = f
        · rw [if_pos q2] at e; exact absurd e.symm (nI_ne9 (by omega))
        · rw [if_neg q2] at e
          exact absurd (hU q f f hq hf hf e ca) q2
    · rw [if_neg h1]
      obtain ⟨m, m1, m2, m3⟩ := hM.2 f hf
      refine ⟨m, m1, m2, fun hm0 => ?_⟩
      obtain ⟨r, r1, r2, r3, r4, r5⟩ := m3 hm0
      have hra : ¬ r = a := fun z => by rw [z, ca, nI_eq8 (by omega) (by omega)] at r3; exact h1 r3.symm
      have hrc : ¬ r = c := fun z => by
        rw [z, cc, nI_eq8 (by omega) (by omega)] at r3
        rw [← r3, cc] at r4; exact nI_ne9 (by omega) r4
      have hfc : ¬ f = c := fun z => by rw [z, cc] at r4; exact nI_ne9 (by omega) r4
      refine ⟨r, r1, r2, by rw [hand_4 hne, if_neg hrc, if_neg hra]; exact r3, by rw [hand_4 hne, if_neg hfc, if_neg h1]; exact r4, fun q hq e => ?_⟩
      rw [hand_4 hne] at e
      by_cases q1 : q = c
      · rw [if_pos q1, nI_eq8 (by omega) (by omega)] at e; exact absurd e.symm h1
      · rw [if_neg q1] at e
        by_cases q2 : q = a
        · rw [if_pos q2] at e; exact absurd e.symm (nI_ne9 (by omega))
        · rw [if_neg q2] at e; exact r5 q hq e
  · intro p q r hp hq hr e1 e2
    rw [hand_4 hne] at e1 e2
    have key : ∀ p, p < n → (if p = c then nI a else if p = a then 9 else T 4 p) = nI r → (p = c ∧ r = a) ∨ (¬ p = c ∧ ¬ p = a ∧ T 4 p = nI r ∧ ¬ r = a) := by
      intro p hp e
      by_cases p1 : p = c
      · rw [if_pos p1, nI_eq8 (by omega) (by omega)] at e; exact Or.inl ⟨p1, e.symm⟩
      · rw [if_neg p1] at e
        by_cases p2 : p = a
        · rw [if_pos p2] at e; exact absurd e.symm (nI_ne9 (by omega))
        · rw [if_neg p2] at e
          refine Or.inr ⟨p1, p2, e, fun z => ?_⟩
          rw [z] at e
          exact p2 (hU p a a hp ha ha e ca)
    rcases key p hp e1 with ⟨x1, x2⟩ | ⟨x1, x2, x3, x4⟩
    · rcases key q hq e2 with ⟨y1, y2⟩ | ⟨y1, y2, y3, y4⟩
      · rw [x1, y1]
      · exact absurd x2 y4
    · rcases key q hq e2 with ⟨y1, y2⟩ | ⟨y1, y2, y3, y4⟩
      · exact absurd y2 x4
      · exact hU p q r hp hq hr x3 y3
  · intro q r hq hr hqr e
    rw [hand_4 hne] at e ⊢
    by_cases q1 : q = c
    · rw [if_pos q1, nI_eq8 (by omega) (by omega)] at e
      subst e
      rw [if_neg hne, if_pos rfl]
    · rw [if_neg q1] at e
      by_cases q2 : q = a
      · rw [if_pos q2] at e; exact absurd e.symm (nI_ne9 (by omega))
      · rw [if_neg q2] at e
        have h9 := hV q r hq hr hqr e
        have hrc : ¬ r = c := fun z => by rw [z, cc] at h9; exact nI_ne9 (by omega) h9
        have hra : ¬ r = a := fun z => by rw [z, ca] at h9; exact nI_ne9 (by omega) h9
        rw [if_neg hrc, if_neg hra]; exact h9
theorem back_w {f w q : Nat} (h4 : ¬ w = 4) (h7 : ¬ w = 7) : backT n T f w q = T w q := by
  unfold backT
  rw [u2_w h7, u2_w h4]
  split
  · rfl
  · rw [u2_w h4]
theorem WFT.back {f : Nat} (h : WFT n T) (hf : f < n) (hl : ¬ T 7 f = 0) : WFT n (backT n T f) := by
  obtain ⟨hn, hM, hU, hV, hm⟩ := h
  obtain ⟨m, m1, m2, m3⟩ := hM.2 f hf
  obtain ⟨r, r1, r2, r3, r4, r5⟩ := m3 (fun z => hl (by rw [m2, z]; rfl))
  have hw := MW.wearer r1 r3 r5
  refine ⟨hn, hM.back hn hf hl, ?_, ?_, fun p hp => by rw [back_w (by decide) (by decide), back_w (by decide) (by decide)]; exact hm p hp⟩
  · have key : ∀ s, s < n → ∀ p, p < n → backT n T f 4 p = nI s → (p = f ∧ s = f) ∨ (p = r ∧ s = r) ∨ (¬ p = f ∧ ¬ p = r ∧ T 4 p = nI s ∧ ¬ s = f ∧ ¬ s = r) := by
      intro s hs p hp e
      rw [back_4 hn r1 hw] at e
      by_cases p1 : p = f
      · rw [if_pos p1, nI_eq8 (by omega) (by omega)] at e; exact Or.inl ⟨p1, e.symm⟩
      · rw [if_neg p1] at e
        by_cases p2 : p = r
        · rw [if_pos p2, nI_eq8 (by omega) (by omega)] at e; exact Or.inr (Or.inl ⟨p2, e.symm⟩)
        · rw [if_neg p2] at e
          refine Or.inr (Or.inr ⟨p1, p2, e, fun z => ?_, fun z => ?_⟩)
          · rw [z] at e; exact p2 (r5 p hp e)
          · rw [z] at e
            have := hV p r hp r1 p2 e
            rw [r3] at this; exact nI_ne9 (by omega) this
    intro p q s hp hq hs e1 e2
    rcases key s hs p hp e1 with ⟨x1, x2⟩ | ⟨x1, x2⟩ | ⟨x1, x2, x3, x4, x5⟩ <;> rcases key s hs q hq e2 with ⟨y1, y2⟩ | ⟨y1, y2⟩ | ⟨y1, y2, y3, y4, y5⟩
    · rw [x1, y1]
    · exact absurd (x2.symm.trans y2) (fun z => r2 z.symm)
    · exact absurd x2 y4
    · exact absurd (x2.symm.trans y2) r2
    · rw [x1, y1]
    · exact absurd x2 y5
    · exact absurd y2 x4
    · exact absurd y2 x5
    · exact hU p q s hp hq hs x3 y3
  · intro q s hq hs hqs e
    rw [back_4 hn r1 hw] at e ⊢
    by_cases p1 : q = f
    · rw [if_pos p1, nI_eq8 (by omega) (by omega)] at e; exact absurd (p1.trans e) hqs
    · rw [if_neg p1] at e
      by_cases p2 : q = r
      · rw [if_pos p2, nI_eq8 (by omega) (by omega)] at e; exact absurd (p2.trans e) hqs
      · rw [if_neg p2] at e
        have h9 := hV q s hq hs hqs e
        have hsf : ¬ s = f := fun z => by rw [z] at e; exact p2 (r5 q hq e)
        have hsr : ¬ s = r := fun z => by rw [z, r3] at h9; exact nI_ne9 (by omega) h9
        rw [if_neg hsf, if_neg hsr]; exact h9
theorem held_nI (v : Int32) : ∃ m, m < 100 ∧ held v = nI m := by
  unfold held
  by_cases h0 : v < 0
  · rw [if_pos h0]; exact ⟨0, by decide, rfl⟩
  · rw [if_neg h0]
    by_cases h9 : 99 < v
    · rw [if_pos h9]; exact ⟨99, by decide, rfl⟩
    · rw [if_neg h9]
      obtain ⟨j, hj, rfl⟩ := nI_of h0
      exact ⟨j, by
        have := (nI_leI hj (show 99 < 2 ^ 31 by decide)).mp (Int32.not_lt.mp h9)
        omega, rfl⟩
/-- other rows than worn and lent; kinds and marks within their bounds -/
theorem WFT.put {w f : Nat} {v : Int32} (h : WFT n T) (h4 : ¬ w = 4) (h7 : ¬ w = 7) (h1 : w = 1 → ∃ k, k < 6 ∧ v = nI k) (h5 : w = 5 ∨ w = 6 → ∃ m, m < 100 ∧ v = nI m) : WFT n (u2 T w f v) := by
  obtain ⟨hn, hM, hU, hV, hm⟩ := h
  have e4 : ∀ q, u2 T w f v 4 q = T 4 q := fun q => u2_w (fun z => h4 z.symm)
  have e7 : ∀ q, u2 T w f v 7 q = T 7 q := fun q => u2_w (fun z => h7 z.symm)
  have eo : ∀ k q, (∃ m, m < 100 ∧ T k q = nI m) → (k = 5 ∨ k = 6) → ∃ m, m < 100 ∧ u2 T w f v k q = nI m := by
    intro k q hk hk2
    by_cases z : k = w ∧ q = f
    · rw [z.1, z.2, u2_self]; exact h5 (by rw [← z.1]; exact hk2)
    · rw [u2_ne z]; exact hk
  refine ⟨hn, ⟨fun p hp => ⟨by rw [e4]; exact (hM.1 p hp).1, ?_⟩, fun g hg => ?_⟩, fun p q r a b c d e => hU p q r a b c (by rw [← e4]; exact d) (by rw [← e4]; exact e), fun q r a b c d => by rw [e4]; exact hV q r a b c (by rw [← e4]; exact d), fun p hp => ⟨eo 5 p (hm p hp).1 (Or.inl rfl), eo 6 p (hm p hp).2 (Or.inr rfl)⟩⟩
  · by_cases z : 1 = w ∧ p = f
    · rw [z.2]
      obtain ⟨k, k1, k2⟩ := h1 z.1.symm
      exact ⟨k, k1, by rw [← z.1, u2_self]; exact k2⟩
    · rw [u2_ne z]; exact (hM.1 p hp).2
  · obtain ⟨m, m1, m2, m3⟩ := hM.2 g hg
    refine ⟨m, m1, by rw [e7]; exact m2, fun hm0 => ?_⟩
    obtain ⟨r, r1, r2, r3, r4, r5⟩ := m3 hm0
    exact ⟨r, r1, r2, by rw [e4]; exact r3, by rw [e4]; exact r4, fun q hq e => r5 q hq (by rw [← e4]; exact e)⟩
theorem WFT.wear {p : Nat} (h : WFT n T) : WFT n (wear1 n T p) := by
  unfold wear1
  split
  · exact h
  · exact WFT.put (WFT.put h (by decide) (by decide) (fun z => absurd z (by decide)) (fun _ => held_nI _)) (by decide) (by decide) (fun z => absurd z (by decide)) (fun _ => held_nI _)
theorem WFT.lend {f : Nat} (h : WFT n T) (hf : f < n) : WFT n (lend1 n T f) := by
  have hM' := MW_lend1 h.1 h.2.1 hf
  unfold lend1 at hM' ⊢
  obtain ⟨m, m1, m2, m3⟩ := h.2.1.2 f hf
  obtain ⟨e1, e2, e3, e4⟩ := nI_12 m1
  by_cases c1 : 12 ≤ T 7 f
  · rw [if_pos c1]
    rw [m2, e1] at c1
    exact h.back hf (by rw [m2, e4]; omega)
  · rw [if_neg c1] at hM' ⊢
    by_cases c2 : 0 < T 7 f
    · rw [if_pos c2] at hM' ⊢
      obtain ⟨hn, hM, hU, hV, hm⟩ := h
      have e4 : ∀ v q, u2 T 7 f v 4 q = T 4 q := fun v q => u2_w (by decide)
      exact ⟨hn, hM', fun p q r a b c d e => hU p q r a b c (by rw [← e4]; exact d) (by rw [← e4]; exact e), fun q r a b c d => by rw [e4]; exact hV q r a b c (by rw [← e4]; exact d), fun p hp => by rw [u2_w (by decide), u2_w (by decide)]; exact hm p hp⟩
    · rw [if_neg c2]; exact h
theorem WFT.wears : ∀ (k i : Nat) (T : Tw), WFT n T → WFT n (wearF n k i T) := by
  intro k
  induction k with
  | zero => intro i T h; exact h
  | succ k ih => intro i T h; exact ih (i + 1) _ h.wear
theorem WFT.lendsF : ∀ (k i : Nat) (T : Tw), i + k ≤ n → WFT n T → WFT n (lendF n k i T) := by
  intro k
  induction k with
  | zero => intro i T _ h; exact h
  | succ k ih => intro i T hi h; exact ih (i + 1) _ (by omega) (h.lend (by omega))
theorem WFT.month (h : WFT n T) : WFT n (monthT n T) := WFT.lendsF n 0 _ (by omega) (WFT.wears n 0 T h)
theorem WFT.months : ∀ (k : Nat) (T : Tw), WFT n T → WFT n (monthsT n k T) := by
  intro k
  induction k with
  | zero => intro T h; exact h
  | succ k ih => intro T h; exact ih _ h.month
theorem WFT.add {kd : Nat} {fg : Int32} (h : WFT n T) (hn8 : n < 8) (hk : kd < 6) : WFT (n + 1) (addT n T (nI kd) fg) := by
  obtain ⟨hn, hM, hU, hV, hm⟩ := h
  have e4 : ∀ q, addT n T (nI kd) fg 4 q = if q = n then nI n else T 4 q := by
    intro q; unfold addT
    rw [u2_w (by decide), u2_w (by decide), u2_w (by decide)]
    by_cases z : q = n
    · subst z; rw [u2_self, if_pos rfl]
    · rw [u2_ne (fun y => z y.2), u2_w (by decide), u2_w (by decide), u2_w (by decide), if_neg z]
  have e7 : ∀ q, addT n T (nI kd) fg 7 q = if q = n then 0 else T 7 q := by
    intro q; unfold addT
    by_cases z : q = n
    · subst z; rw [u2_self, if_pos rfl]
    · rw [u2_ne (fun y => z y.2), u2_w (by decide), u2_w (by decide), u2_w (by decide), u2_w (by decide), u2_w (by decide), u2_w (by decide), if_neg z]
  have e1 : ∀ q, addT n T (nI kd) fg 1 q = if q = n then nI kd else T 1 q := by
    intro q; unfold addT
    rw [u2_w (by decide), u2_w (by decide), u2_w (by decide), u2_w (by decide), u2_w (by decide), u2_w (by decide)]
    by_cases z : q = n
    · subst z; rw [u2_self, if_pos rfl]
    · rw [u2_ne (fun y => z y.2), if_neg z]
  have e5 : ∀ q, addT n T (nI kd) fg 5 q = if q = n then 50 else T 5 q := by
    intro q; unfold addT
    rw [u2_w (by decide), u2_w (by decide)]
    by_cases z : q = n
    · subst z; rw [u2_self, if_pos rfl]
    · rw [u2_ne (fun y => z y.2), u2_w (by decide), u2_w (by decide), u2_w (by decide), u2_w (by decide), if_neg z]
  have e6 : ∀ q, addT n T (nI kd) fg 6 q = if q = n then 0 else T 6 q := by
    intro q; unfold addT
    rw [u2_w (by decide)]
    by_cases z : q = n
    · subst z; rw [u2_self, if_pos rfl]
    · rw [u2_ne (fun y => z y.2), u2_w (by decide), u2_w (by decide), u2_w (by decide), u2_w (by decide), u2_w (by decide), if_neg z]
  have lt : ∀ p r, p < n → T 4 p = nI r → r < 8 → r < n := by
    intro p r hp e hr
    rcases (hM.1 p hp).1 with z | ⟨q, hq, z⟩
    · rw [z] at e; exact absurd e.symm (nI_ne9 hr)
    · rw [z, nI_eq8 (by omega) hr] at e; omega
  refine ⟨by omega, ⟨fun p hp => ⟨?_, ?_⟩, fun f hf => ?_⟩, ?_, ?_, fun p hp => ⟨?_, ?_⟩⟩
  · rw [e4]
    by_cases z : p = n
    · rw [if_pos z]; exact Or.inr ⟨n, by omega, rfl⟩
    · rw [if_neg z]
      rcases (hM.1 p (by omega)).1 with y | ⟨q, hq, y⟩
      · exact Or.inl y
      · exact Or.inr ⟨q, by omega, y⟩
  · rw [e1]
    by_cases z : p = n
    · rw [if_pos z]; exact ⟨kd, hk, rfl⟩
    · rw [if_neg z]; exact (hM.1 p (by omega)).2
  · rw [e7]
    by_cases z : f = n
    · rw [if_pos z]; exact ⟨0, by decide, rfl, fun y => absurd rfl y⟩
    · rw [if_neg z]
      obtain ⟨m, m1, m2, m3⟩ := hM.2 f (by omega)
      refine ⟨m, m1, m2, fun hm0 => ?_⟩
      obtain ⟨r, r1, r2, r3, r4, r5⟩ := m3 hm0
      refine ⟨r, by omega, r2, by rw [e4, if_neg (by omega)]; exact r3, by rw [e4, if_neg z]; exact r4, fun q hq e => ?_⟩
      rw [e4] at e
      by_cases y : q = n
      · rw [if_pos y, nI_eq8 (by omega) (by omega)] at e; exact absurd e.symm z
      · rw [if_neg y] at e; exact r5 q (by omega) e
  · intro p q r hp hq hr a c
    rw [e4] at a c
    by_cases p1 : p = n
    · rw [if_pos p1, nI_eq8 (by omega) (by omega)] at a
      by_cases q1 : q = n
      · rw [p1, q1]
      · rw [if_neg q1] at c
        exact absurd (lt q r (by omega) c (by omega)) (by omega)
    · rw [if_neg p1] at a
      by_cases q1 : q = n
      · rw [if_pos q1, nI_eq8 (by omega) (by omega)] at c
        exact absurd (lt p r (by omega) a (by omega)) (by omega)
      · rw [if_neg q1] at c
        exact hU p q r (by omega) (by omega) (lt p r (by omega) a (by omega)) a c
  · intro q r hq hr hqr e
    rw [e4] at e ⊢
    by_cases q1 : q = n
    · rw [if_pos q1, nI_eq8 (by omega) (by omega)] at e; omega
    · rw [if_neg q1] at e
      have := lt q r (by omega) e (by omega)
      rw [if_neg (by omega)]
      exact hV q r (by omega) this hqr e
  · rw [e5]
    by_cases z : p = n
    · rw [if_pos z]; exact ⟨50, by decide, rfl⟩
    · rw [if_neg z]; exact (hm p (by omega)).1
  · rw [e6]
    by_cases z : p = n
    · rw [if_pos z]; exact ⟨0, by decide, rfl⟩
    · rw [if_neg z]; exact (hm p (by omega)).2
theorem WFT.vw (h : WFT n T) : VW n T := h.2.1.1
end WFTS
