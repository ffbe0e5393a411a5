/-! fewest: what two lendings do to a face, one of them does -/
section FEW
variable {x : zCx} {S : zSt} {σ σ' : Sig} {n f : Nat}
/-- alike as far as the face f is concerned -/
def Ag (n f : Nat) (A C : Tw) : Prop := (∀ p, A 1 p = C 1 p ∧ A 2 p = C 2 p ∧ A 3 p = C 3 p) ∧ A 5 f = C 5 f ∧ A 4 f = C 4 f ∧ A 7 f = C 7 f ∧ (∀ p, p < n → (A 4 p = nI f ↔ C 4 p = nI f)) ∧ ∀ g, g < n → A 4 f = nI g → A 7 g = C 7 g
theorem Ag.rf {A : Tw} : Ag n f A A := ⟨fun _ => ⟨rfl, rfl, rfl⟩, rfl, rfl, rfl, fun _ _ => Iff.rfl, fun _ _ _ => rfl⟩
theorem Ag.symm {A C : Tw} (h : Ag n f A C) : Ag n f C A := ⟨fun p => ⟨(h.1 p).1.symm, (h.1 p).2.1.symm, (h.1 p).2.2.symm⟩, h.2.1.symm, h.2.2.1.symm, h.2.2.2.1.symm, fun p hp => (h.2.2.2.2.1 p hp).symm, fun g hg e => (h.2.2.2.2.2 g hg (by rw [h.2.2.1]; exact e)).symm⟩
theorem Ag.trans {A C D : Tw} (h : Ag n f A C) (h' : Ag n f C D) : Ag n f A D := ⟨fun p => ⟨(h.1 p).1.trans (h'.1 p).1, (h.1 p).2.1.trans (h'.1 p).2.1, (h.1 p).2.2.trans (h'.1 p).2.2⟩, h.2.1.trans h'.2.1, h.2.2.1.trans h'.2.2.1, h.2.2.2.1.trans h'.2.2.2.1, fun p hp => (h.2.2.2.2.1 p hp).trans (h'.2.2.2.2.1 p hp), fun g hg e => (h.2.2.2.2.2 g hg e).trans (h'.2.2.2.2.2 g hg (by rw [← h.2.2.1]; exact e))⟩
theorem knowers_congr {A C : Tw} (h : ∀ p, A 3 p = C 3 p) (v : Int32) : knowers n A v = knowers n C v := by
  unfold knowers
  refine sF_congr n 0 0 (fun j _ _ => ?_)
  unfold kbit
  rw [h j]
theorem wear_other {A : Tw} {p : Nat} (hn : n ≤ 8) (hf : f < n) (h : WFT n A) (hp : p < n) (hne : ¬ A 4 p = nI f) : wear1 n A p 5 f = A 5 f := by
  unfold wear1
  split
  · rfl
  · rename_i h9
    rcases (h.2.1.1 p hp).1 with z | ⟨q, hq, z⟩
    · exact absurd z h9
    · rw [z, nI_clamp (by omega), u2_w (by decide), u2_ne]
      intro y
      exact hne (by rw [z, y.2])
theorem Ag.wear {A C : Tw} {p : Nat} (hn : n ≤ 8) (hf : f < n) (hA : WFT n A) (hC : WFT n C) (hp : p < n) (h : Ag n f A C) : Ag n f (wear1 n A p) (wear1 n C p) := by
  have k : ∀ (D : Tw) w q, ¬ w = 5 → ¬ w = 6 → wear1 n D p w q = D w q := fun D w q a b => wear1_w a b
  refine ⟨fun q => ⟨by rw [k _ _ _ (by decide) (by decide), k _ _ _ (by decide) (by decide)]; exact (h.1 q).1, by rw [k _ _ _ (by decide) (by decide), k _ _ _ (by decide) (by decide)]; exact (h.1 q).2.1, by rw [k _ _ _ (by decide) (by decide), k _ _ _ (by decide) (by decide)]; exact (h.1 q).2.2⟩, ?_, by rw [k _ _ _ (by decide) (by decide), k _ _ _ (by decide) (by decide)]; exact h.2.2.1, by rw [k _ _ _ (by decide) (by decide), k _ _ _ (by decide) (by decide)]; exact h.2.2.2.1, fun q hq => by rw [k _ _ _ (by decide) (by decide), k _ _ _ (by decide) (by decide)]; exact h.2.2.2.2.1 q hq, fun g hg e => by rw [k _ _ _ (by decide) (by decide), k _ _ _ (by decide) (by decide)]; rw [k _ _ _ (by decide) (by decide)] at e; exact h.2.2.2.2.2 g hg e⟩
  by_cases e : A 4 p = nI f
  · have e2 := (h.2.2.2.2.1 p hp).mp e
    unfold wear1
    rw [if_neg (by rw [e]; exact nI_ne9 (by omega)), if_neg (by rw [e2]; exact nI_ne9 (by omega)), e, e2, nI_clamp (by omega), u2_w (a := 6) (by decide), u2_w (a := 6) (by decide), u2_self, u2_self, h.2.1, (h.1 p).1, (h.1 p).2.1, knowers_congr (fun q => (h.1 q).2.2)]
  · rw [wear_other hn hf hA hp e, wear_other hn hf hC hp (fun z => e ((h.2.2.2.2.1 p hp).mpr z))]
    exact h.2.1
/-- another face's going on is nothing to f -/
theorem Ag.aside {A : Tw} {g : Nat} (hn : n ≤ 8) (hf : f < n) (hA : WFT n A) (hg : g < n) (hne : ¬ g = f) (hw : ¬ A 4 f = nI g) : Ag n f (lend1 n A g) A := by
  obtain ⟨m, m1, m2, m3⟩ := hA.2.1.2 g hg
  obtain ⟨e1, e2, e3, e4⟩ := nI_12 m1
  unfold lend1
  by_cases c1 : 12 ≤ A 7 g
  · rw [if_pos c1]
    rw [m2, e1] at c1
    obtain ⟨r, r1, r2, r3, r4, r5⟩ := m3 (by omega)
    have hwr := MW.wearer r1 r3 r5
    have hrf : ¬ r = f := fun z => hw (by rw [← z]; exact r3)
    have k : ∀ w q, ¬ w = 4 → ¬ w = 7 → backT n A g w q = A w q := fun w q a b => back_w a b
    refine ⟨fun q => ⟨k _ _ (by decide) (by decide), k _ _ (by decide) (by decide), k _ _ (by decide) (by decide)⟩, k _ _ (by decide) (by decide), ?_, ?_, fun q hq => ?_, fun h hh e => ?_⟩
    · rw [back_4 hn r1 hwr, if_neg (fun z => hne z.symm), if_neg (fun z => hrf z.symm)]
    · rw [back_7, if_neg (fun z => hne z.symm)]
    · rw [back_4 hn r1 hwr]
      by_cases q1 : q = g
      · rw [if_pos q1, q1, r4, nI_eq8 (by omega) (by omega)]
        exact ⟨fun z => absurd z hne, fun z => absurd z.symm (nI_ne9 (by omega))⟩
      · rw [if_neg q1]
        by_cases q2 : q = r
        · rw [if_pos q2, q2, r3, nI_eq8 (by omega) (by omega), nI_eq8 (by omega) (by omega)]
          exact ⟨fun z => absurd z hrf, fun z => absurd z hne⟩
        · rw [if_neg q2]
    · rw [back_4 hn r1 hwr, if_neg (fun z => hne z.symm), if_neg (fun z => hrf z.symm)] at e
      rw [back_7, if_neg (fun z => hw (by rw [← z]; exact e))]
  · rw [if_neg c1]
    by_cases c2 : 0 < A 7 g
    · rw [if_pos c2]
      refine ⟨fun q => ⟨u2_w (by decide), u2_w (by decide), u2_w (by decide)⟩, u2_w (by decide), u2_w (by decide), u2_ne (fun z => hne z.2.symm), fun q hq => by rw [u2_w (by decide)], fun h hh e => ?_⟩
      rw [u2_w (by decide)] at e
      exact u2_ne (fun z => hw (by rw [← z.2]; exact e))
    · rw [if_neg c2]; exact Ag.rf
theorem Ag.lend {A C : Tw} {g : Nat} (hn : n ≤ 8) (hf : f < n) (hA : WFT n A) (hC : WFT n C) (hg : g < n) (h : Ag n f A C) : Ag n f (lend1 n A g) (lend1 n C g) := by
  by_cases hgf : g = f ∨ A 4 f = nI g
  · -- the same happens on both sides
    have h7 : A 7 g = C 7 g := by
      rcases hgf with z | z
      · rw [z]; exact h.2.2.2.1
      · exact h.2.2.2.2.2 g hg z
    unfold lend1
    rw [← h7]
    by_cases c1 : 12 ≤ A 7 g
    · rw [if_pos c1, if_pos c1]
      obtain ⟨m, m1, m2, m3⟩ := hA.2.1.2 g hg
      obtain ⟨m', m1', m2', m3'⟩ := hC.2.1.2 g hg
      obtain ⟨e1, e2, e3, e4⟩ := nI_12 m1
      have hm : m = 12 := by rw [m2, e1] at c1; exact c1
      have hm' : m' = 12 := by rw [m2, m2', nI_eq (by omega) (by omega)] at h7; omega
      obtain ⟨r, r1, r2, r3, r4, r5⟩ := m3 (by omega)
      obtain ⟨r', r1', r2', r3', r4', r5'⟩ := m3' (by omega)
      have hwr := MW.wearer r1 r3 r5
      have hwr' := MW.wearer r1' r3' r5'
      have hrr : r = r' := by
        rcases hgf with z | z
        · subst z; exact r5' r r1 ((h.2.2.2.2.1 r r1).mp r3)
        · have z2 : C 4 f = nI g := by rw [← h.2.2.1]; exact z
          rw [← r5 f hf z, ← r5' f hf z2]
      subst hrr
      have k : ∀ (D : Tw) w q, ¬ w = 4 → ¬ w = 7 → backT n D g w q = D w q := fun D w q a b => back_w a b
      refine ⟨fun q => ⟨by rw [k _ _ _ (by decide) (by decide), k _ _ _ (by decide) (by decide)]; exact (h.1 q).1, by rw [k _ _ _ (by decide) (by decide), k _ _ _ (by decide) (by decide)]; exact (h.1 q).2.1, by rw [k _ _ _ (by decide) (by decide), k _ _ _ (by decide) (by decide)]; exact (h.1 q).2.2⟩, by rw [k _ _ _ (by decide) (by decide), k _ _ _ (by decide) (by decide)]; exact h.2.1, ?_, ?_, fun q hq => ?_, fun g' hg' e => ?_⟩
      · rw [back_4 hn r1 hwr, back_4 hn r1 hwr', h.2.2.1]
      · rw [back_7, back_7, h.2.2.2.1]
      · rw [back_4 hn r1 hwr, back_4 hn r1 hwr']
        by_cases q1 : q = g
        · rw [if_pos q1, if_pos q1]
        · rw [if_neg q1, if_neg q1]
          by_cases q2 : q = r
          · rw [if_pos q2, if_pos q2]
          · rw [if_neg q2, if_neg q2]; exact h.2.2.2.2.1 q hq
      · rw [back_4 hn r1 hwr] at e
        rw [back_7, back_7]
        by_cases q1 : g' = g
        · rw [if_pos q1, if_pos q1]
        · rw [if_neg q1, if_neg q1]
          by_cases q2 : f = g
          · rw [if_pos q2, nI_eq8 (by omega) (by omega)] at e; exact absurd e.symm q1
          · rw [if_neg q2] at e
            by_cases q3 : f = r
            · rw [if_pos q3, nI_eq8 (by omega) (by omega)] at e
              rw [← e, ← q3]; exact h.2.2.2.1
            · rw [if_neg q3] at e; exact h.2.2.2.2.2 g' hg' e
    · rw [if_neg c1, if_neg c1]
      by_cases c2 : 0 < A 7 g
      · rw [if_pos c2, if_pos c2]
        refine ⟨fun q => ⟨by rw [u2_w (by decide), u2_w (by decide)]; exact (h.1 q).1, by rw [u2_w (by decide), u2_w (by decide)]; exact (h.1 q).2.1, by rw [u2_w (by decide), u2_w (by decide)]; exact (h.1 q).2.2⟩, by rw [u2_w (by decide), u2_w (by decide)]; exact h.2.1, by rw [u2_w (by decide), u2_w (by decide)]; exact h.2.2.1, ?_, fun q hq => by rw [u2_w (by decide), u2_w (by decide)]; exact h.2.2.2.2.1 q hq, fun g' hg' e => ?_⟩
        · unfold u2; split; rfl; exact h.2.2.2.1
        · rw [u2_w (by decide)] at e
          unfold u2; split; rfl; exact h.2.2.2.2.2 g' hg' e
      · rw [if_neg c2, if_neg c2]; exact h
  · have g1 : ¬ g = f := fun z => hgf (Or.inl z)
    have g2 : ¬ A 4 f = nI g := fun z => hgf (Or.inr z)
    have g3 : ¬ C 4 f = nI g := fun z => g2 (by rw [h.2.2.1]; exact z)
    exact ((Ag.aside hn hf hA hg g1 g2).trans h).trans (Ag.aside hn hf hC hg g1 g3).symm
theorem Ag.wears (hf : f < n) : ∀ (k i : Nat) (A C : Tw), i + k ≤ n → WFT n A → WFT n C → Ag n f A C → Ag n f (wearF n k i A) (wearF n k i C) := by
  intro k
  induction k with
  | zero => intro i A C _ _ _ h; exact h
  | succ k ih => intro i A C hi hA hC h; exact ih (i + 1) _ _ (by omega) hA.wear hC.wear (h.wear hA.1 hf hA hC (by omega))
theorem Ag.lendsF (hf : f < n) : ∀ (k i : Nat) (A C : Tw), i + k ≤ n → WFT n A → WFT n C → Ag n f A C → Ag n f (lendF n k i A) (lendF n k i C) := by
  intro k
  induction k with
  | zero => intro i A C _ _ _ h; exact h
  | succ k ih => intro i A C hi hA hC h; exact ih (i + 1) _ _ (by omega) (hA.lend (by omega)) (hC.lend (by omega)) (h.lend hA.1 hf hA hC (by omega))
theorem Ag.months (hf : f < n) : ∀ (k : Nat) (A C : Tw), WFT n A → WFT n C → Ag n f A C → Ag n f (monthsT n k A) (monthsT n k C) := by
  intro k
  induction k with
  | zero => intro A C _ _ h; exact h
  | succ k ih => intro A C hA hC h; exact ih _ _ hA.month hC.month (Ag.lendsF hf n 0 _ _ (by omega) (WFT.wears n 0 _ hA) (WFT.wears n 0 _ hC) (Ag.wears hf n 0 _ _ (by omega) hA hC h))
theorem Ag.hand {A : Tw} {a c : Nat} (hf : f < n) (hA : WFT n A) (ha : a < n) (hc : c < n) (hb : canB A a c = true) (fa : ¬ f = a) (fc : ¬ f = c) : Ag n f (handT A a c) A := by
  obtain ⟨h1, h2, h3⟩ := of_decide_eq_true hb
  have hn := hA.1
  refine ⟨fun q => ⟨hand_w (by decide) (by decide), hand_w (by decide) (by decide), hand_w (by decide) (by decide)⟩, hand_w (by decide) (by decide), by rw [hand_4 h1, if_neg fc, if_neg fa], by rw [hand_7, if_neg fa], fun q hq => ?_, fun g hg e => ?_⟩
  · rw [hand_4 h1]
    by_cases q1 : q = c
    · rw [if_pos q1, q1, h3, nI_eq8 (by omega) (by omega), nI_eq8 (by omega) (by omega)]
      exact ⟨fun z => absurd z.symm fa, fun z => absurd z.symm fc⟩
    · rw [if_neg q1]
      by_cases q2 : q = a
      · rw [if_pos q2, q2, h2, nI_eq8 (by omega) (by omega)]
        exact ⟨fun z => absurd z.symm (nI_ne9 (by omega)), fun z => absurd z.symm fa⟩
      · rw [if_neg q2]
  · rw [hand_4 h1, if_neg fc, if_neg fa] at e
    rw [hand_7, if_neg]
    intro z
    rw [z] at e
    exact fa (hA.2.2.1 f a a hf ha ha e h2)
def famB (n : Nat) (T : Tw) (f : Nat) (v : Int32) : Bool := decide (v ≤ monthsT n 12 T 5 f)
theorem famB_hand {A : Tw} {a c : Nat} {v : Int32} (hf : f < n) (hA : WFT n A) (ha : a < n) (hc : c < n) (hb : canB A a c = true) (fa : ¬ f = a) (fc : ¬ f = c) : famB n (handT A a c) f v = famB n A f v := by
  unfold famB
  rw [(Ag.months hf 12 _ _ (hA.handB ha hc hb) hA (Ag.hand hf hA ha hc hb fa fc)).2.1]
theorem hand_comm {A : Tw} {a c p q : Nat} (h1 : ¬ a = c) (h2 : ¬ p = q) (ap : ¬ a = p) (aq : ¬ a = q) (cp : ¬ c = p) (cq : ¬ c = q) : handT (handT A a c) p q = handT (handT A p q) a c := by
  funext w s
  by_cases w4 : w = 4
  · subst w4
    rw [hand_4 h2, hand_4 h1, hand_4 h1, hand_4 h2]
    by_cases s1 : s = q
    · subst s1; simp [fun z => cq (Eq.symm z), fun z => aq (Eq.symm z), cq, aq, Ne.symm cq, Ne.symm aq]
    · by_cases s2 : s = p
      · subst s2; simp [s1, Ne.symm cp, Ne.symm ap]
      · simp [s1, s2]
  · by_cases w7 : w = 7
    · subst w7
      rw [hand_7, hand_7, hand_7, hand_7]
      by_cases s1 : s = p
      · subst s1; simp [Ne.symm ap]
      · simp [s1]
    · rw [hand_w w4 w7, hand_w w4 w7, hand_w w4 w7, hand_w w4 w7]
/-- what two lendings bring, one does -/
theorem two_few {A : Tw} {a c p q : Nat} {v : Int32} (hf : f < n) (hA : WFT n A) (ha : a < n) (hc : c < n) (hb : canB A a c = true) (hp : p < n) (hq : q < n) (hb2 : canB (handT A a c) p q = true) (hv : famB n (handT (handT A a c) p q) f v = true) : famB n (handT A a c) f v = true ∨ (canB A p q = true ∧ famB n (handT A p q) f v = true) := by
  obtain ⟨h1, h2, h3⟩ := of_decide_eq_true hb
  obtain ⟨g1, g2, g3⟩ := of_decide_eq_true hb2
  have hn := hA.1
  have key : ∀ s, s < n → handT A a c 4 s = nI s → ¬ s = a ∧ ¬ s = c ∧ A 4 s = nI s := by
    intro s hs e
    rw [hand_4 h1] at e
    by_cases s1 : s = c
    · rw [if_pos s1, s1, nI_eq8 (by omega) (by omega)] at e; exact absurd e h1
    · rw [if_neg s1] at e
      by_cases s2 : s = a
      · rw [if_pos s2] at e; exact absurd e.symm (nI_ne9 (by omega))
      · rw [if_neg s2] at e; exact ⟨s2, s1, e⟩
  obtain ⟨p1, p2, p3⟩ := key p hp g2
  obtain ⟨q1, q2, q3⟩ := key q hq g3
  by_cases hfp : f = p ∨ f = q
  · right
    have hb3 : canB A p q = true := decide_eq_true ⟨g1, p3, q3⟩
    refine ⟨hb3, ?_⟩
    rw [hand_comm h1 g1 (fun z => p1 z.symm) (fun z => q1 z.symm) (fun z => p2 z.symm) (fun z => q2 z.symm)] at hv
    have fa : ¬ f = a := fun z => by rcases hfp with y | y; exact p1 (y.symm.trans z); exact q1 (y.symm.trans z)
    have fc : ¬ f = c := fun z => by rcases hfp with y | y; exact p2 (y.symm.trans z); exact q2 (y.symm.trans z)
    have hb4 : canB (handT A p q) a c = true := decide_eq_true ⟨h1, by rw [hand_4 g1, if_neg (fun z => q1 z.symm), if_neg (fun z => p1 z.symm)]; exact h2, by rw [hand_4 g1, if_neg (fun z => q2 z.symm), if_neg (fun z => p2 z.symm)]; exact h3⟩
    rw [famB_hand hf (hA.handB hp hq hb3) ha hc hb4 fa fc] at hv
    exact hv
  · left
    rw [famB_hand hf (hA.handB ha hc hb) hp hq hb2 (fun z => hfp (Or.inl z)) (fun z => hfp (Or.inr z))] at hv
    exact hv
def anyF (P : Nat → Bool) : Nat → Nat → Bool
  | 0, _ => false
  | k + 1, i => if P i = true then true else anyF P k (i + 1)
def flF (P : Nat → Nat → Bool) (n : Nat) : Nat → Nat → Int32
  | 0, _ => -9
  | k + 1, a => if anyF (P a) n 0 = true then nI a else flF P n k (a + 1)
theorem anyF_true {P : Nat → Bool} : ∀ (k i : Nat), anyF P k i = true → ∃ j, i ≤ j ∧ j < i + k ∧ P j = true := by
  intro k
  induction k with
  | zero => intro i h; cases h
  | succ k ih =>
    intro i h
    unfold anyF at h
    by_cases e : P i = true
    · exact ⟨i, Nat.le_refl _, by omega, e⟩
    · rw [if_neg e] at h
      obtain ⟨j, a, b, c⟩ := ih (i + 1) h
      exact ⟨j, by omega, by omega, c⟩
theorem anyF_of {P : Nat → Bool} {j : Nat} (hj : P j = true) : ∀ (k i : Nat), i ≤ j → j < i + k → anyF P k i = true := by
  intro k
  induction k with
  | zero => intro i a b; omega
  | succ k ih =>
    intro i a b
    unfold anyF
    by_cases e : P i = true
    · rw [if_pos e]
    · rw [if_neg e]
      have : ¬ i = j := fun z => e (by rw [z]; exact hj)
      exact ih (i + 1) (by omega) (by omega)
theorem flF_none {P : Nat → Nat → Bool} : ∀ (k a : Nat), (∀ i, a ≤ i → i < a + k → ¬ anyF (P i) n 0 = true) → flF P n k a = -9 := by
  intro k
  induction k with
  | zero => intro a _; rfl
  | succ k ih =>
    intro a h
    unfold flF
    rw [if_neg (h a (Nat.le_refl _) (by omega))]
    exact ih (a + 1) (fun i x y => h i (by omega) (by omega))
theorem flF_cases {P : Nat → Nat → Bool} : ∀ (k a : Nat), (flF P n k a = -9 ∧ ∀ i, a ≤ i → i < a + k → ¬ anyF (P i) n 0 = true) ∨ ∃ i, i < a + k ∧ flF P n k a = nI i := by
  intro k
  induction k with
  | zero => intro a; exact Or.inl ⟨rfl, fun i h1 h2 => by omega⟩
  | succ k ih =>
    intro a
    unfold flF
    by_cases e : anyF (P a) n 0 = true
    · rw [if_pos e]; exact Or.inr ⟨a, by omega, rfl⟩
    · rw [if_neg e]
      rcases ih (a + 1) with ⟨h1, h2⟩ | ⟨i, h1, h2⟩
      · refine Or.inl ⟨h1, fun i x y => ?_⟩
        by_cases z : i = a
        · rw [z]; exact e
        · exact h2 i (by omega) (by omega)
      · exact Or.inr ⟨i, by omega, h2⟩
def few1 (n : Nat) (T : Tw) (f : Nat) (v : Int32) (a c : Nat) : Bool := canB T a c && famB n (handT T a c) f v
def few2 (n : Nat) (T : Tw) (f : Nat) (v : Int32) (a c : Nat) : Bool := canB T a c && anyF (fun p => anyF (few1 n (handT T a c) f v p) n 0) n 0
theorem few_none {T : Tw} {v : Int32} (hf : f < n) (hT : WFT n T) (h : flF (few1 n T f v) n n 0 = -9) : flF (few2 n T f v) n n 0 = -9 := by
  have hn := hT.1
  have no : ∀ a c, a < n → c < n → ¬ few1 n T f v a c = true := by
    intro a c ha hc e
    rcases flF_cases (n := n) (P := few1 n T f v) n 0 with ⟨-, h2⟩ | ⟨i, h1, h2⟩
    · exact h2 a (Nat.zero_le a) (by omega) (anyF_of e n 0 (Nat.zero_le c) (by omega))
    · rw [h] at h2; exact absurd h2.symm (nI_neN (by omega))
  refine flF_none n 0 (fun a _ ha e => ?_)
  obtain ⟨c, -, hc, e1⟩ := anyF_true n 0 e
  unfold few2 at e1
  obtain ⟨hb, e2⟩ := (Bool.and_eq_true _ _).mp e1
  obtain ⟨p, -, hp, e3⟩ := anyF_true n 0 e2
  obtain ⟨q, -, hq, e4⟩ := anyF_true n 0 e3
  unfold few1 at e4
  obtain ⟨hb2, hv⟩ := (Bool.and_eq_true _ _).mp e4
  rcases two_few hf hT (by omega) (by omega) hb (by omega) (by omega) hb2 hv with z | ⟨z1, z2⟩
  · exact no a c (by omega) (by omega) (by unfold few1; rw [hb, z]; rfl)
  · exact no p q (by omega) (by omega) (by unfold few1; rw [z1, z2]; rfl)

set_option maxRecDepth 100000 in
set_option maxHeartbeats 4000000 in
theorem l1_X8_firstLender (hW : WS σ) {v : Int32} {a : Nat} (hf : f < sN σ) (ha : a < sN σ) {post : Option Value → zSt → Prop} (hy : ∀ S', RepC σ S' → anyF (few1 (sN σ) (sT σ) f v a) (sN σ) 0 = true → post (some (.int (nI a))) S') (hn : ∀ S', RepC σ S' → anyF (few1 (sN σ) (sT σ) f v a) (sN σ) 0 = false → zZ x true mX8_firstLenderBringing post 71 [(0, .ref (zad x 0)), (1, .int (nI f)), (2, .int v), (3, .int (nI a))] [] S') : ∀ (k b : Nat) (S : zSt), b + k = sN σ → RepC σ S → anyF (few1 (sN σ) (sT σ) f v a) (sN σ) 0 = anyF (few1 (sN σ) (sT σ) f v a) k b → zZ x true mX8_firstLenderBringing post 16 [(0, .ref (zad x 0)), (1, .int (nI f)), (2, .int v), (3, .int (nI a)), (4, .int (nI b))] [] S := by
  intro k
  induction k with
  | zero =>
    intro b S hb hR hr
    have hT := hR.1
    have hn8 : sN σ ≤ 8 := hT.2.1
    refine ziload dX8_firstLenderBringing_16 rfl ?_
    refine zaload_n dX8_firstLenderBringing_18 rfl ?_
    refine gf_X8_30 rfl dX8_firstLenderBringing_19 ?_
    refine gf_X8_192 (t := 0) (by decide) rfl dX8_firstLenderBringing_22 ?_
    rw [hT.1]
    refine zicmp_ge (tgt := 71) dX8_firstLenderBringing_25 (by decide) (fun _ => ?_) (fun h => absurd (nI_le (by omega) (by omega)) h)
    refine zlvs (lv' := [(0, .ref (zad x 0)), (1, .int (nI f)), (2, .int v), (3, .int (nI a))]) ⟨rfl, rfl, rfl, rfl, trivial⟩ ?_
    exact hn S hR hr
  | succ k ih =>
    intro b S hb hR hr
    have hT := hR.1
    have hn8 : sN σ ≤ 8 := hT.2.1
    rw [show anyF (few1 (sN σ) (sT σ) f v a) (k + 1) b = if few1 (sN σ) (sT σ) f v a b = true then true else anyF (few1 (sN σ) (sT σ) f v a) k (b + 1) from rfl] at hr
    cases hc : canB (sT σ) a b with
    | true =>
      by_cases hv : v ≤ monthsT (sN σ) 12 (handT (sT σ) a b) 5 f
      · have he : few1 (sN σ) (sT σ) f v a b = true := by unfold few1 famB; rw [hc, decide_eq_true hv]; rfl
        rw [if_pos he] at hr
        refine ziload dX8_firstLenderBringing_16 rfl ?_
        refine zaload_n dX8_firstLenderBringing_18 rfl ?_
        refine gf_X8_30 rfl dX8_firstLenderBringing_19 ?_
        refine gf_X8_192 (t := 0) (by decide) rfl dX8_firstLenderBringing_22 ?_
        rw [hT.1]
        refine zicmp_ge (tgt := 71) dX8_firstLenderBringing_25 (by decide) (fun h => absurd h (nI_ge (by omega) (by omega))) (fun _ => ?_)
        refine zaload_n dX8_firstLenderBringing_28 rfl ?_
        refine gf_X8_30 rfl dX8_firstLenderBringing_29 ?_
        refine ziload_n dX8_firstLenderBringing_32 rfl ?_
        refine ziload dX8_firstLenderBringing_33 rfl ?_
        refine zcVf (ob_town (t := 0) (by decide)) gk_X8_130 dX8_firstLenderBringing_35 (show zF x true mX7_canLend _ S (some (.int (bI (canB (sT σ) a b)))) S from c_X7_canLend (by decide) hT ha (by omega)) rfl (by decide) (Nat.le_of_ble_eq_true rfl) ?_ rfl
        refine zifb_eq (tgt := 65) dX8_firstLenderBringing_38 (by decide) (fun h => absurd (h.symm.trans hc) (by decide)) (fun _ => ?_)
        refine zaload_n dX8_firstLenderBringing_41 rfl ?_
        refine ziload_n dX8_firstLenderBringing_42 rfl ?_
        refine ziload dX8_firstLenderBringing_43 rfl ?_
        refine zbipush (v := nI 12) dX8_firstLenderBringing_45 (by decide) ?_
        refine zcVn ob_X gk_X8_214 dX8_firstLenderBringing_47 (c_X8_thinkOfLending (a := a) (c := b) hT (hW.1.handB ha (by omega) hc).vw ha (by omega) (K := 12) (by decide)) rfl (by decide) (Nat.le_of_ble_eq_true rfl) (fun S2 hp2 => ?_) rfl
        obtain ⟨hT2, hf2⟩ := hp2
        have hR2 := hR.mind hf2
        refine zaload_n dX8_firstLenderBringing_50 rfl ?_
        refine gf_X8_36 rfl dX8_firstLenderBringing_51 ?_
        refine gf_X8_157 (t := 1) (by decide) rfl dX8_firstLenderBringing_54 ?_
        refine ziload_n dX8_firstLenderBringing_57 rfl ?_
        refine zialT (t := 1) (w := 5) dX8_firstLenderBringing_58 (by decide) hT2 (by decide) (by decide) (by omega) ?_
        refine ziload_n dX8_firstLenderBringing_59 rfl ?_
        refine zicmp_lt (tgt := 65) dX8_firstLenderBringing_60 (by decide) (fun h => absurd h (Int32.not_lt.mpr hv)) (fun _ => ?_)
        refine ziload_n dX8_firstLenderBringing_63 rfl ?_
        exact zireturn dX8_firstLenderBringing_64 rfl rfl (hy S2 hR2 hr)
      · have he : ¬ few1 (sN σ) (sT σ) f v a b = true := by unfold few1 famB; rw [decide_eq_false hv, Bool.and_false]; decide
        rw [if_neg he] at hr
        refine ziload dX8_firstLenderBringing_16 rfl ?_
        refine zaload_n dX8_firstLenderBringing_18 rfl ?_
        refine gf_X8_30 rfl dX8_firstLenderBringing_19 ?_
        refine gf_X8_192 (t := 0) (by decide) rfl dX8_firstLenderBringing_22 ?_
        rw [hT.1]
        refine zicmp_ge (tgt := 71) dX8_firstLenderBringing_25 (by decide) (fun h => absurd h (nI_ge (by omega) (by omega))) (fun _ => ?_)
        refine zaload_n dX8_firstLenderBringing_28 rfl ?_
        refine gf_X8_30 rfl dX8_firstLenderBringing_29 ?_
        refine ziload_n dX8_firstLenderBringing_32 rfl ?_
        refine ziload dX8_firstLenderBringing_33 rfl ?_
        refine zcVf (ob_town (t := 0) (by decide)) gk_X8_130 dX8_firstLenderBringing_35 (show zF x true mX7_canLend _ S (some (.int (bI (canB (sT σ) a b)))) S from c_X7_canLend (by decide) hT ha (by omega)) rfl (by decide) (Nat.le_of_ble_eq_true rfl) ?_ rfl
        refine zifb_eq (tgt := 65) dX8_firstLenderBringing_38 (by decide) (fun h => absurd (h.symm.trans hc) (by decide)) (fun _ => ?_)
        refine zaload_n dX8_firstLenderBringing_41 rfl ?_
        refine ziload_n dX8_firstLenderBringing_42 rfl ?_
        refine ziload dX8_firstLenderBringing_43 rfl ?_
        refine zbipush (v := nI 12) dX8_firstLenderBringing_45 (by decide) ?_
        refine zcVn ob_X gk_X8_214 dX8_firstLenderBringing_47 (c_X8_thinkOfLending (a := a) (c := b) hT (hW.1.handB ha (by omega) hc).vw ha (by omega) (K := 12) (by decide)) rfl (by decide) (Nat.le_of_ble_eq_true rfl) (fun S2 hp2 => ?_) rfl
        obtain ⟨hT2, hf2⟩ := hp2
        have hR2 := hR.mind hf2
        refine zaload_n dX8_firstLenderBringing_50 rfl ?_
        refine gf_X8_36 rfl dX8_firstLenderBringing_51 ?_
        refine gf_X8_157 (t := 1) (by decide) rfl dX8_firstLenderBringing_54 ?_
        refine ziload_n dX8_firstLenderBringing_57 rfl ?_
        refine zialT (t := 1) (w := 5) dX8_firstLenderBringing_58 (by decide) hT2 (by decide) (by decide) (by omega) ?_
        refine ziload_n dX8_firstLenderBringing_59 rfl ?_
        refine zicmp_lt (tgt := 65) dX8_firstLenderBringing_60 (by decide) (fun _ => ?_) (fun h => absurd (Int32.not_le.mp hv) h)
        refine ziinc dX8_firstLenderBringing_65 rfl rfl (by decide) rfl ?_
        refine zgoto (tgt := 16) dX8_firstLenderBringing_68 (by decide) ?_
        refine zlvs (lv' := [(0, .ref (zad x 0)), (1, .int (nI f)), (2, .int v), (3, .int (nI a)), (4, .int (nI (b + 1)))]) ⟨rfl, rfl, rfl, rfl, by rw [nI_succ b]; rfl, trivial⟩ ?_
        exact ih (b + 1) S2 (by omega) hR2 hr
    | false =>
      have he : ¬ few1 (sN σ) (sT σ) f v a b = true := by unfold few1; rw [hc, Bool.false_and]; decide
      rw [if_neg he] at hr
      refine ziload dX8_firstLenderBringing_16 rfl ?_
      refine zaload_n dX8_firstLenderBringing_18 rfl ?_
      refine gf_X8_30 rfl dX8_firstLenderBringing_19 ?_
      refine gf_X8_192 (t := 0) (by decide) rfl dX8_firstLenderBringing_22 ?_
      rw [hT.1]
      refine zicmp_ge (tgt := 71) dX8_firstLenderBringing_25 (by decide) (fun h => absurd h (nI_ge (by omega) (by omega))) (fun _ => ?_)
      refine zaload_n dX8_firstLenderBringing_28 rfl ?_
      refine gf_X8_30 rfl dX8_firstLenderBringing_29 ?_
      refine ziload_n dX8_firstLenderBringing_32 rfl ?_
      refine ziload dX8_firstLenderBringing_33 rfl ?_
      refine zcVf (ob_town (t := 0) (by decide)) gk_X8_130 dX8_firstLenderBringing_35 (show zF x true mX7_canLend _ S (some (.int (bI (canB (sT σ) a b)))) S from c_X7_canLend (by decide) hT ha (by omega)) rfl (by decide) (Nat.le_of_ble_eq_true rfl) ?_ rfl
      refine zifb_eq (tgt := 65) dX8_firstLenderBringing_38 (by decide) (fun _ => ?_) (fun h => absurd (h.symm.trans hc) (by decide))
      refine ziinc dX8_firstLenderBringing_65 rfl rfl (by decide) rfl ?_
      refine zgoto (tgt := 16) dX8_firstLenderBringing_68 (by decide) ?_
      refine zlvs (lv' := [(0, .ref (zad x 0)), (1, .int (nI f)), (2, .int v), (3, .int (nI a)), (4, .int (nI (b + 1)))]) ⟨rfl, rfl, rfl, rfl, by rw [nI_succ b]; rfl, trivial⟩ ?_
      exact ih (b + 1) S (by omega) hR hr
set_option maxRecDepth 100000 in
set_option maxHeartbeats 4000000 in
theorem l_X8_firstLender (hW : WS σ) {v : Int32} (hf : f < sN σ) (r : Int32) : ∀ (k a : Nat) (S : zSt), a + k = sN σ → RepC σ S → flF (few1 (sN σ) (sT σ) f v) (sN σ) k a = r → zZ x true mX8_firstLenderBringing (fun q U => ∃ v : Int32, q = some (.int v) ∧ v = r ∧ RepC σ U) 2 [(0, .ref (zad x 0)), (1, .int (nI f)), (2, .int v), (3, .int (nI a))] [] S := by
  intro k
  induction k with
  | zero =>
    intro a S ha hR hr
    have hT := hR.1
    have hn8 : sN σ ≤ 8 := hT.2.1
    refine ziload_n dX8_firstLenderBringing_2 rfl ?_
    refine zaload_n dX8_firstLenderBringing_3 rfl ?_
    refine gf_X8_30 rfl dX8_firstLenderBringing_4 ?_
    refine gf_X8_192 (t := 0) (by decide) rfl dX8_firstLenderBringing_7 ?_
    rw [hT.1]
    refine zicmp_ge (tgt := 77) dX8_firstLenderBringing_10 (by decide) (fun _ => ?_) (fun h => absurd (nI_le (by omega) (by omega)) h)
    refine zbipush (v := -9) dX8_firstLenderBringing_77 (by decide) ?_
    exact zireturn dX8_firstLenderBringing_79 rfl rfl ⟨_, rfl, hr, hR⟩
  | succ k ih =>
    intro a S ha hR hr
    have hT := hR.1
    have hn8 : sN σ ≤ 8 := hT.2.1
    rw [flF] at hr
    refine ziload_n dX8_firstLenderBringing_2 rfl ?_
    refine zaload_n dX8_firstLenderBringing_3 rfl ?_
    refine gf_X8_30 rfl dX8_firstLenderBringing_4 ?_
    refine gf_X8_192 (t := 0) (by decide) rfl dX8_firstLenderBringing_7 ?_
    rw [hT.1]
    refine zicmp_ge (tgt := 77) dX8_firstLenderBringing_10 (by decide) (fun h => absurd h (nI_ge (by omega) (by omega))) (fun _ => ?_)
    refine ziconst (v := 0) dX8_firstLenderBringing_13 (by decide) ?_
    refine zistore dX8_firstLenderBringing_14 (by decide) rfl ?_
    refine zlvs (lv' := [(0, .ref (zad x 0)), (1, .int (nI f)), (2, .int v), (3, .int (nI a)), (4, .int (nI 0))]) ⟨rfl, rfl, rfl, rfl, rfl, trivial⟩ ?_
    refine l1_X8_firstLender hW hf (by omega) (fun S2 hR2 e => ⟨_, rfl, by rw [← hr, if_pos e], hR2⟩) (fun S2 hR2 e => ?_) (sN σ) 0 S (by omega) hR rfl
    refine ziinc dX8_firstLenderBringing_71 rfl rfl (by decide) rfl ?_
    refine zgoto (tgt := 2) dX8_firstLenderBringing_74 (by decide) ?_
    refine zlvs (lv' := [(0, .ref (zad x 0)), (1, .int (nI f)), (2, .int v), (3, .int (nI (a + 1)))]) ⟨rfl, rfl, rfl, by rw [nI_succ a]; rfl, trivial⟩ ?_
    exact ih (a + 1) S2 (by omega) hR2 (by rw [← hr, if_neg (by rw [e]; decide)])
set_option maxRecDepth 100000 in
set_option maxHeartbeats 4000000 in
theorem c_X8_firstLender (hR : RepC σ S) (hW : WS σ) {v : Int32} (hf : f < sN σ) : zR x true mX8_firstLenderBringing [.ref (zad x 0), .int (nI f), .int v] S (fun r S' => r = flF (few1 (sN σ) (sT σ) f v) (sN σ) (sN σ) 0 ∧ RepC σ S') := by
  refine zC_of (by decide +kernel) (Nat.le_of_ble_eq_true rfl) ?_
  refine ziconst (v := 0) dX8_firstLenderBringing_0 (by decide) ?_
  refine zistore_n dX8_firstLenderBringing_1 (by decide) rfl ?_
  refine zlvs (lv' := [(0, .ref (zad x 0)), (1, .int (nI f)), (2, .int v), (3, .int (nI 0))]) ⟨rfl, rfl, rfl, rfl, trivial⟩ ?_
  exact l_X8_firstLender hW hf _ (sN σ) 0 S (by omega) hR rfl
def fewA (n : Nat) (T : Tw) (f : Nat) (v w : Int32) : Int32 :=
  if famB n T f v = true then (if w = 0 then 0 else -9) else if flF (few1 n T f v) n n 0 = -9 then -9 else if w = 0 then 1 else flF (few1 n T f v) n n 0
set_option maxRecDepth 100000 in
set_option maxHeartbeats 4000000 in
theorem c_X8_fewest (hR : RepC σ S) (hW : WS σ) (f v w : Int32) : zR x true mX8_fewest [.ref (zad x 0), .int f, .int v, .int w] S (qC (fO (pF (sN σ) f) (fO (rgF v 0 99) (whF w 2))) (fewA (sN σ) (sT σ) f.toNatClampNeg v w) σ (σ)) := by
  have hT := hR.1
  have hn8 : sN σ ≤ 8 := hT.2.1
  refine zC_of (by decide +kernel) (Nat.le_of_ble_eq_true rfl) ?_
  by_cases he : fO (pF (sN σ) f) (fO (rgF v 0 99) (whF w 2)) = 0
  · obtain ⟨h1, h23⟩ := fO_0 he
    obtain ⟨h2, h3⟩ := fO_0 h23
    have h1p := pF_0 h1
    obtain ⟨i, hi, rfl⟩ := pF_of (by omega) h1
    refine zaload_n dX8_fewest_0 rfl ?_
    refine ziload_n dX8_fewest_1 rfl ?_
    refine zcVf ob_X gk_X8_96 dX8_fewest_2 (c_X8_personFault hT) rfl (by decide) (Nat.le_of_ble_eq_true rfl) ?_ rfl
    refine ziload_n dX8_fewest_5 rfl ?_
    refine ziconst (v := 0) dX8_fewest_6 (by decide) ?_
    refine zbipush (v := 99) dX8_fewest_7 (by decide) ?_
    refine zcSf  gk_X8_73 dX8_fewest_9 c_X8_rangeFault rfl (by decide) (Nat.le_of_ble_eq_true rfl) ?_ rfl
    refine ziload_n dX8_fewest_12 rfl ?_
    refine ziconst (v := 2) dX8_fewest_13 (by decide) ?_
    refine zcSf  gk_X8_99 dX8_fewest_14 c_X8_whatFault rfl (by decide) (Nat.le_of_ble_eq_true rfl) ?_ rfl
    refine zcSf  gk_X8_154 dX8_fewest_17 c_X8_firstOfThree rfl (by decide) (Nat.le_of_ble_eq_true rfl) ?_ rfl
    refine zistore dX8_fewest_20 (by decide) rfl ?_
    refine ziload dX8_fewest_22 rfl ?_
    refine zif_eq (tgt := 34) dX8_fewest_24 (by decide) (fun _ => ?_) (fun h => absurd he h)
    refine zaload_n dX8_fewest_34 rfl ?_
    refine zbipush (v := nI 12) dX8_fewest_35 (by decide) ?_
    refine zcVn ob_X gk_X8_170 dX8_fewest_37 (c_X8_think hT hW.1.vw (K := 12) (by decide)) rfl (by decide) (Nat.le_of_ble_eq_true rfl) (fun S2 hp2 => ?_) rfl
    obtain ⟨hT2, hf2⟩ := hp2
    refine zaload_n dX8_fewest_40 rfl ?_
    refine gf_X8_36 rfl dX8_fewest_41 ?_
    refine gf_X8_157 (t := 1) (by decide) rfl dX8_fewest_44 ?_
    refine ziload_n dX8_fewest_47 rfl ?_
    refine zialT (t := 1) (w := 5) dX8_fewest_48 (by decide) hT2 (by decide) (by decide) (by omega) ?_
    refine ziload_n dX8_fewest_49 rfl ?_
    refine zicmp_lt (tgt := 64) dX8_fewest_50 (by decide) (fun h50 => ?_) (fun h50 => ?_)
    · refine zaload_n dX8_fewest_64 rfl ?_
      refine ziload_n dX8_fewest_65 rfl ?_
      refine ziload_n dX8_fewest_66 rfl ?_
      refine zcVr ob_X gk_X8_227 dX8_fewest_67 (c_X8_firstLender (hR.mind hf2) hW hi) rfl (by decide) (Nat.le_of_ble_eq_true rfl) (fun r3 S3 hp3 => ?_) rfl
      obtain ⟨rfl, hR3⟩ := hp3
      refine zistore dX8_fewest_70 (by decide) rfl ?_
      refine ziload_n dX8_fewest_72 rfl ?_
      refine zif_ne (tgt := 87) dX8_fewest_73 (by decide) (fun h73 => ?_) (fun h73 => ?_)
      · refine ziload dX8_fewest_87 rfl ?_
        exact zireturn dX8_fewest_89 rfl rfl ⟨_, rfl, qC_ok he (by rw [nI_clamp (n := i) (by omega)]; unfold fewA famB; rw [if_neg (fun z => Int32.not_le.mpr h50 (of_decide_eq_true z))]; simp_all) hR3⟩
      · refine ziload dX8_fewest_76 rfl ?_
        refine zbipush (v := -9) dX8_fewest_78 (by decide) ?_
        refine zicmp_eq (tgt := 87) dX8_fewest_80 (by decide) (fun h80 => ?_) (fun h80 => ?_)
        · refine ziload dX8_fewest_87 rfl ?_
          exact zireturn dX8_fewest_89 rfl rfl ⟨_, rfl, qC_ok he (by rw [nI_clamp (n := i) (by omega)]; unfold fewA famB; rw [if_neg (fun z => Int32.not_le.mpr h50 (of_decide_eq_true z))]; simp_all) hR3⟩
        · refine ziconst (v := 1) dX8_fewest_83 (by decide) ?_
          refine zgoto (tgt := 89) dX8_fewest_84 (by decide) ?_
          exact zireturn dX8_fewest_89 rfl rfl ⟨_, rfl, qC_ok he (by rw [nI_clamp (n := i) (by omega)]; unfold fewA famB; rw [if_neg (fun z => Int32.not_le.mpr h50 (of_decide_eq_true z))]; simp_all) hR3⟩
    · refine ziload_n dX8_fewest_53 rfl ?_
      refine zif_ne (tgt := 61) dX8_fewest_54 (by decide) (fun h54 => ?_) (fun h54 => ?_)
      · refine zbipush (v := -9) dX8_fewest_61 (by decide) ?_
        first
        | exact zireturn dX8_fewest_63 rfl rfl ⟨_, rfl, qC_ok he (by rw [nI_clamp (n := i) (by omega)]; unfold fewA famB; rw [if_pos (decide_eq_true (Int32.not_lt.mp h50)), if_neg h54]) (hR.mind hf2)⟩
        | exact zireturn dX8_fewest_63 rfl rfl ⟨_, rfl, qC_ok he (by rw [nI_clamp (n := i) (by omega)]; unfold fewA famB; rw [if_pos (decide_eq_true (Int32.not_lt.mp h50)), if_pos h54]) (hR.mind hf2)⟩
      · refine ziconst (v := 0) dX8_fewest_57 (by decide) ?_
        refine zgoto (tgt := 63) dX8_fewest_58 (by decide) ?_
        first
        | exact zireturn dX8_fewest_63 rfl rfl ⟨_, rfl, qC_ok he (by rw [nI_clamp (n := i) (by omega)]; unfold fewA famB; rw [if_pos (decide_eq_true (Int32.not_lt.mp h50)), if_neg h54]) (hR.mind hf2)⟩
        | exact zireturn dX8_fewest_63 rfl rfl ⟨_, rfl, qC_ok he (by rw [nI_clamp (n := i) (by omega)]; unfold fewA famB; rw [if_pos (decide_eq_true (Int32.not_lt.mp h50)), if_pos h54]) (hR.mind hf2)⟩
  · refine zaload_n dX8_fewest_0 rfl ?_
    refine ziload_n dX8_fewest_1 rfl ?_
    refine zcVf ob_X gk_X8_96 dX8_fewest_2 (c_X8_personFault hT) rfl (by decide) (Nat.le_of_ble_eq_true rfl) ?_ rfl
    refine ziload_n dX8_fewest_5 rfl ?_
    refine ziconst (v := 0) dX8_fewest_6 (by decide) ?_
    refine zbipush (v := 99) dX8_fewest_7 (by decide) ?_
    refine zcSf  gk_X8_73 dX8_fewest_9 c_X8_rangeFault rfl (by decide) (Nat.le_of_ble_eq_true rfl) ?_ rfl
    refine ziload_n dX8_fewest_12 rfl ?_
    refine ziconst (v := 2) dX8_fewest_13 (by decide) ?_
    refine zcSf  gk_X8_99 dX8_fewest_14 c_X8_whatFault rfl (by decide) (Nat.le_of_ble_eq_true rfl) ?_ rfl
    refine zcSf  gk_X8_154 dX8_fewest_17 c_X8_firstOfThree rfl (by decide) (Nat.le_of_ble_eq_true rfl) ?_ rfl
    refine zistore dX8_fewest_20 (by decide) rfl ?_
    refine ziload dX8_fewest_22 rfl ?_
    refine zif_eq (tgt := 34) dX8_fewest_24 (by decide) (fun h => absurd h he) (fun _ => ?_)
    refine zaload_n dX8_fewest_27 rfl ?_
    refine ziload dX8_fewest_28 rfl ?_
    refine zcVf ob_X gk_X8_77 dX8_fewest_30 (c_X8_refuse (okE.e (okE_fO (okE_pF _ _) (okE_fO (okE_rgF _ _ _) (okE_whF _ _))) he)) rfl (by decide) (Nat.le_of_ble_eq_true rfl) ?_ rfl
    exact zireturn dX8_fewest_33 rfl rfl ⟨_, rfl, qC_no rfl (okE.e (okE_fO (okE_pF _ _) (okE_fO (okE_rgF _ _ _) (okE_whF _ _))) he) hR⟩
theorem RepM.lentFr {S' : zSt} (h : RepM σ S) (h1 : ∀ k, ¬ k = 2 → ¬ k = 4 → ¬ k = 5 → S'.1 k = S.1 k) (h2 : S'.2 = S.2) : RepM σ S' := by
  obtain ⟨a1, a2, a3, a4, a5, a6⟩ := h
  have g : ∀ k', (k' = 1 ∨ k' = 3 ∨ 6 ≤ k') → S'.1 k' = S.1 k' := fun k' h => h1 k' (by omega) (by omega) (by omega)
  refine ⟨⟨by rw [g _ (by decide)]; exact a1.1, a1.2.1, fun w p b1 b2 b3 => by rw [g _ (by decide)]; exact a1.2.2 w p b1 b2 b3⟩, by rw [g _ (by decide)]; exact a2, ?_, by rw [h2, g _ (by decide)]; exact a4, by rw [h2, g _ (by decide)]; exact a5, by rw [g _ (by decide)]; exact a6⟩
  unfold keptM at a3 ⊢
  cases hk : sK σ with
  | none => rw [hk] at a3; rw [h2]; exact a3
  | some q => rw [hk] at a3; rw [h2, g _ (by decide)]; exact ⟨a3.1, ⟨by rw [g _ (by decide)]; exact a3.2.1.1, a3.2.1.2.1, fun w p b1 b2 b3 => by rw [g _ (by decide)]; exact a3.2.1.2.2 w p b1 b2 b3⟩, a3.2.2⟩
set_option maxRecDepth 100000 in
set_option maxHeartbeats 4000000 in
theorem c_X9_isFamedBehind {k : Nat} {T : Tw} {v : Int32} (hk : 0 < k ∧ k < 6) (hk2 : ¬ k = 2) (hM : isM S k n T) (hW : MW n T) (hf : f < n) : zR x false mX9_isFamedBehind [.ref (zad x 0), .ref (zad x k), .int (nI f), .int v] S (fun r S' => r = bI (famB n T f v) ∧ frM 2 S S') := by
  have hn8 := hM.2.1
  refine zC_of (by decide +kernel) (Nat.le_of_ble_eq_true rfl) ?_
  refine zaload_n dX9_isFamedBehind_0 rfl ?_
  refine zaload_n dX9_isFamedBehind_1 rfl ?_
  refine gf_X9_13 rfl dX9_isFamedBehind_2 ?_
  refine zcSn  gk_X9_133 dX9_isFamedBehind_5 (c_X9_copies hk hr2 hk2 hM) rfl (by decide) (Nat.le_of_ble_eq_true rfl) (fun S2 hp2 => ?_) rfl
  obtain ⟨hM2, -, hf2⟩ := hp2
  refine zaload_n dX9_isFamedBehind_8 rfl ?_
  refine gf_X9_13 rfl dX9_isFamedBehind_9 ?_
  refine zbipush (v := nI 12) dX9_isFamedBehind_12 (by decide) ?_
  refine zcSn  gk_X9_126 dX9_isFamedBehind_14 (c_X9_monthsOn hr2 hM2 hW (K := 12) (by decide)) rfl (by decide) (Nat.le_of_ble_eq_true rfl) (fun S3 hp3 => ?_) rfl
  obtain ⟨hM3, -, -, hf3⟩ := hp3
  refine zaload_n dX9_isFamedBehind_17 rfl ?_
  refine gf_X9_13 rfl dX9_isFamedBehind_18 ?_
  refine ziload_n dX9_isFamedBehind_21 rfl ?_
  refine ziconst (v := nI 4) dX9_isFamedBehind_22 (by decide) ?_
  refine zcSf gk_X9_52 dX9_isFamedBehind_23 (c_X9_of (j := 4)) rfl (by decide) (Nat.le_of_ble_eq_true rfl) ?_ rfl
  refine zialM (k := 2) (j := 4) (w := 5) dX9_isFamedBehind_26 hr2 hM3 rfl (by decide) (by omega) ?_
  refine ziload_n dX9_isFamedBehind_27 rfl ?_
  refine zicmp_lt (tgt := 35) dX9_isFamedBehind_28 (by decide) (fun h28 => ?_) (fun h28 => ?_)
  · refine ziconst (v := 0) dX9_isFamedBehind_35 (by decide) ?_
    first
    | exact zbret (q := famB n T f v) dX9_isFamedBehind_36 rfl (by unfold famB; rw [decide_eq_true (Int32.not_lt.mp h28)]; rfl) ⟨_, rfl, rfl, hf2.trans hf3⟩
    | exact zbret (q := famB n T f v) dX9_isFamedBehind_36 rfl (by unfold famB; rw [decide_eq_false (Int32.not_le.mpr h28)]; rfl) ⟨_, rfl, rfl, hf2.trans hf3⟩
  · refine ziconst (v := 1) dX9_isFamedBehind_31 (by decide) ?_
    refine zgoto (tgt := 36) dX9_isFamedBehind_32 (by decide) ?_
    first
    | exact zbret (q := famB n T f v) dX9_isFamedBehind_36 rfl (by unfold famB; rw [decide_eq_true (Int32.not_lt.mp h28)]; rfl) ⟨_, rfl, rfl, hf2.trans hf3⟩
    | exact zbret (q := famB n T f v) dX9_isFamedBehind_36 rfl (by unfold famB; rw [decide_eq_false (Int32.not_le.mpr h28)]; rfl) ⟨_, rfl, rfl, hf2.trans hf3⟩
/-- rows 2 and 4 alone have changed -/
def fr24 (S S' : zSt) : Prop := (∀ k, ¬ k = 2 → ¬ k = 4 → S'.1 k = S.1 k) ∧ S'.2 = S.2
theorem fr24.rf {S : zSt} : fr24 S S := ⟨fun _ _ _ => rfl, rfl⟩
theorem fr24.trans {S1 S2 S3 : zSt} (h : fr24 S1 S2) (h' : fr24 S2 S3) : fr24 S1 S3 := ⟨fun k a b => (h'.1 k a b).trans (h.1 k a b), h'.2.trans h.2⟩
theorem fr24.of2 {S S' : zSt} (h : frM 2 S S') : fr24 S S' := ⟨fun k a _ => h.1 k a, h.2⟩
theorem fr24.of4 {S S' : zSt} (h : frM 4 S S') : fr24 S S' := ⟨fun k _ b => h.1 k b, h.2⟩
theorem isM_fr24 {S S' : zSt} {k n : Nat} {T : Tw} (h : isM S k n T) (hf : fr24 S S') (h2 : ¬ k = 2) (h4 : ¬ k = 4) : isM S' k n T := ⟨by rw [hf.1 k h2 h4]; exact h.1, h.2.1, fun w p a b c => by rw [hf.1 k h2 h4]; exact h.2.2 w p a b c⟩
set_option maxRecDepth 100000 in
set_option maxHeartbeats 4000000 in
theorem l1_X9_canBeBy {v : Int32} {a : Nat} {T T1 : Tw} {S0 : zSt} (hM10 : isM S0 1 n T1) (hM50 : isM S0 5 n T) (hWT : WFT n T) (hf : f < n) (ha : a < n) {post : Option Value → zSt → Prop} (hy : ∀ S', fr24 S0 S' → anyF (few1 n T f v a) n 0 = true → post (some (.int (bI true))) S') (hn : ∀ S', fr24 S0 S' → anyF (few1 n T f v a) n 0 = false → zZ x false mX9_canBeBy post 84 [(0, .ref (zad x 0)), (1, .int (nI f)), (2, .int v), (3, .int (nI a))] [] S') : ∀ (k b : Nat) (S : zSt), b + k = n → fr24 S0 S → anyF (few1 n T f v a) n 0 = anyF (few1 n T f v a) k b → zZ x false mX9_canBeBy post 15 [(0, .ref (zad x 0)), (1, .int (nI f)), (2, .int v), (3, .int (nI a)), (4, .int (nI b))] [] S := by
  intro k
  induction k with
  | zero =>
    intro b S hb hfr hr
    have hM := isM_fr24 hM10 hfr (by decide) (by decide)
    have hn8 := hM.2.1
    refine ziload dX9_canBeBy_15 rfl ?_
    refine zaload_n dX9_canBeBy_17 rfl ?_
    refine gf_X9_9 rfl dX9_canBeBy_18 ?_
    refine ziconst (v := nI 0) dX9_canBeBy_21 (by decide) ?_
    refine ziald dX9_canBeBy_22 (mrk hr1.2) (mrl hr1.1 hr1.2) (by decide) (by decide) ?_
    rw [hM.1]
    refine zicmp_ge (tgt := 84) dX9_canBeBy_23 (by decide) (fun _ => ?_) (fun h => absurd (nI_le (by omega) (by omega)) h)
    refine zlvs (lv' := [(0, .ref (zad x 0)), (1, .int (nI f)), (2, .int v), (3, .int (nI a))]) ⟨rfl, rfl, rfl, rfl, trivial⟩ ?_
    exact hn S hfr hr
  | succ k ih =>
    intro b S hb hfr hr
    have hM := isM_fr24 hM10 hfr (by decide) (by decide)
    have hM5 := isM_fr24 hM50 hfr (by decide) (by decide)
    have hn8 := hM.2.1
    rw [show anyF (few1 n T f v a) (k + 1) b = if few1 n T f v a b = true then true else anyF (few1 n T f v a) k (b + 1) from rfl] at hr
    cases hc : canB T a b with
    | true =>
      cases hv : famB n (handT T a b) f v with
      | true =>
        have he : few1 n T f v a b = true := by unfold few1; rw [hc, hv]; rfl
        rw [if_pos he] at hr
        refine ziload dX9_canBeBy_15 rfl ?_
        refine zaload_n dX9_canBeBy_17 rfl ?_
        refine gf_X9_9 rfl dX9_canBeBy_18 ?_
        refine ziconst (v := nI 0) dX9_canBeBy_21 (by decide) ?_
        refine ziald dX9_canBeBy_22 (mrk hr1.2) (mrl hr1.1 hr1.2) (by decide) (by decide) ?_
        rw [hM.1]
        refine zicmp_ge (tgt := 84) dX9_canBeBy_23 (by decide) (fun h => absurd h (nI_ge (by omega) (by omega))) (fun _ => ?_)
        refine zaload_n dX9_canBeBy_26 rfl ?_
        refine gf_X9_22 rfl dX9_canBeBy_27 ?_
        refine ziload_n dX9_canBeBy_30 rfl ?_
        refine ziload dX9_canBeBy_31 rfl ?_
        refine zcSf  gk_X9_118 dX9_canBeBy_33 (show zF x false mX9_canLend _ S (some (.int (bI (canB T a b)))) S from c_X9_canLend hr5 hM5 ha (by omega)) rfl (by decide) (Nat.le_of_ble_eq_true rfl) ?_ rfl
        refine zifb_ne (tgt := 42) dX9_canBeBy_36 (by decide) (fun _ => ?_) (fun h => absurd (h.symm.trans hc) (by decide))
        refine zaload_n dX9_canBeBy_42 rfl ?_
        refine gf_X9_22 rfl dX9_canBeBy_43 ?_
        refine zaload_n dX9_canBeBy_46 rfl ?_
        refine gf_X9_19 rfl dX9_canBeBy_47 ?_
        refine zcSn  gk_X9_133 dX9_canBeBy_50 (c_X9_copies hr5 hr4 (by decide) hM5) rfl (by decide) (Nat.le_of_ble_eq_true rfl) (fun S2 hp2 => ?_) rfl
        obtain ⟨hM4, -, hf2⟩ := hp2
        refine zaload_n dX9_canBeBy_53 rfl ?_
        refine gf_X9_19 rfl dX9_canBeBy_54 ?_
        refine ziload_n dX9_canBeBy_57 rfl ?_
        refine ziload dX9_canBeBy_58 rfl ?_
        refine zcSv  gk_X9_122 dX9_canBeBy_60 (c_X9_lendsIn hr4 hM4 (p := a) (q := b) ha (by omega)) rfl (by decide) (Nat.le_of_ble_eq_true rfl) ?_ rfl
        have hM4 := isM_hand (p := a) (q := b) hM4
        have hf2 := frM_hand (p := a) (q := b) hf2
        refine zaload_n dX9_canBeBy_63 rfl ?_
        refine zaload_n dX9_canBeBy_64 rfl ?_
        refine gf_X9_19 rfl dX9_canBeBy_65 ?_
        refine ziload_n dX9_canBeBy_68 rfl ?_
        refine ziload_n dX9_canBeBy_69 rfl ?_
        refine zcVr ob_Mo gk_X9_179 dX9_canBeBy_70 (c_X9_isFamedBehind hr4 (by decide) hM4 (hWT.handB ha (by omega) hc).2.1 hf (v := v)) rfl (by decide) (Nat.le_of_ble_eq_true rfl) (fun r4 S4 hp4 => ?_) rfl
        obtain ⟨rfl, hf4⟩ := hp4
        have hf24 := hfr.trans ((fr24.of4 hf2).trans (fr24.of2 hf4))
        refine zifb_eq (tgt := 78) dX9_canBeBy_73 (by decide) (fun h => absurd (h.symm.trans hv) (by decide)) (fun _ => ?_)
        refine ziconst (v := 1) dX9_canBeBy_76 (by decide) ?_
        exact zbret (q := true) dX9_canBeBy_77 rfl rfl (hy S4 hf24 hr)
      | false =>
        have he : ¬ few1 n T f v a b = true := by unfold few1; rw [hc, hv]; decide
        rw [if_neg he] at hr
        refine ziload dX9_canBeBy_15 rfl ?_
        refine zaload_n dX9_canBeBy_17 rfl ?_
        refine gf_X9_9 rfl dX9_canBeBy_18 ?_
        refine ziconst (v := nI 0) dX9_canBeBy_21 (by decide) ?_
        refine ziald dX9_canBeBy_22 (mrk hr1.2) (mrl hr1.1 hr1.2) (by decide) (by decide) ?_
        rw [hM.1]
        refine zicmp_ge (tgt := 84) dX9_canBeBy_23 (by decide) (fun h => absurd h (nI_ge (by omega) (by omega))) (fun _ => ?_)
        refine zaload_n dX9_canBeBy_26 rfl ?_
        refine gf_X9_22 rfl dX9_canBeBy_27 ?_
        refine ziload_n dX9_canBeBy_30 rfl ?_
        refine ziload dX9_canBeBy_31 rfl ?_
        refine zcSf  gk_X9_118 dX9_canBeBy_33 (show zF x false mX9_canLend _ S (some (.int (bI (canB T a b)))) S from c_X9_canLend hr5 hM5 ha (by omega)) rfl (by decide) (Nat.le_of_ble_eq_true rfl) ?_ rfl
        refine zifb_ne (tgt := 42) dX9_canBeBy_36 (by decide) (fun _ => ?_) (fun h => absurd (h.symm.trans hc) (by decide))
        refine zaload_n dX9_canBeBy_42 rfl ?_
        refine gf_X9_22 rfl dX9_canBeBy_43 ?_
        refine zaload_n dX9_canBeBy_46 rfl ?_
        refine gf_X9_19 rfl dX9_canBeBy_47 ?_
        refine zcSn  gk_X9_133 dX9_canBeBy_50 (c_X9_copies hr5 hr4 (by decide) hM5) rfl (by decide) (Nat.le_of_ble_eq_true rfl) (fun S2 hp2 => ?_) rfl
        obtain ⟨hM4, -, hf2⟩ := hp2
        refine zaload_n dX9_canBeBy_53 rfl ?_
        refine gf_X9_19 rfl dX9_canBeBy_54 ?_
        refine ziload_n dX9_canBeBy_57 rfl ?_
        refine ziload dX9_canBeBy_58 rfl ?_
        refine zcSv  gk_X9_122 dX9_canBeBy_60 (c_X9_lendsIn hr4 hM4 (p := a) (q := b) ha (by omega)) rfl (by decide) (Nat.le_of_ble_eq_true rfl) ?_ rfl
        have hM4 := isM_hand (p := a) (q := b) hM4
        have hf2 := frM_hand (p := a) (q := b) hf2
        refine zaload_n dX9_canBeBy_63 rfl ?_
        refine zaload_n dX9_canBeBy_64 rfl ?_
        refine gf_X9_19 rfl dX9_canBeBy_65 ?_
        refine ziload_n dX9_canBeBy_68 rfl ?_
        refine ziload_n dX9_canBeBy_69 rfl ?_
        refine zcVr ob_Mo gk_X9_179 dX9_canBeBy_70 (c_X9_isFamedBehind hr4 (by decide) hM4 (hWT.handB ha (by omega) hc).2.1 hf (v := v)) rfl (by decide) (Nat.le_of_ble_eq_true rfl) (fun r4 S4 hp4 => ?_) rfl
        obtain ⟨rfl, hf4⟩ := hp4
        have hf24 := hfr.trans ((fr24.of4 hf2).trans (fr24.of2 hf4))
        refine zifb_eq (tgt := 78) dX9_canBeBy_73 (by decide) (fun _ => ?_) (fun h => absurd (h.symm.trans hv) (by decide))
        refine ziinc dX9_canBeBy_78 rfl rfl (by decide) rfl ?_
        refine zgoto (tgt := 15) dX9_canBeBy_81 (by decide) ?_
        refine zlvs (lv' := [(0, .ref (zad x 0)), (1, .int (nI f)), (2, .int v), (3, .int (nI a)), (4, .int (nI (b + 1)))]) ⟨rfl, rfl, rfl, rfl, by rw [nI_succ b]; rfl, trivial⟩ ?_
        exact ih (b + 1) S4 (by omega) hf24 hr
    | false =>
      have he : ¬ few1 n T f v a b = true := by unfold few1; rw [hc, Bool.false_and]; decide
      rw [if_neg he] at hr
      refine ziload dX9_canBeBy_15 rfl ?_
      refine zaload_n dX9_canBeBy_17 rfl ?_
      refine gf_X9_9 rfl dX9_canBeBy_18 ?_
      refine ziconst (v := nI 0) dX9_canBeBy_21 (by decide) ?_
      refine ziald dX9_canBeBy_22 (mrk hr1.2) (mrl hr1.1 hr1.2) (by decide) (by decide) ?_
      rw [hM.1]
      refine zicmp_ge (tgt := 84) dX9_canBeBy_23 (by decide) (fun h => absurd h (nI_ge (by omega) (by omega))) (fun _ => ?_)
      refine zaload_n dX9_canBeBy_26 rfl ?_
      refine gf_X9_22 rfl dX9_canBeBy_27 ?_
      refine ziload_n dX9_canBeBy_30 rfl ?_
      refine ziload dX9_canBeBy_31 rfl ?_
      refine zcSf  gk_X9_118 dX9_canBeBy_33 (show zF x false mX9_canLend _ S (some (.int (bI (canB T a b)))) S from c_X9_canLend hr5 hM5 ha (by omega)) rfl (by decide) (Nat.le_of_ble_eq_true rfl) ?_ rfl
      refine zifb_ne (tgt := 42) dX9_canBeBy_36 (by decide) (fun h => absurd (h.symm.trans hc) (by decide)) (fun _ => ?_)
      refine zgoto (tgt := 78) dX9_canBeBy_39 (by decide) ?_
      refine ziinc dX9_canBeBy_78 rfl rfl (by decide) rfl ?_
      refine zgoto (tgt := 15) dX9_canBeBy_81 (by decide) ?_
      refine zlvs (lv' := [(0, .ref (zad x 0)), (1, .int (nI f)), (2, .int v), (3, .int (nI a)), (4, .int (nI (b + 1)))]) ⟨rfl, rfl, rfl, rfl, by rw [nI_succ b]; rfl, trivial⟩ ?_
      exact ih (b + 1) S (by omega) hfr hr
set_option maxRecDepth 100000 in
set_option maxHeartbeats 4000000 in
theorem l_X9_canBeBy {v : Int32} {T T1 : Tw} {S0 : zSt} (hM10 : isM S0 1 n T1) (hM50 : isM S0 5 n T) (hWT : WFT n T) (hf : f < n) (r : Bool) : ∀ (k a : Nat) (S : zSt), a + k = n → fr24 S0 S → anyF (fun p => anyF (few1 n T f v p) n 0) k a = r → zZ x false mX9_canBeBy (fun q U => ∃ v : Int32, q = some (.int v) ∧ v = bI r ∧ fr24 S0 U) 2 [(0, .ref (zad x 0)), (1, .int (nI f)), (2, .int v), (3, .int (nI a))] [] S := by
  intro k
  induction k with
  | zero =>
    intro a S ha hfr hr
    have hM := isM_fr24 hM10 hfr (by decide) (by decide)
    have hn8 := hM.2.1
    refine ziload_n dX9_canBeBy_2 rfl ?_
    refine zaload_n dX9_canBeBy_3 rfl ?_
    refine gf_X9_9 rfl dX9_canBeBy_4 ?_
    refine ziconst (v := nI 0) dX9_canBeBy_7 (by decide) ?_
    refine ziald dX9_canBeBy_8 (mrk hr1.2) (mrl hr1.1 hr1.2) (by decide) (by decide) ?_
    rw [hM.1]
    refine zicmp_ge (tgt := 90) dX9_canBeBy_9 (by decide) (fun _ => ?_) (fun h => absurd (nI_le (by omega) (by omega)) h)
    refine ziconst (v := 0) dX9_canBeBy_90 (by decide) ?_
    exact zbret (q := false) dX9_canBeBy_91 rfl rfl ⟨_, rfl, by rw [← hr]; rfl, hfr⟩
  | succ k ih =>
    intro a S ha hfr hr
    have hM := isM_fr24 hM10 hfr (by decide) (by decide)
    have hn8 := hM.2.1
    rw [show anyF (fun p => anyF (few1 n T f v p) n 0) (k + 1) a = if anyF (few1 n T f v a) n 0 = true then true else anyF (fun p => anyF (few1 n T f v p) n 0) k (a + 1) from rfl] at hr
    refine ziload_n dX9_canBeBy_2 rfl ?_
    refine zaload_n dX9_canBeBy_3 rfl ?_
    refine gf_X9_9 rfl dX9_canBeBy_4 ?_
    refine ziconst (v := nI 0) dX9_canBeBy_7 (by decide) ?_
    refine ziald dX9_canBeBy_8 (mrk hr1.2) (mrl hr1.1 hr1.2) (by decide) (by decide) ?_
    rw [hM.1]
    refine zicmp_ge (tgt := 90) dX9_canBeBy_9 (by decide) (fun h => absurd h (nI_ge (by omega) (by omega))) (fun _ => ?_)
    refine ziconst (v := 0) dX9_canBeBy_12 (by decide) ?_
    refine zistore dX9_canBeBy_13 (by decide) rfl ?_
    refine zlvs (lv' := [(0, .ref (zad x 0)), (1, .int (nI f)), (2, .int v), (3, .int (nI a)), (4, .int (nI 0))]) ⟨rfl, rfl, rfl, rfl, rfl, trivial⟩ ?_
    refine l1_X9_canBeBy hM10 hM50 hWT hf (by omega) (fun S2 h2 e => ⟨_, rfl, by rw [← hr, if_pos e], h2⟩) (fun S2 h2 e => ?_) n 0 S (by omega) hfr rfl
    refine ziinc dX9_canBeBy_84 rfl rfl (by decide) rfl ?_
    refine zgoto (tgt := 2) dX9_canBeBy_87 (by decide) ?_
    refine zlvs (lv' := [(0, .ref (zad x 0)), (1, .int (nI f)), (2, .int v), (3, .int (nI (a + 1)))]) ⟨rfl, rfl, rfl, by rw [nI_succ a]; rfl, trivial⟩ ?_
    exact ih (a + 1) S2 (by omega) h2 (by rw [← hr, if_neg (by rw [e]; decide)])
set_option maxRecDepth 100000 in
set_option maxHeartbeats 4000000 in
theorem c_X9_canBeBy {v : Int32} {T T1 : Tw} (hM1 : isM S 1 n T1) (hM5 : isM S 5 n T) (hWT : WFT n T) (hf : f < n) : zR x false mX9_canBeBy [.ref (zad x 0), .int (nI f), .int v] S (fun r S' => r = bI (anyF (fun p => anyF (few1 n T f v p) n 0) n 0) ∧ fr24 S S') := by
  refine zC_of (by decide +kernel) (Nat.le_of_ble_eq_true rfl) ?_
  refine ziconst (v := 0) dX9_canBeBy_0 (by decide) ?_
  refine zistore_n dX9_canBeBy_1 (by decide) rfl ?_
  refine zlvs (lv' := [(0, .ref (zad x 0)), (1, .int (nI f)), (2, .int v), (3, .int (nI 0))]) ⟨rfl, rfl, rfl, rfl, trivial⟩ ?_
  exact l_X9_canBeBy hM1 hM5 hWT hf _ n 0 S (by omega) fr24.rf rfl
set_option maxRecDepth 100000 in
set_option maxHeartbeats 4000000 in
theorem l1_X9_firstLender1 (hW : WS σ) {v : Int32} {a : Nat} (hf : f < sN σ) (ha : a < sN σ) {post : Option Value → zSt → Prop} (hy : ∀ S', RepM σ S' → anyF (few1 (sN σ) (sT σ) f v a) (sN σ) 0 = true → post (some (.int (nI a))) S') (hn : ∀ S', RepM σ S' → anyF (few1 (sN σ) (sT σ) f v a) (sN σ) 0 = false → zZ x false mX9_firstLender post 106 [(0, .ref (zad x 0)), (1, .int (nI f)), (2, .int v), (3, .int (nI 1)), (4, .int (nI a))] [] S') : ∀ (k b : Nat) (S : zSt), b + k = sN σ → RepM σ S → anyF (few1 (sN σ) (sT σ) f v a) (sN σ) 0 = anyF (few1 (sN σ) (sT σ) f v a) k b → zZ x false mX9_firstLender post 17 [(0, .ref (zad x 0)), (1, .int (nI f)), (2, .int v), (3, .int (nI 1)), (4, .int (nI a)), (5, .int (nI b))] [] S := by
  intro k
  induction k with
  | zero =>
    intro b S hb hR hr
    have hM := hR.1
    have hn8 : sN σ ≤ 8 := hM.2.1
    refine ziload dX9_firstLender_17 rfl ?_
    refine zaload_n dX9_firstLender_19 rfl ?_
    refine gf_X9_9 rfl dX9_firstLender_20 ?_
    refine ziconst (v := nI 0) dX9_firstLender_23 (by decide) ?_
    refine ziald dX9_firstLender_24 (mrk hr1.2) (mrl hr1.1 hr1.2) (by decide) (by decide) ?_
    rw [hM.1]
    refine zicmp_ge (tgt := 106) dX9_firstLender_25 (by decide) (fun _ => ?_) (fun h => absurd (nI_le (by omega) (by omega)) h)
    refine zlvs (lv' := [(0, .ref (zad x 0)), (1, .int (nI f)), (2, .int v), (3, .int (nI 1)), (4, .int (nI a))]) ⟨rfl, rfl, rfl, rfl, rfl, trivial⟩ ?_
    exact hn S hR hr
  | succ k ih =>
    intro b S hb hR hr
    have hM := hR.1
    have hn8 : sN σ ≤ 8 := hM.2.1
    rw [show anyF (few1 (sN σ) (sT σ) f v a) (k + 1) b = if few1 (sN σ) (sT σ) f v a b = true then true else anyF (few1 (sN σ) (sT σ) f v a) k (b + 1) from rfl] at hr
    cases hc : canB (sT σ) a b with
    | true =>
      cases hv : famB (sN σ) (handT (sT σ) a b) f v with
      | true =>
        have he : few1 (sN σ) (sT σ) f v a b = true := by unfold few1; rw [hc, hv]; rfl
        rw [if_pos he] at hr
        refine ziload dX9_firstLender_17 rfl ?_
        refine zaload_n dX9_firstLender_19 rfl ?_
        refine gf_X9_9 rfl dX9_firstLender_20 ?_
        refine ziconst (v := nI 0) dX9_firstLender_23 (by decide) ?_
        refine ziald dX9_firstLender_24 (mrk hr1.2) (mrl hr1.1 hr1.2) (by decide) (by decide) ?_
        rw [hM.1]
        refine zicmp_ge (tgt := 106) dX9_firstLender_25 (by decide) (fun h => absurd h (nI_ge (by omega) (by omega))) (fun _ => ?_)
        refine zaload_n dX9_firstLender_28 rfl ?_
        refine gf_X9_9 rfl dX9_firstLender_29 ?_
        refine ziload dX9_firstLender_32 rfl ?_
        refine ziload dX9_firstLender_34 rfl ?_
        refine zcSf  gk_X9_118 dX9_firstLender_36 (show zF x false mX9_canLend _ S (some (.int (bI (canB (sT σ) a b)))) S from c_X9_canLend hr1 hM ha (by omega)) rfl (by decide) (Nat.le_of_ble_eq_true rfl) ?_ rfl
        refine zifb_ne (tgt := 45) dX9_firstLender_39 (by decide) (fun _ => ?_) (fun h => absurd (h.symm.trans hc) (by decide))
        refine zaload_n dX9_firstLender_45 rfl ?_
        refine gf_X9_9 rfl dX9_firstLender_46 ?_
        refine zaload_n dX9_firstLender_49 rfl ?_
        refine gf_X9_22 rfl dX9_firstLender_50 ?_
        refine zcSn  gk_X9_133 dX9_firstLender_53 (c_X9_copies hr1 hr5 (by decide) hM) rfl (by decide) (Nat.le_of_ble_eq_true rfl) (fun S2 hp2 => ?_) rfl
        obtain ⟨hM5, -, hf2⟩ := hp2
        refine zaload_n dX9_firstLender_56 rfl ?_
        refine gf_X9_22 rfl dX9_firstLender_57 ?_
        refine ziload dX9_firstLender_60 rfl ?_
        refine ziload dX9_firstLender_62 rfl ?_
        refine zcSv  gk_X9_122 dX9_firstLender_64 (c_X9_lendsIn hr5 hM5 (p := a) (q := b) ha (by omega)) rfl (by decide) (Nat.le_of_ble_eq_true rfl) ?_ rfl
        have hM5 := isM_hand (p := a) (q := b) hM5
        have hf2 := frM_hand (p := a) (q := b) hf2
        refine ziload_n dX9_firstLender_67 rfl ?_
        refine ziconst (v := 1) dX9_firstLender_68 (by decide) ?_
        refine zicmp_ne (tgt := 88) dX9_firstLender_69 (by decide) (fun h => absurd rfl h) (fun _ => ?_)
        refine zaload_n dX9_firstLender_72 rfl ?_
        refine zaload_n dX9_firstLender_73 rfl ?_
        refine gf_X9_22 rfl dX9_firstLender_74 ?_
        refine ziload_n dX9_firstLender_77 rfl ?_
        refine ziload_n dX9_firstLender_78 rfl ?_
        refine zcVr ob_Mo gk_X9_179 dX9_firstLender_79 (c_X9_isFamedBehind hr5 (by decide) hM5 (hW.1.handB ha (by omega) hc).2.1 hf (v := v)) rfl (by decide) (Nat.le_of_ble_eq_true rfl) (fun r4 S4 hp4 => ?_) rfl
        obtain ⟨rfl, hf4⟩ := hp4
        have hR4 := (hR.mind hf2 (Or.inr (Or.inr rfl))).mind hf4 (Or.inl rfl)
        refine zifb_eq (tgt := 100) dX9_firstLender_82 (by decide) (fun h => absurd (h.symm.trans hv) (by decide)) (fun _ => ?_)
        refine zgoto (tgt := 97) dX9_firstLender_85 (by decide) ?_
        refine ziload dX9_firstLender_97 rfl ?_
        exact zireturn dX9_firstLender_99 rfl rfl (hy S4 hR4 hr)
      | false =>
        have he : ¬ few1 (sN σ) (sT σ) f v a b = true := by unfold few1; rw [hc, hv]; decide
        rw [if_neg he] at hr
        refine ziload dX9_firstLender_17 rfl ?_
        refine zaload_n dX9_firstLender_19 rfl ?_
        refine gf_X9_9 rfl dX9_firstLender_20 ?_
        refine ziconst (v := nI 0) dX9_firstLender_23 (by decide) ?_
        refine ziald dX9_firstLender_24 (mrk hr1.2) (mrl hr1.1 hr1.2) (by decide) (by decide) ?_
        rw [hM.1]
        refine zicmp_ge (tgt := 106) dX9_firstLender_25 (by decide) (fun h => absurd h (nI_ge (by omega) (by omega))) (fun _ => ?_)
        refine zaload_n dX9_firstLender_28 rfl ?_
        refine gf_X9_9 rfl dX9_firstLender_29 ?_
        refine ziload dX9_firstLender_32 rfl ?_
        refine ziload dX9_firstLender_34 rfl ?_
        refine zcSf  gk_X9_118 dX9_firstLender_36 (show zF x false mX9_canLend _ S (some (.int (bI (canB (sT σ) a b)))) S from c_X9_canLend hr1 hM ha (by omega)) rfl (by decide) (Nat.le_of_ble_eq_true rfl) ?_ rfl
        refine zifb_ne (tgt := 45) dX9_firstLender_39 (by decide) (fun _ => ?_) (fun h => absurd (h.symm.trans hc) (by decide))
        refine zaload_n dX9_firstLender_45 rfl ?_
        refine gf_X9_9 rfl dX9_firstLender_46 ?_
        refine zaload_n dX9_firstLender_49 rfl ?_
        refine gf_X9_22 rfl dX9_firstLender_50 ?_
        refine zcSn  gk_X9_133 dX9_firstLender_53 (c_X9_copies hr1 hr5 (by decide) hM) rfl (by decide) (Nat.le_of_ble_eq_true rfl) (fun S2 hp2 => ?_) rfl
        obtain ⟨hM5, -, hf2⟩ := hp2
        refine zaload_n dX9_firstLender_56 rfl ?_
        refine gf_X9_22 rfl dX9_firstLender_57 ?_
        refine ziload dX9_firstLender_60 rfl ?_
        refine ziload dX9_firstLender_62 rfl ?_
        refine zcSv  gk_X9_122 dX9_firstLender_64 (c_X9_lendsIn hr5 hM5 (p := a) (q := b) ha (by omega)) rfl (by decide) (Nat.le_of_ble_eq_true rfl) ?_ rfl
        have hM5 := isM_hand (p := a) (q := b) hM5
        have hf2 := frM_hand (p := a) (q := b) hf2
        refine ziload_n dX9_firstLender_67 rfl ?_
        refine ziconst (v := 1) dX9_firstLender_68 (by decide) ?_
        refine zicmp_ne (tgt := 88) dX9_firstLender_69 (by decide) (fun h => absurd rfl h) (fun _ => ?_)
        refine zaload_n dX9_firstLender_72 rfl ?_
        refine zaload_n dX9_firstLender_73 rfl ?_
        refine gf_X9_22 rfl dX9_firstLender_74 ?_
        refine ziload_n dX9_firstLender_77 rfl ?_
        refine ziload_n dX9_firstLender_78 rfl ?_
        refine zcVr ob_Mo gk_X9_179 dX9_firstLender_79 (c_X9_isFamedBehind hr5 (by decide) hM5 (hW.1.handB ha (by omega) hc).2.1 hf (v := v)) rfl (by decide) (Nat.le_of_ble_eq_true rfl) (fun r4 S4 hp4 => ?_) rfl
        obtain ⟨rfl, hf4⟩ := hp4
        have hR4 := (hR.mind hf2 (Or.inr (Or.inr rfl))).mind hf4 (Or.inl rfl)
        refine zifb_eq (tgt := 100) dX9_firstLender_82 (by decide) (fun _ => ?_) (fun h => absurd (h.symm.trans hv) (by decide))
        refine ziinc dX9_firstLender_100 rfl rfl (by decide) rfl ?_
        refine zgoto (tgt := 17) dX9_firstLender_103 (by decide) ?_
        refine zlvs (lv' := [(0, .ref (zad x 0)), (1, .int (nI f)), (2, .int v), (3, .int (nI 1)), (4, .int (nI a)), (5, .int (nI (b + 1)))]) ⟨rfl, rfl, rfl, rfl, rfl, by rw [nI_succ b]; rfl, trivial⟩ ?_
        exact ih (b + 1) S4 (by omega) hR4 hr
    | false =>
      have he : ¬ few1 (sN σ) (sT σ) f v a b = true := by unfold few1; rw [hc, Bool.false_and]; decide
      rw [if_neg he] at hr
      refine ziload dX9_firstLender_17 rfl ?_
      refine zaload_n dX9_firstLender_19 rfl ?_
      refine gf_X9_9 rfl dX9_firstLender_20 ?_
      refine ziconst (v := nI 0) dX9_firstLender_23 (by decide) ?_
      refine ziald dX9_firstLender_24 (mrk hr1.2) (mrl hr1.1 hr1.2) (by decide) (by decide) ?_
      rw [hM.1]
      refine zicmp_ge (tgt := 106) dX9_firstLender_25 (by decide) (fun h => absurd h (nI_ge (by omega) (by omega))) (fun _ => ?_)
      refine zaload_n dX9_firstLender_28 rfl ?_
      refine gf_X9_9 rfl dX9_firstLender_29 ?_
      refine ziload dX9_firstLender_32 rfl ?_
      refine ziload dX9_firstLender_34 rfl ?_
      refine zcSf  gk_X9_118 dX9_firstLender_36 (show zF x false mX9_canLend _ S (some (.int (bI (canB (sT σ) a b)))) S from c_X9_canLend hr1 hM ha (by omega)) rfl (by decide) (Nat.le_of_ble_eq_true rfl) ?_ rfl
      refine zifb_ne (tgt := 45) dX9_firstLender_39 (by decide) (fun h => absurd (h.symm.trans hc) (by decide)) (fun _ => ?_)
      refine zgoto (tgt := 100) dX9_firstLender_42 (by decide) ?_
      refine ziinc dX9_firstLender_100 rfl rfl (by decide) rfl ?_
      refine zgoto (tgt := 17) dX9_firstLender_103 (by decide) ?_
      refine zlvs (lv' := [(0, .ref (zad x 0)), (1, .int (nI f)), (2, .int v), (3, .int (nI 1)), (4, .int (nI a)), (5, .int (nI (b + 1)))]) ⟨rfl, rfl, rfl, rfl, rfl, by rw [nI_succ b]; rfl, trivial⟩ ?_
      exact ih (b + 1) S (by omega) hR hr
set_option maxRecDepth 100000 in
set_option maxHeartbeats 4000000 in
theorem l_X9_firstLender1 (hW : WS σ) {v : Int32} (hf : f < sN σ) (r : Int32) : ∀ (k a : Nat) (S : zSt), a + k = sN σ → RepM σ S → flF (few1 (sN σ) (sT σ) f v) (sN σ) k a = r → zZ x false mX9_firstLender (fun q U => ∃ v : Int32, q = some (.int v) ∧ v = r ∧ RepM σ U) 3 [(0, .ref (zad x 0)), (1, .int (nI f)), (2, .int v), (3, .int (nI 1)), (4, .int (nI a))] [] S := by
  intro k
  induction k with
  | zero =>
    intro a S ha hR hr
    have hM := hR.1
    have hn8 : sN σ ≤ 8 := hM.2.1
    refine ziload dX9_firstLender_3 rfl ?_
    refine zaload_n dX9_firstLender_5 rfl ?_
    refine gf_X9_9 rfl dX9_firstLender_6 ?_
    refine ziconst (v := nI 0) dX9_firstLender_9 (by decide) ?_
    refine ziald dX9_firstLender_10 (mrk hr1.2) (mrl hr1.1 hr1.2) (by decide) (by decide) ?_
    rw [hM.1]
    refine zicmp_ge (tgt := 112) dX9_firstLender_11 (by decide) (fun _ => ?_) (fun h => absurd (nI_le (by omega) (by omega)) h)
    refine zbipush (v := -9) dX9_firstLender_112 (by decide) ?_
    exact zireturn dX9_firstLender_114 rfl rfl ⟨_, rfl, hr, hR⟩
  | succ k ih =>
    intro a S ha hR hr
    have hM := hR.1
    have hn8 : sN σ ≤ 8 := hM.2.1
    rw [flF] at hr
    refine ziload dX9_firstLender_3 rfl ?_
    refine zaload_n dX9_firstLender_5 rfl ?_
    refine gf_X9_9 rfl dX9_firstLender_6 ?_
    refine ziconst (v := nI 0) dX9_firstLender_9 (by decide) ?_
    refine ziald dX9_firstLender_10 (mrk hr1.2) (mrl hr1.1 hr1.2) (by decide) (by decide) ?_
    rw [hM.1]
    refine zicmp_ge (tgt := 112) dX9_firstLender_11 (by decide) (fun h => absurd h (nI_ge (by omega) (by omega))) (fun _ => ?_)
    refine ziconst (v := 0) dX9_firstLender_14 (by decide) ?_
    refine zistore dX9_firstLender_15 (by decide) rfl ?_
    refine zlvs (lv' := [(0, .ref (zad x 0)), (1, .int (nI f)), (2, .int v), (3, .int (nI 1)), (4, .int (nI a)), (5, .int (nI 0))]) ⟨rfl, rfl, rfl, rfl, rfl, rfl, trivial⟩ ?_
    refine l1_X9_firstLender1 hW hf (by omega) (fun S2 hR2 e => ⟨_, rfl, by rw [← hr, if_pos e], hR2⟩) (fun S2 hR2 e => ?_) (sN σ) 0 S (by omega) hR rfl
    refine ziinc dX9_firstLender_106 rfl rfl (by decide) rfl ?_
    refine zgoto (tgt := 3) dX9_firstLender_109 (by decide) ?_
    refine zlvs (lv' := [(0, .ref (zad x 0)), (1, .int (nI f)), (2, .int v), (3, .int (nI 1)), (4, .int (nI (a + 1)))]) ⟨rfl, rfl, rfl, rfl, by rw [nI_succ a]; rfl, trivial⟩ ?_
    exact ih (a + 1) S2 (by omega) hR2 (by rw [← hr, if_neg (by rw [e]; decide)])
set_option maxRecDepth 100000 in
set_option maxHeartbeats 4000000 in
theorem c_X9_firstLender1 (hR : RepM σ S) (hW : WS σ) {v : Int32} (hf : f < sN σ) : zR x false mX9_firstLender [.ref (zad x 0), .int (nI f), .int v, .int (nI 1)] S (fun r S' => r = flF (few1 (sN σ) (sT σ) f v) (sN σ) (sN σ) 0 ∧ RepM σ S') := by
  refine zC_of (by decide +kernel) (Nat.le_of_ble_eq_true rfl) ?_
  refine ziconst (v := 0) dX9_firstLender_0 (by decide) ?_
  refine zistore dX9_firstLender_1 (by decide) rfl ?_
  refine zlvs (lv' := [(0, .ref (zad x 0)), (1, .int (nI f)), (2, .int v), (3, .int (nI 1)), (4, .int (nI 0))]) ⟨rfl, rfl, rfl, rfl, rfl, trivial⟩ ?_
  exact l_X9_firstLender1 hW hf _ (sN σ) 0 S (by omega) hR rfl
set_option maxRecDepth 100000 in
set_option maxHeartbeats 4000000 in
theorem l1_X9_firstLender2 (hW : WS σ) {v : Int32} {a : Nat} (hf : f < sN σ) (ha : a < sN σ) {post : Option Value → zSt → Prop} (hy : ∀ S', RepM σ S' → anyF (few2 (sN σ) (sT σ) f v a) (sN σ) 0 = true → post (some (.int (nI a))) S') (hn : ∀ S', RepM σ S' → anyF (few2 (sN σ) (sT σ) f v a) (sN σ) 0 = false → zZ x false mX9_firstLender post 106 [(0, .ref (zad x 0)), (1, .int (nI f)), (2, .int v), (3, .int (nI 2)), (4, .int (nI a))] [] S') : ∀ (k b : Nat) (S : zSt), b + k = sN σ → RepM σ S → anyF (few2 (sN σ) (sT σ) f v a) (sN σ) 0 = anyF (few2 (sN σ) (sT σ) f v a) k b → zZ x false mX9_firstLender post 17 [(0, .ref (zad x 0)), (1, .int (nI f)), (2, .int v), (3, .int (nI 2)), (4, .int (nI a)), (5, .int (nI b))] [] S := by
  intro k
  induction k with
  | zero =>
    intro b S hb hR hr
    have hM := hR.1
    have hn8 : sN σ ≤ 8 := hM.2.1
    refine ziload dX9_firstLender_17 rfl ?_
    refine zaload_n dX9_firstLender_19 rfl ?_
    refine gf_X9_9 rfl dX9_firstLender_20 ?_
    refine ziconst (v := nI 0) dX9_firstLender_23 (by decide) ?_
    refine ziald dX9_firstLender_24 (mrk hr1.2) (mrl hr1.1 hr1.2) (by decide) (by decide) ?_
    rw [hM.1]
    refine zicmp_ge (tgt := 106) dX9_firstLender_25 (by decide) (fun _ => ?_) (fun h => absurd (nI_le (by omega) (by omega)) h)
    refine zlvs (lv' := [(0, .ref (zad x 0)), (1, .int (nI f)), (2, .int v), (3, .int (nI 2)), (4, .int (nI a))]) ⟨rfl, rfl, rfl, rfl, rfl, trivial⟩ ?_
    exact hn S hR hr
  | succ k ih =>
    intro b S hb hR hr
    have hM := hR.1
    have hn8 : sN σ ≤ 8 := hM.2.1
    rw [show anyF (few2 (sN σ) (sT σ) f v a) (k + 1) b = if few2 (sN σ) (sT σ) f v a b = true then true else anyF (few2 (sN σ) (sT σ) f v a) k (b + 1) from rfl] at hr
    cases hc : canB (sT σ) a b with
    | true =>
      cases hv : anyF (fun p => anyF (few1 (sN σ) (handT (sT σ) a b) f v p) (sN σ) 0) (sN σ) 0 with
      | true =>
        have he : few2 (sN σ) (sT σ) f v a b = true := by unfold few2; rw [hc, hv]; rfl
        rw [if_pos he] at hr
        refine ziload dX9_firstLender_17 rfl ?_
        refine zaload_n dX9_firstLender_19 rfl ?_
        refine gf_X9_9 rfl dX9_firstLender_20 ?_
        refine ziconst (v := nI 0) dX9_firstLender_23 (by decide) ?_
        refine ziald dX9_firstLender_24 (mrk hr1.2) (mrl hr1.1 hr1.2) (by decide) (by decide) ?_
        rw [hM.1]
        refine zicmp_ge (tgt := 106) dX9_firstLender_25 (by decide) (fun h => absurd h (nI_ge (by omega) (by omega))) (fun _ => ?_)
        refine zaload_n dX9_firstLender_28 rfl ?_
        refine gf_X9_9 rfl dX9_firstLender_29 ?_
        refine ziload dX9_firstLender_32 rfl ?_
        refine ziload dX9_firstLender_34 rfl ?_
        refine zcSf  gk_X9_118 dX9_firstLender_36 (show zF x false mX9_canLend _ S (some (.int (bI (canB (sT σ) a b)))) S from c_X9_canLend hr1 hM ha (by omega)) rfl (by decide) (Nat.le_of_ble_eq_true rfl) ?_ rfl
        refine zifb_ne (tgt := 45) dX9_firstLender_39 (by decide) (fun _ => ?_) (fun h => absurd (h.symm.trans hc) (by decide))
        refine zaload_n dX9_firstLender_45 rfl ?_
        refine gf_X9_9 rfl dX9_firstLender_46 ?_
        refine zaload_n dX9_firstLender_49 rfl ?_
        refine gf_X9_22 rfl dX9_firstLender_50 ?_
        refine zcSn  gk_X9_133 dX9_firstLender_53 (c_X9_copies hr1 hr5 (by decide) hM) rfl (by decide) (Nat.le_of_ble_eq_true rfl) (fun S2 hp2 => ?_) rfl
        obtain ⟨hM5, -, hf2⟩ := hp2
        refine zaload_n dX9_firstLender_56 rfl ?_
        refine gf_X9_22 rfl dX9_firstLender_57 ?_
        refine ziload dX9_firstLender_60 rfl ?_
        refine ziload dX9_firstLender_62 rfl ?_
        refine zcSv  gk_X9_122 dX9_firstLender_64 (c_X9_lendsIn hr5 hM5 (p := a) (q := b) ha (by omega)) rfl (by decide) (Nat.le_of_ble_eq_true rfl) ?_ rfl
        have hM5 := isM_hand (p := a) (q := b) hM5
        have hf2 := frM_hand (p := a) (q := b) hf2
        refine ziload_n dX9_firstLender_67 rfl ?_
        refine ziconst (v := 1) dX9_firstLender_68 (by decide) ?_
        refine zicmp_ne (tgt := 88) dX9_firstLender_69 (by decide) (fun _ => ?_) (fun h => absurd h (by decide))
        refine zaload_n dX9_firstLender_88 rfl ?_
        refine ziload_n dX9_firstLender_89 rfl ?_
        refine ziload_n dX9_firstLender_90 rfl ?_
        refine zcVr ob_Mo gk_X9_182 dX9_firstLender_91 (c_X9_canBeBy (isM_frM hM hf2 (by decide)) hM5 (hW.1.handB ha (by omega) hc) hf (v := v)) rfl (by decide) (Nat.le_of_ble_eq_true rfl) (fun r4 S4 hp4 => ?_) rfl
        obtain ⟨rfl, hf4⟩ := hp4
        have hR4 := (hR.mind hf2 (Or.inr (Or.inr rfl))).lentFr (fun k a b c => hf4.1 k a b) hf4.2
        refine zifb_eq (tgt := 100) dX9_firstLender_94 (by decide) (fun h => absurd (h.symm.trans hv) (by decide)) (fun _ => ?_)
        refine ziload dX9_firstLender_97 rfl ?_
        exact zireturn dX9_firstLender_99 rfl rfl (hy S4 hR4 hr)
      | false =>
        have he : ¬ few2 (sN σ) (sT σ) f v a b = true := by unfold few2; rw [hc, hv]; decide
        rw [if_neg he] at hr
        refine ziload dX9_firstLender_17 rfl ?_
        refine zaload_n dX9_firstLender_19 rfl ?_
        refine gf_X9_9 rfl dX9_firstLender_20 ?_
        refine ziconst (v := nI 0) dX9_firstLender_23 (by decide) ?_
        refine ziald dX9_firstLender_24 (mrk hr1.2) (mrl hr1.1 hr1.2) (by decide) (by decide) ?_
        rw [hM.1]
        refine zicmp_ge (tgt := 106) dX9_firstLender_25 (by decide) (fun h => absurd h (nI_ge (by omega) (by omega))) (fun _ => ?_)
        refine zaload_n dX9_firstLender_28 rfl ?_
        refine gf_X9_9 rfl dX9_firstLender_29 ?_
        refine ziload dX9_firstLender_32 rfl ?_
        refine ziload dX9_firstLender_34 rfl ?_
        refine zcSf  gk_X9_118 dX9_firstLender_36 (show zF x false mX9_canLend _ S (some (.int (bI (canB (sT σ) a b)))) S from c_X9_canLend hr1 hM ha (by omega)) rfl (by decide) (Nat.le_of_ble_eq_true rfl) ?_ rfl
        refine zifb_ne (tgt := 45) dX9_firstLender_39 (by decide) (fun _ => ?_) (fun h => absurd (h.symm.trans hc) (by decide))
        refine zaload_n dX9_firstLender_45 rfl ?_
        refine gf_X9_9 rfl dX9_firstLender_46 ?_
        refine zaload_n dX9_firstLender_49 rfl ?_
        refine gf_X9_22 rfl dX9_firstLender_50 ?_
        refine zcSn  gk_X9_133 dX9_firstLender_53 (c_X9_copies hr1 hr5 (by decide) hM) rfl (by decide) (Nat.le_of_ble_eq_true rfl) (fun S2 hp2 => ?_) rfl
        obtain ⟨hM5, -, hf2⟩ := hp2
        refine zaload_n dX9_firstLender_56 rfl ?_
        refine gf_X9_22 rfl dX9_firstLender_57 ?_
        refine ziload dX9_firstLender_60 rfl ?_
        refine ziload dX9_firstLender_62 rfl ?_
        refine zcSv  gk_X9_122 dX9_firstLender_64 (c_X9_lendsIn hr5 hM5 (p := a) (q := b) ha (by omega)) rfl (by decide) (Nat.le_of_ble_eq_true rfl) ?_ rfl
        have hM5 := isM_hand (p := a) (q := b) hM5
        have hf2 := frM_hand (p := a) (q := b) hf2
        refine ziload_n dX9_firstLender_67 rfl ?_
        refine ziconst (v := 1) dX9_firstLender_68 (by decide) ?_
        refine zicmp_ne (tgt := 88) dX9_firstLender_69 (by decide) (fun _ => ?_) (fun h => absurd h (by decide))
        refine zaload_n dX9_firstLender_88 rfl ?_
        refine ziload_n dX9_firstLender_89 rfl ?_
        refine ziload_n dX9_firstLender_90 rfl ?_
        refine zcVr ob_Mo gk_X9_182 dX9_firstLender_91 (c_X9_canBeBy (isM_frM hM hf2 (by decide)) hM5 (hW.1.handB ha (by omega) hc) hf (v := v)) rfl (by decide) (Nat.le_of_ble_eq_true rfl) (fun r4 S4 hp4 => ?_) rfl
        obtain ⟨rfl, hf4⟩ := hp4
        have hR4 := (hR.mind hf2 (Or.inr (Or.inr rfl))).lentFr (fun k a b c => hf4.1 k a b) hf4.2
        refine zifb_eq (tgt := 100) dX9_firstLender_94 (by decide) (fun _ => ?_) (fun h => absurd (h.symm.trans hv) (by decide))
        refine ziinc dX9_firstLender_100 rfl rfl (by decide) rfl ?_
        refine zgoto (tgt := 17) dX9_firstLender_103 (by decide) ?_
        refine zlvs (lv' := [(0, .ref (zad x 0)), (1, .int (nI f)), (2, .int v), (3, .int (nI 2)), (4, .int (nI a)), (5, .int (nI (b + 1)))]) ⟨rfl, rfl, rfl, rfl, rfl, by rw [nI_succ b]; rfl, trivial⟩ ?_
        exact ih (b + 1) S4 (by omega) hR4 hr
    | false =>
      have he : ¬ few2 (sN σ) (sT σ) f v a b = true := by unfold few2; rw [hc, Bool.false_and]; decide
      rw [if_neg he] at hr
      refine ziload dX9_firstLender_17 rfl ?_
      refine zaload_n dX9_firstLender_19 rfl ?_
      refine gf_X9_9 rfl dX9_firstLender_20 ?_
      refine ziconst (v := nI 0) dX9_firstLender_23 (by decide) ?_
      refine ziald dX9_firstLender_24 (mrk hr1.2) (mrl hr1.1 hr1.2) (by decide) (by decide) ?_
      rw [hM.1]
      refine zicmp_ge (tgt := 106) dX9_firstLender_25 (by decide) (fun h => absurd h (nI_ge (by omega) (by omega))) (fun _ => ?_)
      refine zaload_n dX9_firstLender_28 rfl ?_
      refine gf_X9_9 rfl dX9_firstLender_29 ?_
      refine ziload dX9_firstLender_32 rfl ?_
      refine ziload dX9_firstLender_34 rfl ?_
      refine zcSf  gk_X9_118 dX9_firstLender_36 (show zF x false mX9_canLend _ S (some (.int (bI (canB (sT σ) a b)))) S from c_X9_canLend hr1 hM ha (by omega)) rfl (by decide) (Nat.le_of_ble_eq_true rfl) ?_ rfl
      refine zifb_ne (tgt := 45) dX9_firstLender_39 (by decide) (fun h => absurd (h.symm.trans hc) (by decide)) (fun _ => ?_)
      refine zgoto (tgt := 100) dX9_firstLender_42 (by decide) ?_
      refine ziinc dX9_firstLender_100 rfl rfl (by decide) rfl ?_
      refine zgoto (tgt := 17) dX9_firstLender_103 (by decide) ?_
      refine zlvs (lv' := [(0, .ref (zad x 0)), (1, .int (nI f)), (2, .int v), (3, .int (nI 2)), (4, .int (nI a)), (5, .int (nI (b + 1)))]) ⟨rfl, rfl, rfl, rfl, rfl, by rw [nI_succ b]; rfl, trivial⟩ ?_
      exact ih (b + 1) S (by omega) hR hr
set_option maxRecDepth 100000 in
set_option maxHeartbeats 4000000 in
theorem l_X9_firstLender2 (hW : WS σ) {v : Int32} (hf : f < sN σ) (r : Int32) : ∀ (k a : Nat) (S : zSt), a + k = sN σ → RepM σ S → flF (few2 (sN σ) (sT σ) f v) (sN σ) k a = r → zZ x false mX9_firstLender (fun q U => ∃ v : Int32, q = some (.int v) ∧ v = r ∧ RepM σ U) 3 [(0, .ref (zad x 0)), (1, .int (nI f)), (2, .int v), (3, .int (nI 2)), (4, .int (nI a))] [] S := by
  intro k
  induction k with
  | zero =>
    intro a S ha hR hr
    have hM := hR.1
    have hn8 : sN σ ≤ 8 := hM.2.1
    refine ziload dX9_firstLender_3 rfl ?_
    refine zaload_n dX9_firstLender_5 rfl ?_
    refine gf_X9_9 rfl dX9_firstLender_6 ?_
    refine ziconst (v := nI 0) dX9_firstLender_9 (by decide) ?_
    refine ziald dX9_firstLender_10 (mrk hr1.2) (mrl hr1.1 hr1.2) (by decide) (by decide) ?_
    rw [hM.1]
    refine zicmp_ge (tgt := 112) dX9_firstLender_11 (by decide) (fun _ => ?_) (fun h => absurd (nI_le (by omega) (by omega)) h)
    refine zbipush (v := -9) dX9_firstLender_112 (by decide) ?_
    exact zireturn dX9_firstLender_114 rfl rfl ⟨_, rfl, hr, hR⟩
  | succ k ih =>
    intro a S ha hR hr
    have hM := hR.1
    have hn8 : sN σ ≤ 8 := hM.2.1
    rw [flF] at hr
    refine ziload dX9_firstLender_3 rfl ?_
    refine zaload_n dX9_firstLender_5 rfl ?_
    refine gf_X9_9 rfl dX9_firstLender_6 ?_
    refine ziconst (v := nI 0) dX9_firstLender_9 (by decide) ?_
    refine ziald dX9_firstLender_10 (mrk hr1.2) (mrl hr1.1 hr1.2) (by decide) (by decide) ?_
    rw [hM.1]
    refine zicmp_ge (tgt := 112) dX9_firstLender_11 (by decide) (fun h => absurd h (nI_ge (by omega) (by omega))) (fun _ => ?_)
    refine ziconst (v := 0) dX9_firstLender_14 (by decide) ?_
    refine zistore dX9_firstLender_15 (by decide) rfl ?_
    refine zlvs (lv' := [(0, .ref (zad x 0)), (1, .int (nI f)), (2, .int v), (3, .int (nI 2)), (4, .int (nI a)), (5, .int (nI 0))]) ⟨rfl, rfl, rfl, rfl, rfl, rfl, trivial⟩ ?_
    refine l1_X9_firstLender2 hW hf (by omega) (fun S2 hR2 e => ⟨_, rfl, by rw [← hr, if_pos e], hR2⟩) (fun S2 hR2 e => ?_) (sN σ) 0 S (by omega) hR rfl
    refine ziinc dX9_firstLender_106 rfl rfl (by decide) rfl ?_
    refine zgoto (tgt := 3) dX9_firstLender_109 (by decide) ?_
    refine zlvs (lv' := [(0, .ref (zad x 0)), (1, .int (nI f)), (2, .int v), (3, .int (nI 2)), (4, .int (nI (a + 1)))]) ⟨rfl, rfl, rfl, rfl, by rw [nI_succ a]; rfl, trivial⟩ ?_
    exact ih (a + 1) S2 (by omega) hR2 (by rw [← hr, if_neg (by rw [e]; decide)])
set_option maxRecDepth 100000 in
set_option maxHeartbeats 4000000 in
theorem c_X9_firstLender2 (hR : RepM σ S) (hW : WS σ) {v : Int32} (hf : f < sN σ) : zR x false mX9_firstLender [.ref (zad x 0), .int (nI f), .int v, .int (nI 2)] S (fun r S' => r = flF (few2 (sN σ) (sT σ) f v) (sN σ) (sN σ) 0 ∧ RepM σ S') := by
  refine zC_of (by decide +kernel) (Nat.le_of_ble_eq_true rfl) ?_
  refine ziconst (v := 0) dX9_firstLender_0 (by decide) ?_
  refine zistore dX9_firstLender_1 (by decide) rfl ?_
  refine zlvs (lv' := [(0, .ref (zad x 0)), (1, .int (nI f)), (2, .int v), (3, .int (nI 2)), (4, .int (nI 0))]) ⟨rfl, rfl, rfl, rfl, rfl, trivial⟩ ?_
  exact l_X9_firstLender2 hW hf _ (sN σ) 0 S (by omega) hR rfl
set_option maxRecDepth 100000 in
set_option maxHeartbeats 4000000 in
theorem c_X9_fewest (hR : RepM σ S) (hW : WS σ) (f v w : Int32) : zR x false mX9_fewest [.ref (zad x 0), .int f, .int v, .int w] S (qM (fO (pF (sN σ) f) (fO (rgF v 0 99) (whF w 2))) (fewA (sN σ) (sT σ) f.toNatClampNeg v w) σ (σ)) := by
  have hM := hR.1
  have hn8 : sN σ ≤ 8 := hM.2.1
  refine zC_of (by decide +kernel) (Nat.le_of_ble_eq_true rfl) ?_
  by_cases he : fO (pF (sN σ) f) (fO (rgF v 0 99) (whF w 2)) = 0
  · obtain ⟨h1, h23⟩ := fO_0 he
    obtain ⟨h2, h3⟩ := fO_0 h23
    have h1p := pF_0 h1
    obtain ⟨i, hi, rfl⟩ := pF_of (by omega) h1
    cases hfam : famB (sN σ) (sT σ) i v with
    | true =>
      refine zaload_n dX9_fewest_0 rfl ?_
      refine ziload_n dX9_fewest_1 rfl ?_
      refine zcVf ob_Mo gk_X9_48 dX9_fewest_2 (c_X9_isOne hM) rfl (by decide) (Nat.le_of_ble_eq_true rfl) ?_ rfl
      refine zifb_eq (tgt := 17) dX9_fewest_5 (by decide) (fun h => absurd (h.symm.trans h1p) (by decide)) (fun _ => ?_)
      refine ziload_n dX9_fewest_8 rfl ?_
      refine zbipush (v := 99) dX9_fewest_9 (by decide) ?_
      refine zcSf  gk_X9_150 dX9_fewest_11 c_wrongBy rfl (by decide) (Nat.le_of_ble_eq_true rfl) ?_ rfl
      refine zgoto (tgt := 18) dX9_fewest_14 (by decide) ?_
      refine zistore dX9_fewest_18 (by decide) rfl ?_
      refine ziload dX9_fewest_20 rfl ?_
      refine zif_ne (tgt := 38) dX9_fewest_22 (by decide) (fun h => absurd h2 h) (fun _ => ?_)
      refine ziload_n dX9_fewest_25 rfl ?_
      refine ziconst (v := 0) dX9_fewest_26 (by decide) ?_
      refine ziconst (v := 1) dX9_fewest_27 (by decide) ?_
      refine zcSf  gk_X9_44 dX9_fewest_28 c_isIn_1 rfl (by decide) (Nat.le_of_ble_eq_true rfl) ?_ rfl
      refine zifb_ne (tgt := 38) dX9_fewest_31 (by decide) (fun _ => ?_) (fun h => absurd (h.symm.trans (decide_eq_true h3)) (by decide))
      refine ziload dX9_fewest_38 rfl ?_
      refine zif_eq (tgt := 50) dX9_fewest_40 (by decide) (fun _ => ?_) (fun h => absurd h2 h)
      refine zaload_n dX9_fewest_50 rfl ?_
      refine zaload_n dX9_fewest_51 rfl ?_
      refine gf_X9_9 rfl dX9_fewest_52 ?_
      refine ziload_n dX9_fewest_55 rfl ?_
      refine ziload_n dX9_fewest_56 rfl ?_
      refine zcVr ob_Mo gk_X9_179 dX9_fewest_57 (c_X9_isFamedBehind hr1 (by decide) hM hW.1.2.1 hi (v := v)) rfl (by decide) (Nat.le_of_ble_eq_true rfl) (fun r2 S2 hp2 => ?_) rfl
      obtain ⟨rfl, hf2⟩ := hp2
      have hR2 := hR.mind hf2 (Or.inl rfl)
      refine zifb_eq (tgt := 74) dX9_fewest_60 (by decide) (fun h => absurd (h.symm.trans hfam) (by decide)) (fun _ => ?_)
      refine ziload_n dX9_fewest_63 rfl ?_
      refine zif_ne (tgt := 71) dX9_fewest_64 (by decide) (fun h64 => ?_) (fun h64 => ?_)
      · refine zbipush (v := -9) dX9_fewest_71 (by decide) ?_
        first
        | exact zireturn dX9_fewest_73 rfl rfl ⟨_, rfl, qM_ok he (by rw [nI_clamp (n := i) (by omega)]; unfold fewA; rw [if_pos hfam, if_neg h64]) hR2⟩
        | exact zireturn dX9_fewest_73 rfl rfl ⟨_, rfl, qM_ok he (by rw [nI_clamp (n := i) (by omega)]; unfold fewA; rw [if_pos hfam, if_pos h64]) hR2⟩
      · refine ziconst (v := 0) dX9_fewest_67 (by decide) ?_
        refine zgoto (tgt := 73) dX9_fewest_68 (by decide) ?_
        first
        | exact zireturn dX9_fewest_73 rfl rfl ⟨_, rfl, qM_ok he (by rw [nI_clamp (n := i) (by omega)]; unfold fewA; rw [if_pos hfam, if_neg h64]) hR2⟩
        | exact zireturn dX9_fewest_73 rfl rfl ⟨_, rfl, qM_ok he (by rw [nI_clamp (n := i) (by omega)]; unfold fewA; rw [if_pos hfam, if_pos h64]) hR2⟩
    | false =>
      have hA : fewA (sN σ) (sT σ) i v w = if flF (few1 (sN σ) (sT σ) i v) (sN σ) (sN σ) 0 = -9 then -9 else if w = 0 then 1 else flF (few1 (sN σ) (sT σ) i v) (sN σ) (sN σ) 0 := by unfold fewA; rw [if_neg (by rw [hfam]; decide)]
      refine zaload_n dX9_fewest_0 rfl ?_
      refine ziload_n dX9_fewest_1 rfl ?_
      refine zcVf ob_Mo gk_X9_48 dX9_fewest_2 (c_X9_isOne hM) rfl (by decide) (Nat.le_of_ble_eq_true rfl) ?_ rfl
      refine zifb_eq (tgt := 17) dX9_fewest_5 (by decide) (fun h => absurd (h.symm.trans h1p) (by decide)) (fun _ => ?_)
      refine ziload_n dX9_fewest_8 rfl ?_
      refine zbipush (v := 99) dX9_fewest_9 (by decide) ?_
      refine zcSf  gk_X9_150 dX9_fewest_11 c_wrongBy rfl (by decide) (Nat.le_of_ble_eq_true rfl) ?_ rfl
      refine zgoto (tgt := 18) dX9_fewest_14 (by decide) ?_
      refine zistore dX9_fewest_18 (by decide) rfl ?_
      refine ziload dX9_fewest_20 rfl ?_
      refine zif_ne (tgt := 38) dX9_fewest_22 (by decide) (fun h => absurd h2 h) (fun _ => ?_)
      refine ziload_n dX9_fewest_25 rfl ?_
      refine ziconst (v := 0) dX9_fewest_26 (by decide) ?_
      refine ziconst (v := 1) dX9_fewest_27 (by decide) ?_
      refine zcSf  gk_X9_44 dX9_fewest_28 c_isIn_1 rfl (by decide) (Nat.le_of_ble_eq_true rfl) ?_ rfl
      refine zifb_ne (tgt := 38) dX9_fewest_31 (by decide) (fun _ => ?_) (fun h => absurd (h.symm.trans (decide_eq_true h3)) (by decide))
      refine ziload dX9_fewest_38 rfl ?_
      refine zif_eq (tgt := 50) dX9_fewest_40 (by decide) (fun _ => ?_) (fun h => absurd h2 h)
      refine zaload_n dX9_fewest_50 rfl ?_
      refine zaload_n dX9_fewest_51 rfl ?_
      refine gf_X9_9 rfl dX9_fewest_52 ?_
      refine ziload_n dX9_fewest_55 rfl ?_
      refine ziload_n dX9_fewest_56 rfl ?_
      refine zcVr ob_Mo gk_X9_179 dX9_fewest_57 (c_X9_isFamedBehind hr1 (by decide) hM hW.1.2.1 hi (v := v)) rfl (by decide) (Nat.le_of_ble_eq_true rfl) (fun r2 S2 hp2 => ?_) rfl
      obtain ⟨rfl, hf2⟩ := hp2
      have hR2 := hR.mind hf2 (Or.inl rfl)
      refine zifb_eq (tgt := 74) dX9_fewest_60 (by decide) (fun _ => ?_) (fun h => absurd (h.symm.trans hfam) (by decide))
      refine ziconst (v := 1) dX9_fewest_74 (by decide) ?_
      refine zistore dX9_fewest_75 (by decide) rfl ?_
      refine zlvs (lv' := [(0, .ref (zad x 0)), (1, .int (nI i)), (2, .int v), (3, .int w), (5, .int (nI 1))]) ⟨rfl, rfl, rfl, rfl, rfl, trivial⟩ ?_
      rcases flF_cases (n := sN σ) (P := few1 (sN σ) (sT σ) i v) (sN σ) 0 with ⟨z, -⟩ | ⟨j, hj, z⟩
      · rw [if_pos z] at hA
        refine ziload dX9_fewest_77 rfl ?_
        refine ziconst (v := 2) dX9_fewest_79 (by decide) ?_
        refine zicmp_gt (tgt := 116) dX9_fewest_80 (by decide) (fun h => absurd h (by decide)) (fun _ => ?_)
        refine zaload_n dX9_fewest_83 rfl ?_
        refine ziload_n dX9_fewest_84 rfl ?_
        refine ziload_n dX9_fewest_85 rfl ?_
        refine ziload dX9_fewest_86 rfl ?_
        refine zcVr ob_Mo gk_X9_185 dX9_fewest_88 (c_X9_firstLender1 hR2 hW hi) rfl (by decide) (Nat.le_of_ble_eq_true rfl) (fun r3 S3 hp3 => ?_) rfl
        obtain ⟨rfl, hR3⟩ := hp3
        rw [z]
        refine zistore dX9_fewest_91 (by decide) rfl ?_
        refine ziload dX9_fewest_93 rfl ?_
        refine zif_lt (tgt := 110) dX9_fewest_95 (by decide) (fun _ => ?_) (fun h => absurd (by decide) h)
        refine ziinc dX9_fewest_110 rfl rfl (by decide) rfl ?_
        refine zgoto (tgt := 77) dX9_fewest_113 (by decide) ?_
        refine zlvs (lv' := [(0, .ref (zad x 0)), (1, .int (nI i)), (2, .int v), (3, .int w), (5, .int (nI 2))]) ⟨rfl, rfl, rfl, rfl, rfl, trivial⟩ ?_
        refine ziload dX9_fewest_77 rfl ?_
        refine ziconst (v := 2) dX9_fewest_79 (by decide) ?_
        refine zicmp_gt (tgt := 116) dX9_fewest_80 (by decide) (fun h => absurd h (by decide)) (fun _ => ?_)
        refine zaload_n dX9_fewest_83 rfl ?_
        refine ziload_n dX9_fewest_84 rfl ?_
        refine ziload_n dX9_fewest_85 rfl ?_
        refine ziload dX9_fewest_86 rfl ?_
        refine zcVr ob_Mo gk_X9_185 dX9_fewest_88 (c_X9_firstLender2 hR3 hW hi) rfl (by decide) (Nat.le_of_ble_eq_true rfl) (fun r4 S4 hp4 => ?_) rfl
        obtain ⟨rfl, hR4⟩ := hp4
        rw [few_none hi hW.1 z]
        refine zistore dX9_fewest_91 (by decide) rfl ?_
        refine ziload dX9_fewest_93 rfl ?_
        refine zif_lt (tgt := 110) dX9_fewest_95 (by decide) (fun _ => ?_) (fun h => absurd (by decide) h)
        refine ziinc dX9_fewest_110 rfl rfl (by decide) rfl ?_
        refine zgoto (tgt := 77) dX9_fewest_113 (by decide) ?_
        refine zlvs (lv' := [(0, .ref (zad x 0)), (1, .int (nI i)), (2, .int v), (3, .int w), (5, .int (nI 3))]) ⟨rfl, rfl, rfl, rfl, rfl, trivial⟩ ?_
        refine ziload dX9_fewest_77 rfl ?_
        refine ziconst (v := 2) dX9_fewest_79 (by decide) ?_
        refine zicmp_gt (tgt := 116) dX9_fewest_80 (by decide) (fun _ => ?_) (fun h => absurd (by decide) h)
        refine zbipush (v := -9) dX9_fewest_116 (by decide) ?_
        exact zireturn dX9_fewest_118 rfl rfl ⟨_, rfl, qM_ok he (by rw [nI_clamp (n := i) (by omega)]; exact hA.symm) hR4⟩
      · rw [if_neg (by rw [z]; exact nI_neN (by omega))] at hA
        refine ziload dX9_fewest_77 rfl ?_
        refine ziconst (v := 2) dX9_fewest_79 (by decide) ?_
        refine zicmp_gt (tgt := 116) dX9_fewest_80 (by decide) (fun h => absurd h (by decide)) (fun _ => ?_)
        refine zaload_n dX9_fewest_83 rfl ?_
        refine ziload_n dX9_fewest_84 rfl ?_
        refine ziload_n dX9_fewest_85 rfl ?_
        refine ziload dX9_fewest_86 rfl ?_
        refine zcVr ob_Mo gk_X9_185 dX9_fewest_88 (c_X9_firstLender1 hR2 hW hi) rfl (by decide) (Nat.le_of_ble_eq_true rfl) (fun r3 S3 hp3 => ?_) rfl
        obtain ⟨rfl, hR3⟩ := hp3
        refine zistore dX9_fewest_91 (by decide) rfl ?_
        refine ziload dX9_fewest_93 rfl ?_
        refine zif_lt (tgt := 110) dX9_fewest_95 (by decide) (fun h => absurd h (by rw [z]; exact nI_pos (by omega))) (fun _ => ?_)
        refine ziload_n dX9_fewest_98 rfl ?_
        refine zif_ne (tgt := 107) dX9_fewest_99 (by decide) (fun h99 => ?_) (fun h99 => ?_)
        · refine ziload dX9_fewest_107 rfl ?_
          first
          | exact zireturn dX9_fewest_109 rfl rfl ⟨_, rfl, qM_ok he (by rw [nI_clamp (n := i) (by omega), hA, if_neg h99]) hR3⟩
          | exact zireturn dX9_fewest_109 rfl rfl ⟨_, rfl, qM_ok he (by rw [nI_clamp (n := i) (by omega), hA, if_pos h99]; rfl) hR3⟩
        · refine ziload dX9_fewest_102 rfl ?_
          refine zgoto (tgt := 109) dX9_fewest_104 (by decide) ?_
          first
          | exact zireturn dX9_fewest_109 rfl rfl ⟨_, rfl, qM_ok he (by rw [nI_clamp (n := i) (by omega), hA, if_neg h99]) hR3⟩
          | exact zireturn dX9_fewest_109 rfl rfl ⟨_, rfl, qM_ok he (by rw [nI_clamp (n := i) (by omega), hA, if_pos h99]; rfl) hR3⟩
  · by_cases hp : isP (sN σ) f = true
    · by_cases hk : rgF v 0 99 = 0
      · have hw : ¬ whF w 2 = 0 := fun z => he (by rw [pF_yes hp, hk, z]; rfl)
        refine zaload_n dX9_fewest_0 rfl ?_
        refine ziload_n dX9_fewest_1 rfl ?_
        refine zcVf ob_Mo gk_X9_48 dX9_fewest_2 (c_X9_isOne hM) rfl (by decide) (Nat.le_of_ble_eq_true rfl) ?_ rfl
        refine zifb_eq (tgt := 17) dX9_fewest_5 (by decide) (fun h => absurd (h.symm.trans hp) (by decide)) (fun _ => ?_)
        refine ziload_n dX9_fewest_8 rfl ?_
        refine zbipush (v := 99) dX9_fewest_9 (by decide) ?_
        refine zcSf  gk_X9_150 dX9_fewest_11 c_wrongBy rfl (by decide) (Nat.le_of_ble_eq_true rfl) ?_ rfl
        refine zgoto (tgt := 18) dX9_fewest_14 (by decide) ?_
        refine zistore dX9_fewest_18 (by decide) rfl ?_
        refine ziload dX9_fewest_20 rfl ?_
        refine zif_ne (tgt := 38) dX9_fewest_22 (by decide) (fun h => absurd hk h) (fun _ => ?_)
        refine ziload_n dX9_fewest_25 rfl ?_
        refine ziconst (v := 0) dX9_fewest_26 (by decide) ?_
        refine ziconst (v := 1) dX9_fewest_27 (by decide) ?_
        refine zcSf  gk_X9_44 dX9_fewest_28 c_isIn_1 rfl (by decide) (Nat.le_of_ble_eq_true rfl) ?_ rfl
        refine zifb_ne (tgt := 38) dX9_fewest_31 (by decide) (fun h => absurd (h.symm.trans (decide_eq_false hw)) (by decide)) (fun _ => ?_)
        refine zbipush (v := -2) dX9_fewest_34 (by decide) ?_
        refine zistore dX9_fewest_36 (by decide) rfl ?_
        refine ziload dX9_fewest_38 rfl ?_
        refine zif_eq (tgt := 50) dX9_fewest_40 (by decide) (fun h => absurd h (by decide)) (fun _ => ?_)
        refine zaload_n dX9_fewest_43 rfl ?_
        refine ziload dX9_fewest_44 rfl ?_
        refine zcVf ob_Mo gk_X9_38 dX9_fewest_46 (c_X9_no isE_2) rfl (by decide) (Nat.le_of_ble_eq_true rfl) ?_ rfl
        exact zireturn dX9_fewest_49 rfl rfl ⟨_, rfl, qM_no (by rw [pF_yes hp, hk, whF_2 hw]; rfl) isE_2 hR⟩
      · refine zaload_n dX9_fewest_0 rfl ?_
        refine ziload_n dX9_fewest_1 rfl ?_
        refine zcVf ob_Mo gk_X9_48 dX9_fewest_2 (c_X9_isOne hM) rfl (by decide) (Nat.le_of_ble_eq_true rfl) ?_ rfl
        refine zifb_eq (tgt := 17) dX9_fewest_5 (by decide) (fun h => absurd (h.symm.trans hp) (by decide)) (fun _ => ?_)
        refine ziload_n dX9_fewest_8 rfl ?_
        refine zbipush (v := 99) dX9_fewest_9 (by decide) ?_
        refine zcSf  gk_X9_150 dX9_fewest_11 c_wrongBy rfl (by decide) (Nat.le_of_ble_eq_true rfl) ?_ rfl
        refine zgoto (tgt := 18) dX9_fewest_14 (by decide) ?_
        refine zistore dX9_fewest_18 (by decide) rfl ?_
        refine ziload dX9_fewest_20 rfl ?_
        refine zif_ne (tgt := 38) dX9_fewest_22 (by decide) (fun _ => ?_) (fun h => absurd h hk)
        refine ziload dX9_fewest_38 rfl ?_
        refine zif_eq (tgt := 50) dX9_fewest_40 (by decide) (fun h => absurd h hk) (fun _ => ?_)
        refine zaload_n dX9_fewest_43 rfl ?_
        refine ziload dX9_fewest_44 rfl ?_
        refine zcVf ob_Mo gk_X9_38 dX9_fewest_46 (c_X9_no (okE.e (okE_rgF _ _ _) hk)) rfl (by decide) (Nat.le_of_ble_eq_true rfl) ?_ rfl
        exact zireturn dX9_fewest_49 rfl rfl ⟨_, rfl, qM_no (by rw [pF_yes hp, fO_z, fO_n hk]) (okE.e (okE_rgF _ _ _) hk) hR⟩
    · have hp : isP (sN σ) f = false := by cases h : isP (sN σ) f; rfl; exact absurd h hp
      refine zaload_n dX9_fewest_0 rfl ?_
      refine ziload_n dX9_fewest_1 rfl ?_
      refine zcVf ob_Mo gk_X9_48 dX9_fewest_2 (c_X9_isOne hM) rfl (by decide) (Nat.le_of_ble_eq_true rfl) ?_ rfl
      refine zifb_eq (tgt := 17) dX9_fewest_5 (by decide) (fun _ => ?_) (fun h => absurd (h.symm.trans hp) (by decide))
      refine ziconst (v := -1) dX9_fewest_17 (by decide) ?_
      refine zistore dX9_fewest_18 (by decide) rfl ?_
      refine ziload dX9_fewest_20 rfl ?_
      refine zif_ne (tgt := 38) dX9_fewest_22 (by decide) (fun _ => ?_) (fun h => absurd h (by decide))
      refine ziload dX9_fewest_38 rfl ?_
      refine zif_eq (tgt := 50) dX9_fewest_40 (by decide) (fun h => absurd h (by decide)) (fun _ => ?_)
      refine zaload_n dX9_fewest_43 rfl ?_
      refine ziload dX9_fewest_44 rfl ?_
      refine zcVf ob_Mo gk_X9_38 dX9_fewest_46 (c_X9_no isE_1) rfl (by decide) (Nat.le_of_ble_eq_true rfl) ?_ rfl
      exact zireturn dX9_fewest_49 rfl rfl ⟨_, rfl, qM_no (by rw [pF_1 hp, fO_1]) isE_1 hR⟩
end FEW
