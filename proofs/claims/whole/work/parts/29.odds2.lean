/-! quarrel: what the months do to a face with scars of its own; sets and ways -/
section ODDS2
variable {n f : Nat} {T U : Tw}
theorem u2row {g : Tw} {a b k : Nat} {v : Int32} (h : ¬ k = a) : u2 g a b v k = g k := funext (fun _ => u2_w h)
theorem u2comm {g : Tw} {a b c d : Nat} {v u : Int32} (h : ¬ (a = c ∧ b = d)) : u2 (u2 g a b v) c d u = u2 (u2 g c d u) a b v := by
  funext i j
  by_cases h1 : i = a ∧ j = b
  · obtain ⟨rfl, rfl⟩ := h1
    rw [u2_ne h, u2_self, u2_self]
  · by_cases h2 : i = c ∧ j = d
    · obtain ⟨rfl, rfl⟩ := h2
      rw [u2_self, u2_ne h1, u2_self]
    · rw [u2_ne h2, u2_ne h1, u2_ne h1, u2_ne h2]
theorem u2again {g : Tw} {a b : Nat} {v u : Int32} : u2 (u2 g a b v) a b u = u2 g a b u := by
  funext i j
  by_cases h1 : i = a ∧ j = b
  · obtain ⟨rfl, rfl⟩ := h1
    rw [u2_self, u2_self]
  · rw [u2_ne h1, u2_ne h1, u2_ne h1]
theorem heldN {k : Nat} (h : k < 1000) : held (nI k) = nI (min 99 k) := by
  unfold held
  rw [if_neg (nI_pos (by omega))]
  by_cases h1 : k ≤ 99
  · rw [if_neg (show ¬ (99 : Int32) < nI k from nI_nlt (a := 99) h1 (by decide)), Nat.min_eq_right h1]
  · rw [if_pos (show (99 : Int32) < nI k from nI_lt (a := 99) (by omega) (by omega)), Nat.min_eq_left (by omega)]
    rfl
theorem schN (a b : Int32) : ∃ s, s < 2 ∧ sch a b = nI s := by
  unfold sch
  repeat' split
  all_goals first | exact ⟨1, by decide, rfl⟩ | exact ⟨0, by decide, rfl⟩
/-- a town that differs in the scars of one face alone, by d more of them -/
def Sc (f d : Nat) (T U : Tw) : Prop := ∃ a, a < 100 ∧ T 6 f = nI a ∧ U = u2 T 6 f (nI (min 99 (a + d)))
theorem Sc.rf {a : Nat} (ha : a < 100) (h : T 6 f = nI a) : Sc f 0 T T := by
  refine ⟨a, ha, h, ?_⟩
  funext i j
  by_cases h1 : i = 6 ∧ j = f
  · obtain ⟨rfl, rfl⟩ := h1
    rw [u2_self, h]
    congr 1
    omega
  · rw [u2_ne h1]
theorem Sc.more {d e : Nat} (hd : d < 300) (he : e < 300) (h : Sc f d T U) : Sc f (d + e) T (u2 U 6 f (held (U 6 f + nI e))) := by
  obtain ⟨a, ha, h1, rfl⟩ := h
  refine ⟨a, ha, h1, ?_⟩
  rw [u2again, u2_self, nI_add, heldN (by omega)]
  congr 2
  omega
theorem Sc.wear {d p : Nat} (hd : d < 300) (h : Sc f d T U) : Sc f d (wear1 n T p) (wear1 n U p) := by
  obtain ⟨a, ha, h1, rfl⟩ := h
  have e4 : u2 T 6 f (nI (min 99 (a + d))) 4 = T 4 := u2row (by decide)
  have e5 : u2 T 6 f (nI (min 99 (a + d))) 5 = T 5 := u2row (by decide)
  have e1 : u2 T 6 f (nI (min 99 (a + d))) 1 = T 1 := u2row (by decide)
  have e2 : u2 T 6 f (nI (min 99 (a + d))) 2 = T 2 := u2row (by decide)
  have e3 : u2 T 6 f (nI (min 99 (a + d))) 3 = T 3 := u2row (by decide)
  have ek : ∀ g : Int32, knowers n (u2 T 6 f (nI (min 99 (a + d)))) g = knowers n T g := fun g => by
    unfold knowers
    congr 1
  unfold wear1
  rw [e4, e5, e1, e2, ek]
  by_cases h9 : T 4 p = 9
  · rw [if_pos h9, if_pos h9]
    exact ⟨a, ha, h1, rfl⟩
  · rw [if_neg h9, if_neg h9]
    obtain ⟨s, s1, s2⟩ := schN (T 1 p) (T 2 p)
    rw [s2]
    by_cases hg : (T 4 p).toNatClampNeg = f
    · rw [hg, h1, u2_self, nI_add, nI_add, heldN (by omega), heldN (by omega)]
      refine ⟨min 99 (a + s), by omega, u2_self, ?_⟩
      rw [u2comm (a := 6) (b := f) (c := 5) (d := f) (by omega), u2again, u2again]
      congr 2
      omega
    · refine ⟨a, ha, ?_, ?_⟩
      · rw [u2_ne (fun z => hg z.2.symm), u2_ne (by omega)]
        exact h1
      · rw [u2_ne (a := 6) (c := f) (fun z => hg z.2), u2comm (a := 6) (b := f) (by omega), u2comm (a := 6) (b := f) (fun z => hg z.2.symm)]
theorem back6 {g : Nat} {v : Int32} : backT n (u2 T 6 f v) g = u2 (backT n T g) 6 f v ∧ backT n T g 6 = T 6 := by
  have e4 : u2 T 6 f v 4 = T 4 := u2row (by decide)
  unfold backT
  rw [e4]
  by_cases h : wF (T 4) (nI g) n 0 = -9
  · rw [if_pos h, if_pos h, u2comm (a := 6) (by omega), u2comm (a := 6) (by omega), u2row (k := 6) (by decide), u2row (k := 6) (by decide)]
    exact ⟨rfl, rfl⟩
  · rw [if_neg h, if_neg h, u2comm (a := 6) (by omega), u2comm (a := 6) (by omega), u2comm (a := 6) (by omega), u2row (k := 6) (by decide), u2row (k := 6) (by decide), u2row (k := 6) (by decide)]
    exact ⟨rfl, rfl⟩
theorem Sc.lend {d g : Nat} (h : Sc f d T U) : Sc f d (lend1 n T g) (lend1 n U g) := by
  obtain ⟨a, ha, h1, rfl⟩ := h
  have e7 : u2 T 6 f (nI (min 99 (a + d))) 7 = T 7 := u2row (by decide)
  unfold lend1
  rw [e7]
  by_cases h2 : 12 ≤ T 7 g
  · rw [if_pos h2, if_pos h2]
    exact ⟨a, ha, by rw [(back6 (f := f) (v := 0)).2]; exact h1, back6.1⟩
  · rw [if_neg h2, if_neg h2]
    by_cases h3 : 0 < T 7 g
    · rw [if_pos h3, if_pos h3]
      exact ⟨a, ha, by rw [u2_w (by decide)]; exact h1, by rw [u2comm (by omega)]⟩
    · rw [if_neg h3, if_neg h3]
      exact ⟨a, ha, h1, rfl⟩
theorem Sc.wears {d : Nat} (hd : d < 300) : ∀ (k i : Nat) (T U : Tw), Sc f d T U → Sc f d (wearF n k i T) (wearF n k i U) := by
  intro k
  induction k with
  | zero => intro i T U h; exact h
  | succ k ih => intro i T U h; exact ih (i + 1) _ _ (h.wear hd)
theorem Sc.lends {d : Nat} : ∀ (k i : Nat) (T U : Tw), Sc f d T U → Sc f d (lendF n k i T) (lendF n k i U) := by
  intro k
  induction k with
  | zero => intro i T U h; exact h
  | succ k ih => intro i T U h; exact ih (i + 1) _ _ h.lend
theorem Sc.month {d : Nat} (hd : d < 300) (h : Sc f d T U) : Sc f d (monthT n T) (monthT n U) := Sc.lends n 0 _ _ (Sc.wears hd n 0 _ _ h)
/-- bits -/
def popR (s : Nat) : Nat → Nat → Nat
  | 0, _ => 0
  | k + 1, i => bif s.testBit i then popR s k (i + 1) + 1 else popR s k (i + 1)
theorem popR_le (s : Nat) : ∀ k i, popR s k i ≤ k := by
  intro k
  induction k with
  | zero => intro i; exact Nat.le_refl 0
  | succ k ih =>
    intro i
    have := ih (i + 1)
    unfold popR
    cases s.testBit i <;> simp <;> omega
def bitAll : Bool := (List.range 128).all (fun s => (List.range 7).all (fun i => bitB (nI s) i == s.testBit i))
theorem bitAll_t : bitAll = true := by decide +kernel
theorem bitN {s i : Nat} (hs : s < 128) (hi : i < 7) : decide (((nI s) >>> (nI i &&& 31)) &&& 1 = 1) = s.testBit i := by
  have h := bitAll_t
  unfold bitAll at h
  have h2 := List.all_eq_true.mp (List.all_eq_true.mp h s (List.mem_range.mpr hs)) i (List.mem_range.mpr hi)
  exact beq_iff_eq.mp h2
/-- the class's sum, by how many quarrels; the reference's, by sets -/
def wayF (th n t : Nat) : Nat → Nat → Nat → Nat → Nat
  | 0, _, w, _ => w
  | k + 1, i, w, c => wayF th n t k (i + 1) (bif Nat.ble th i then w + c * (t - 1) ^ (n - i) else w) (c * (n - i) / (i + 1))
def setF (th n t : Nat) : Nat → Nat → Nat → Nat
  | 0, _, w => w
  | k + 1, i, w => setF th n t k (i + 1) (bif Nat.ble th (popR i n 0) then w + (t - 1) ^ (n - popR i n 0) else w)
def wayV (th n t : Nat) : Nat := wayF th n t (n + 1) 0 0 1
def qOk (n : Nat) : Bool := (List.range 21).all (fun t => (List.range 9).all (fun th => Nat.beq (setF th n t (2 ^ n) 0 0) (wayV th n t) && Nat.ble (wayV th n t) (2 ^ 40)))

theorem qOk_0 : qOk 0 = true := by decide +kernel
theorem qOk_1 : qOk 1 = true := by decide +kernel
theorem qOk_2 : qOk 2 = true := by decide +kernel
theorem qOk_3 : qOk 3 = true := by decide +kernel
theorem qOk_4 : qOk 4 = true := by decide +kernel
theorem qOk_5 : qOk 5 = true := by decide +kernel
theorem qOk_6 : qOk 6 = true := by decide +kernel
theorem qOk_7 : qOk 7 = true := by decide +kernel
theorem qOk_all {n : Nat} (h : n ≤ 7) : qOk n = true := by
  rcases (show n = 0 ∨ n = 1 ∨ n = 2 ∨ n = 3 ∨ n = 4 ∨ n = 5 ∨ n = 6 ∨ n = 7 by omega) with rfl | rfl | rfl | rfl | rfl | rfl | rfl | rfl
  · exact qOk_0
  · exact qOk_1
  · exact qOk_2
  · exact qOk_3
  · exact qOk_4
  · exact qOk_5
  · exact qOk_6
  · exact qOk_7
theorem way_set {th n t : Nat} (hn : n ≤ 7) (ht : t ≤ 20) (hh : th ≤ 8) : setF th n t (2 ^ n) 0 0 = wayV th n t ∧ wayV th n t ≤ 2 ^ 40 := by
  have h := qOk_all hn
  unfold qOk at h
  have h2 := List.all_eq_true.mp (List.all_eq_true.mp h t (List.mem_range.mpr (by omega))) th (List.mem_range.mpr (by omega))
  have h3 := (Bool.and_eq_true _ _).mp h2
  exact ⟨Nat.eq_of_beq_eq_true h3.1, Nat.le_of_ble_eq_true h3.2⟩
def thr (a v : Nat) : Nat := min 8 ((v - a + 2) / 3)
theorem thr_le (a v : Nat) : thr a v ≤ 8 := by unfold thr; omega
theorem thr_iff {a v i : Nat} (hv : v ≤ 99) (hi : i ≤ 7) : v ≤ min 99 (a + 3 * i) ↔ thr a v ≤ i := by unfold thr; omega
end ODDS2
