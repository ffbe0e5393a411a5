/-! What a telling says: shapes, statements, towns -/
section TELL0
variable {L : Nat → Nat} {N : Nat}
def shp (c : Nat) : Nat := if c = 112 then 2 else if c = 98 then 3 else if c = 107 ∨ c = 108 ∨ c = 109 then 4 else if c = 102 then 5 else 0
def sln (i : Nat) : Nat := sLen.getD i 0
def due (i k : Nat) : Int32 := (sByt.getD i []).getD k 0
def fitB (c : Nat) (d : Int32) : Bool := if d = 48 then decide (48 ≤ c ∧ c ≤ 57) else if d = 107 then decide (0 ≤ kindN c) else decide (nI c = d)
theorem shp_lt (c : Nat) : shp c < 6 := by unfold shp; repeat' split
                                           all_goals decide
theorem sln_lt : ∀ i, i < 6 → sln i < 5 ∨ i = 1 := by decide +kernel
def brkF (L : Nat → Nat) (N : Nat) : Nat → Nat → Nat → Nat → Option Nat
  | 0, _, i, s => if N = 0 ∨ s < sln i then some N else none
  | k + 1, a, i, s => if s < sln i then (if fitB (L a) (due i s) = true then brkF L N k (a + 1) i (s + 1) else some a) else if sln (shp (L a)) = 0 then some a else brkF L N k (a + 1) (shp (L a)) 0
def brkI (o : Option Nat) : Int32 := match o with
  | none => -9
  | some q => nI q
def mt (L : Nat → Nat) (N i : Nat) : Nat → Nat → Nat → Bool × Nat
  | 0, _, p => (true, p)
  | k + 1, s, p => if p < N ∧ fitB (L p) (due i s) = true then mt L N i k (s + 1) (p + 1) else (false, p)
def rsF (L : Nat → Nat) (N p : Nat) : Bool × Nat := if p < N ∧ ¬ sln (shp (L p)) = 0 then mt L N (shp (L p)) (sln (shp (L p))) 0 (p + 1) else (false, p)
def okS (L : Nat → Nat) (N p : Nat) : Prop := ¬ sln (shp (L p)) = 0 ∧ p + sln (shp (L p)) < N ∧ ∀ s, s < sln (shp (L p)) → fitB (L (p + 1 + s)) (due (shp (L p)) s) = true
theorem mt_t {i : Nat} : ∀ (k s p : Nat), (mt L N i k s p).1 = true → (mt L N i k s p).2 = p + k ∧ (0 < k → p + k ≤ N) ∧ ∀ j, j < k → fitB (L (p + j)) (due i (s + j)) = true := by
  intro k
  induction k with
  | zero => intro s p h; exact ⟨rfl, fun z => absurd z (Nat.lt_irrefl 0), fun j hj => absurd hj (Nat.not_lt_zero j)⟩
  | succ k ih =>
    intro s p h
    rw [mt] at h ⊢
    by_cases hq : p < N ∧ fitB (L p) (due i s) = true
    · rw [if_pos hq] at h ⊢
      obtain ⟨h1, h2, h3⟩ := ih (s + 1) (p + 1) h
      refine ⟨by omega, fun _ => by by_cases hk : 0 < k; have := h2 hk; omega; omega, fun j hj => ?_⟩
      cases j with
      | zero => exact hq.2
      | succ j =>
        have := h3 j (by omega)
        rw [show p + (j + 1) = p + 1 + j by omega, show s + (j + 1) = s + 1 + j by omega]
        exact this
    · rw [if_neg hq] at h; exact absurd h Bool.false_ne_true
theorem rsF_t {p : Nat} (h : (rsF L N p).1 = true) : (rsF L N p).2 = p + 1 + sln (shp (L p)) ∧ okS L N p := by
  unfold rsF at h ⊢
  by_cases hq : p < N ∧ ¬ sln (shp (L p)) = 0
  · rw [if_pos hq] at h ⊢
    obtain ⟨h1, h2, h3⟩ := mt_t _ _ _ h
    refine ⟨h1, hq.2, by have := h2 (by omega); omega, fun s hs => ?_⟩
    have := h3 s hs
    rw [Nat.zero_add] at this
    exact this
  · rw [if_neg hq] at h; exact absurd h Bool.false_ne_true
/-- the class looks at signs, the reference at statements -/
theorem brk_mt {i : Nat} : ∀ (m k s a : Nat), m + s = sln i → a + k = N → brkF L N k a i s = if (mt L N i m s a).1 = true then brkF L N (N - (mt L N i m s a).2) (mt L N i m s a).2 i (sln i) else some (mt L N i m s a).2 := by
  intro m
  induction m with
  | zero =>
    intro k s a hm ha
    rw [mt, if_pos rfl]
    show brkF L N k a i s = brkF L N (N - a) a i (sln i)
    rw [show N - a = k by omega, show s = sln i by omega]
  | succ m ih =>
    intro k s a hm ha
    cases k with
    | zero =>
      have e : mt L N i (m + 1) s a = (false, a) := by rw [mt, if_neg (fun z => by omega)]
      rw [e, if_neg Bool.false_ne_true, brkF, if_pos (Or.inr (by omega))]
      congr 1
      omega
    | succ k =>
      rw [brkF, if_pos (by omega)]
      by_cases hf : fitB (L a) (due i s) = true
      · have e : mt L N i (m + 1) s a = mt L N i m (s + 1) (a + 1) := by rw [mt, if_pos ⟨by omega, hf⟩]
        rw [if_pos hf, e]
        exact ih k (s + 1) (a + 1) (by omega) (by omega)
      · have e : mt L N i (m + 1) s a = (false, a) := by rw [mt, if_neg (fun z => hf z.2)]
        rw [if_neg hf, e, if_neg Bool.false_ne_true]
theorem brk_bnd {k a i : Nat} : brkF L N k a i (sln i) = brkF L N k a 0 0 := by
  have h0 : ¬ sln i < sln i := Nat.lt_irrefl _
  have h1 : ¬ 0 < sln 0 := by decide
  cases k with
  | zero => rw [brkF, brkF]; simp only [h0, h1]
  | succ k => rw [brkF, brkF, if_neg h0, if_neg h1]
theorem brk_rs {p : Nat} (hp : p < N) : brkF L N (N - p) p 0 0 = if (rsF L N p).1 = true then brkF L N (N - (rsF L N p).2) (rsF L N p).2 0 0 else some (rsF L N p).2 := by
  obtain ⟨k, hk⟩ : ∃ k, N - p = k + 1 := ⟨N - p - 1, by omega⟩
  rw [hk, brkF, if_neg (by decide)]
  by_cases hz : sln (shp (L p)) = 0
  · have e : rsF L N p = (false, p) := by unfold rsF; rw [if_neg (fun z => z.2 hz)]
    rw [if_pos hz, e, if_neg Bool.false_ne_true]
  · have e : rsF L N p = mt L N (shp (L p)) (sln (shp (L p))) 0 (p + 1) := by unfold rsF; rw [if_pos ⟨hp, hz⟩]
    rw [if_neg hz, e, brk_mt (sln (shp (L p))) k 0 (p + 1) (by omega) (by omega), brk_bnd]
def vld (L : Nat → Nat) (N : Nat) : Nat → Nat → Prop
  | 0, p => p = N
  | f + 1, p => p = N ∨ (okS L N p ∧ vld L N f (p + 1 + sln (shp (L p))))
theorem vld_of : ∀ (f p : Nat), p ≤ N → N - p ≤ f → brkF L N (N - p) p 0 0 = none → vld L N f p := by
  intro f
  induction f with
  | zero => intro p h1 h2 _; exact (by omega : p = N)
  | succ f ih =>
    intro p h1 h2 h3
    by_cases hp : p = N
    · exact Or.inl hp
    · rw [brk_rs (by omega)] at h3
      by_cases hr : (rsF L N p).1 = true
      · rw [if_pos hr] at h3
        obtain ⟨e, ho⟩ := rsF_t hr
        rw [e] at h3
        refine Or.inr ⟨ho, ih _ (by have := ho.2.1; omega) (by omega) h3⟩
      · rw [if_neg hr] at h3; cases h3
theorem brk0 : brkF L 0 0 0 0 0 = some 0 := rfl
/-- signs of a statement -/
theorem fit48 {c : Nat} (h : fitB c 48 = true) : 48 ≤ c ∧ c ≤ 57 := by
  unfold fitB at h
  rw [if_pos rfl] at h
  exact of_decide_eq_true h
theorem kindN_all : ∀ c : Nat, 0 ≤ kindN c → ∃ kd, kd < 6 ∧ kindN c = nI kd := by
  intro c h
  unfold kindN at h ⊢
  repeat' split
  · exact ⟨0, by decide, rfl⟩
  · exact ⟨1, by decide, rfl⟩
  · exact ⟨2, by decide, rfl⟩
  · exact ⟨3, by decide, rfl⟩
  · exact ⟨4, by decide, rfl⟩
  · exact ⟨5, by decide, rfl⟩
  · simp_all

theorem fit107 {c : Nat} (h : fitB c 107 = true) : ∃ kd, kd < 6 ∧ kindN c = nI kd := by
  unfold fitB at h
  rw [if_neg (by decide), if_pos rfl] at h
  exact kindN_all c (of_decide_eq_true h)
theorem heads {c : Nat} (h : ¬ sln (shp c) = 0) : c = 112 ∨ c = 98 ∨ c = 107 ∨ c = 108 ∨ c = 109 ∨ c = 102 := by
  unfold shp at h
  repeat' split at h
  all_goals first | omega | exact absurd rfl h
theorem shp112 : shp 112 = 2 := by decide
theorem shp98 : shp 98 = 3 := by decide
theorem shp107 : shp 107 = 4 := by decide
theorem shp108 : shp 108 = 4 := by decide
theorem shp109 : shp 109 = 4 := by decide
theorem shp102 : shp 102 = 5 := by decide
theorem okS_p {p : Nat} (h : okS L N p) (hc : L p = 112) : p + 3 < N ∧ (∃ kd, kd < 6 ∧ kindN (L (p + 1)) = nI kd) ∧ 48 ≤ L (p + 2) ∧ L (p + 2) ≤ 57 := by
  obtain ⟨-, h2, h3⟩ := h
  rw [hc, shp112] at h2 h3
  exact ⟨h2, fit107 (h3 0 (by decide)), fit48 (h3 1 (by decide))⟩
theorem okS_b {p : Nat} (h : okS L N p) (hc : L p = 98) : p + 2 < N ∧ 48 ≤ L (p + 1) ∧ L (p + 1) ≤ 57 := by
  obtain ⟨-, h2, h3⟩ := h
  rw [hc, shp98] at h2 h3
  exact ⟨h2, fit48 (h3 0 (by decide))⟩
theorem okS_2 {p : Nat} (h : okS L N p) (hc : L p = 107 ∨ L p = 108 ∨ L p = 109) : p + 3 < N ∧ (48 ≤ L (p + 1) ∧ L (p + 1) ≤ 57) ∧ 48 ≤ L (p + 2) ∧ L (p + 2) ≤ 57 := by
  obtain ⟨-, h2, h3⟩ := h
  have e : shp (L p) = 4 := by rcases hc with hc | hc | hc <;> rw [hc] <;> decide
  rw [e] at h2 h3
  exact ⟨h2, fit48 (h3 0 (by decide)), fit48 (h3 1 (by decide))⟩
theorem okS_f {p : Nat} (h : okS L N p) (hc : L p = 102) : p + 4 < N ∧ (48 ≤ L (p + 1) ∧ L (p + 1) ≤ 57) ∧ (48 ≤ L (p + 2) ∧ L (p + 2) ≤ 57) ∧ 48 ≤ L (p + 3) ∧ L (p + 3) ≤ 57 := by
  obtain ⟨-, h2, h3⟩ := h
  rw [hc, shp102] at h2 h3
  exact ⟨h2, fit48 (h3 0 (by decide)), fit48 (h3 1 (by decide)), fit48 (h3 2 (by decide))⟩
/-- what a statement does to a town -/
abbrev Tau : Type := Nat × Tw × Int32
def stL (t : Tau) (a b : Nat) : Option Tau := if a < t.1 ∧ b < t.1 ∧ ¬ a = b ∧ t.2.1 4 a = nI a ∧ t.2.1 4 b = nI b then some (t.1, handT t.2.1 a b, t.2.2) else none
def stB (t : Tau) (a : Nat) : Option Tau := if a < t.1 ∧ 0 < t.2.1 7 a then some (t.1, backT t.1 t.2.1 a, t.2.2) else none
def stK (t : Tau) (a b : Nat) : Option Tau := if a < t.1 ∧ b < t.1 then some (t.1, u2 t.2.1 3 a (t.2.1 3 a ^^^ (1 <<< (nI b &&& 31))), t.2.2) else none
def stF (t : Tau) (a v : Nat) : Option Tau := if a < t.1 then some (t.1, u2 t.2.1 5 a (nI v), t.2.2) else none
def stM (t : Tau) (v : Nat) : Option Tau := if 1 ≤ v ∧ v ≤ 60 ∧ t.2.2 + nI v ≤ 999 then some (t.1, monthsT t.1 v t.2.1, t.2.2 + nI v) else none
def stP (t : Tau) (kd : Int32) (g : Nat) : Option Tau := if t.1 = 8 then none else some (t.1 + 1, addT t.1 t.2.1 kd (nI g), t.2.2)
def stS (L : Nat → Nat) (p : Nat) (t : Tau) : Option Tau :=
  if L p = 112 then stP t (kindN (L (p + 1))) (L (p + 2) - 48)
  else if L p = 108 then stL t (L (p + 1) - 48) (L (p + 2) - 48)
  else if L p = 98 then stB t (L (p + 1) - 48)
  else if L p = 107 then stK t (L (p + 1) - 48) (L (p + 2) - 48)
  else if L p = 102 then stF t (L (p + 1) - 48) (10 * (L (p + 2) - 48) + (L (p + 3) - 48))
  else stM t (10 * (L (p + 1) - 48) + (L (p + 2) - 48))
def runF (L : Nat → Nat) (N : Nat) : Nat → Nat → Nat → Tau → Int32 × Option Tau
  | 0, _, c, t => (nI c, some t)
  | f + 1, p, c, t => if p < N then (match stS L p t with
    | none => (-2000 - nI p, none)
    | some u => runF L N f (p + 1 + sln (shp (L p))) (c + 1) u) else (nI c, some t)
def cntT (L : Nat → Nat) (N : Nat) : Nat → Nat → Nat
  | 0, _ => 0
  | f + 1, p => if p < N then cntT L N f (p + 1 + sln (shp (L p))) + 1 else 0
theorem run_cnt : ∀ (f p c : Nat) (t u : Tau), (runF L N f p c t).2 = some u → (runF L N f p c t).1 = nI (c + cntT L N f p) := by
  intro f
  induction f with
  | zero => intro p c t u _; rfl
  | succ f ih =>
    intro p c t u h
    rw [runF] at h ⊢
    rw [cntT]
    by_cases hp : p < N
    · rw [if_pos hp] at h ⊢
      rw [if_pos hp]
      cases hs : stS L p t with
      | none => rw [hs] at h; cases h
      | some v =>
        rw [hs] at h
        rw [ih _ _ _ u h]
        congr 1
        omega
    · rw [if_neg hp] at h ⊢
      rw [if_neg hp]
      rfl
theorem cnt_le : ∀ (f p : Nat), cntT L N f p ≤ f := by
  intro f
  induction f with
  | zero => intro p; exact Nat.le_refl 0
  | succ f ih =>
    intro p
    rw [cntT]
    split
    · exact Nat.succ_le_succ (ih _)
    · omega
theorem st_wft {p : Nat} {t u : Tau} (hok : okS L N p) (hW : WFT t.1 t.2.1) (h : stS L p t = some u) : WFT u.1 u.2.1 := by
  have hn := hW.1
  unfold stS at h
  by_cases h1 : L p = 112
  · rw [if_pos h1] at h
    obtain ⟨-, ⟨kd, k1, k2⟩, -⟩ := okS_p hok h1
    unfold stP at h
    split at h
    · cases h
    · cases h
      rw [k2]
      exact hW.add (by omega) k1
  · rw [if_neg h1] at h
    by_cases h2 : L p = 108
    · rw [if_pos h2] at h
      unfold stL at h
      split at h
      · rename_i q
        cases h
        exact hW.hand q.1 q.2.1 q.2.2.1 q.2.2.2.1 q.2.2.2.2
      · cases h
    · rw [if_neg h2] at h
      by_cases h3 : L p = 98
      · rw [if_pos h3] at h
        unfold stB at h
        split at h
        · rename_i q
          cases h
          exact hW.back q.1 (fun z => absurd q.2 (by rw [z]; decide))
        · cases h
      · rw [if_neg h3] at h
        by_cases h4 : L p = 107
        · rw [if_pos h4] at h
          unfold stK at h
          split at h
          · cases h
            exact hW.put (by decide) (by decide) (fun z => absurd z (by decide)) (fun z => by omega)
          · cases h
        · rw [if_neg h4] at h
          by_cases h5 : L p = 102
          · rw [if_pos h5] at h
            obtain ⟨-, -, g1, g2⟩ := okS_f hok h5
            unfold stF at h
            split at h
            · cases h
              exact hW.put (by decide) (by decide) (fun z => absurd z (by decide)) (fun _ => ⟨_, by omega, rfl⟩)
            · cases h
          · rw [if_neg h5] at h
            unfold stM at h
            split at h
            · cases h
              exact WFT.months _ _ hW
            · cases h
theorem run_wft : ∀ (f p c : Nat) (t u : Tau), vld L N f p → WFT t.1 t.2.1 → (runF L N f p c t).2 = some u → WFT u.1 u.2.1 := by
  intro f
  induction f with
  | zero => intro p c t u _ hW h; cases h; exact hW
  | succ f ih =>
    intro p c t u hv hW h
    rw [runF] at h
    by_cases hp : p < N
    · rw [if_pos hp] at h
      rcases hv with hv | ⟨ho, hv⟩
      · omega
      · cases hs : stS L p t with
        | none => rw [hs] at h; cases h
        | some v => rw [hs] at h; exact ih _ _ v u hv (st_wft ho hW hs) h
    · rw [if_neg hp] at h; cases h; exact hW
/-- the answer of town, and the town behind it -/
def townA (L : Nat → Nat) (N : Nat) (t : Tau) : Int32 := match brkF L N N 0 0 0 with
  | some q => -1000 - nI q
  | none => (runF L N N 0 0 t).1
def townT (L : Nat → Nat) (N : Nat) (t : Tau) : Tau := match brkF L N N 0 0 0 with
  | some _ => t
  | none => (match (runF L N N 0 0 t).2 with
    | none => t
    | some u => u)
theorem town_wft {t : Tau} (hW : WFT t.1 t.2.1) : WFT (townT L N t).1 (townT L N t).2.1 := by
  unfold townT
  cases hb : brkF L N N 0 0 0 with
  | some q => exact hW
  | none =>
    have hv : vld L N N 0 := vld_of N 0 (Nat.zero_le N) (Nat.sub_le N 0) hb
    cases hr : (runF L N N 0 0 t).2 with
    | none => exact hW
    | some u => exact run_wft N 0 0 t u hv hW hr
end TELL0
