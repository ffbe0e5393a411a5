/-! The places' lemmas, the methods (name, code, locals, answer, level), the links by pool index -/
def tp (t : Nat) : Nat := 8 + 8 * t
theorem tpk {t w : Nat} (ht : t < 3) (hw : w < 8) : tp t + w < zN true := by
  have : zN true = 39 := rfl
  unfold tp; omega
theorem tp3 {t : Nat} (ht : t < 3) : t = 0 ∨ t = 1 ∨ t = 2 := by omega
theorem tpk0 {t : Nat} (ht : t < 3) : tp t < zN true := tpk (w := 0) ht (by decide)
theorem tpl {t : Nat} (ht : t < 3) : zlay true (tp t) = .inr (.inl (7, [some 1, some (tp t + 1), some (tp t + 2), some (tp t + 3), some (tp t + 4), some (tp t + 5), some (tp t + 6), some (tp t + 7), none, none])) := by
  rcases tp3 ht with rfl | rfl | rfl <;> rfl
theorem tpa {t w : Nat} (ht : t < 3) (h0 : 0 < w) (hw : w < 8) : zlay true (tp t + w) = .inl 8 := by
  have h : w = 1 ∨ w = 2 ∨ w = 3 ∨ w = 4 ∨ w = 5 ∨ w = 6 ∨ w = 7 := by omega
  rcases tp3 ht with rfl | rfl | rfl <;> rcases h with rfl | rfl | rfl | rfl | rfl | rfl | rfl <;> rfl
theorem mrl {k : Nat} (h0 : 0 < k) (h : k < 6) : zlay false k = .inl 58 := by
  have h : k = 1 ∨ k = 2 ∨ k = 3 ∨ k = 4 ∨ k = 5 := by omega
  rcases h with rfl | rfl | rfl | rfl | rfl <;> rfl
theorem mrk {k : Nat} (h : k < 6) : k < zN false := by
  have : zN false = 10 := rfl
  omega
def zOb (b : Bool) (k : Nat) (C : String) : Prop := k < zN b ∧ ∃ (ci : Nat) (fs : List (Option Nat)) (T : u_T) (Nf : Nat), zlay b k = .inr (.inl (ci, fs)) ∧ vwCl[ci]? = some (C, T, Nf)
theorem ob_town {t : Nat} (ht : t < 3) : zOb true (tp t) RX7 := ⟨tpk0 ht, 7, _, TX7, 10, tpl ht, rfl⟩
theorem ob_X : zOb true 0 RX8 := ⟨by decide, 8, _, TX8, 11, rfl, rfl⟩
theorem ob_Te : zOb true 32 RX6 := ⟨by decide, 6, _, TX6, 2, rfl, rfl⟩
theorem ob_Mo : zOb false 0 RX9 := ⟨by decide, 9, _, TX9, 14, rfl, rfl⟩
def zNm (M' : zM) (n : Nat) : Prop := (M'.1.cls ≠ "java/lang/invoke/MethodHandle" ∧ M'.1.cls ≠ "java/lang/invoke/VarHandle" ∧ (parseMethodDescriptor M'.1.desc).map (fun d => d.parameters.length) = some n) ∧ M'.2.2.1 ≤ 19
def zLkS (own : String) (idx : Nat) (M' : zM) (n : Nat) : Prop := GoodIn wsL_law (va_wsS own idx M'.1 [.code M'.1 M'.2.1 M'.2.2.1 M'.2.2.2.1]) ∧ zNm M' n
def zLkV (own : String) (idx : Nat) (M' : zM) (n : Nat) : Prop := GoodIn wsL_law (wsV own idx M'.1.cls M'.1 [.code M'.1 M'.2.1 M'.2.2.1 M'.2.2.2.1]) ∧ zNm M' n
/-- a nest mate's static method -/
def zLkN (own : String) (idx : Nat) (M' : zM) (n : Nat) : Prop := Cond.methodLinkNest own idx M'.1 "EachLendsHisFace" ∈ lw_tbl ∧ GoodIn wsL_law [.static M'.1, .initialized M'.1.cls, .code M'.1 M'.2.1 M'.2.2.1 M'.2.2.2.1] ∧ zNm M' n
section ZC
variable {x : zCx} {b : Bool} {M M' : zM} {post : Option Value → zSt → Prop} {pc idx n : Nat} {lv : List (Nat × Value)} {st as rest : List Value} {S S' : zSt} {v : Value}
theorem zcallSN {post' : Option Value → zSt → Prop} (hC : zC x b M' as S post') (d : decode M.2.1 pc = .ok (.invokestatic idx, 3)) (g : zLkN M.1.cls idx M' n) (hn : as.length = n) (hR : M'.2.2.2.2 < M.2.2.2.2) (hrest : (rest.map fun v => v.category).sum ≤ 8) (kk : ∀ r S', post' r S' → zZ x b M post (pc + 3) lv (r.toList ++ rest) S') (hst : st = as.reverse ++ rest) : zZ x b M post pc lv st S := by
  subst hst
  obtain ⟨g1, g2, g3, g4⟩ := g
  intro p e s m args below meth c H locs ls F hP hS hl
  have ht : ∀ w ∈ wsL_law, w.before args s = true := fun w h => F.2.2.2.2.2.2.2.1 w h _
  have hG : GoodIn wsL_law [.code M'.1 M'.2.1 M'.2.2.1 M'.2.2.2.1] := fun w h => g2 w (List.mem_cons_of_mem _ (List.mem_cons_of_mem _ h))
  exact zrun (va_runSN (nL := M.2.2.1) (rest := rest) ⟨F.1, F.2.1, F.2.2.1, F.2.2.2.1, ht⟩ hC ⟨va_cnB n ht hG rfl rfl rfl (F.2.2.2.2.2.2.2.2.1 _ g1 rfl) (ht _ (g2 _ (List.mem_cons_of_mem _ List.mem_cons_self)).1) g3 (zfit hR g4), ht _ (g2 _ List.mem_cons_self).1, trivial⟩ (zpre F.2.2.2.2.2.2 hP hS) rfl hn hl.1 rfl (lv_room hrest) d ⟨Nat.le_refl 0, Nat.le_refl 0⟩) hS (fun r S' H1 locs1 hp hP1 hS1 => kk r S' hp p e s m args below meth c H1 locs1 ls F hP1 hS1 hl)
def zR (x : zCx) (b : Bool) (M : zM) (as : List Value) (S : zSt) (P : Int32 → zSt → Prop) : Prop := zC x b M as S (fun q T => ∃ v : Int32, q = some (.int v) ∧ P v T)
def zV (x : zCx) (b : Bool) (M : zM) (as : List Value) (S : zSt) (P : zSt → Prop) : Prop := zC x b M as S (fun q T => q = none ∧ P T)

theorem zcSf (g : zLkS M.1.cls idx M' n) (d : decode M.2.1 pc = .ok (.invokestatic idx, 3)) (hC : zF x b M' as S (some v) S') (hn : as.length = n) (hR : M'.2.2.2.2 < M.2.2.2.2) (hrest : (rest.map fun v => v.category).sum ≤ 8) (kk : zZ x b M post (pc + 3) lv (v :: rest) S') (hst : st = as.reverse ++ rest) : zZ x b M post pc lv st S := zcallS hC d g.1 g.2.1 hn hR g.2.2 hrest (fun r T h => by rw [h.1, h.2]; exact kk) hst
theorem zcSv (g : zLkS M.1.cls idx M' n) (d : decode M.2.1 pc = .ok (.invokestatic idx, 3)) (hC : zF x b M' as S none S') (hn : as.length = n) (hR : M'.2.2.2.2 < M.2.2.2.2) (hrest : (rest.map fun v => v.category).sum ≤ 8) (kk : zZ x b M post (pc + 3) lv rest S') (hst : st = as.reverse ++ rest) : zZ x b M post pc lv st S := zcallS hC d g.1 g.2.1 hn hR g.2.2 hrest (fun r T h => by rw [h.1, h.2]; exact kk) hst
theorem zcSr (g : zLkS M.1.cls idx M' n) (d : decode M.2.1 pc = .ok (.invokestatic idx, 3)) {P : Int32 → zSt → Prop} (hC : zR x b M' as S P) (hn : as.length = n) (hR : M'.2.2.2.2 < M.2.2.2.2) (hrest : (rest.map fun v => v.category).sum ≤ 8) (kk : ∀ r T, P r T → zZ x b M post (pc + 3) lv (.int r :: rest) T) (hst : st = as.reverse ++ rest) : zZ x b M post pc lv st S := zcallS hC d g.1 g.2.1 hn hR g.2.2 hrest (fun r T h => by obtain ⟨v, rfl, h⟩ := h; exact kk v T h) hst
theorem zcSn (g : zLkS M.1.cls idx M' n) (d : decode M.2.1 pc = .ok (.invokestatic idx, 3)) {P : zSt → Prop} (hC : zV x b M' as S P) (hn : as.length = n) (hR : M'.2.2.2.2 < M.2.2.2.2) (hrest : (rest.map fun v => v.category).sum ≤ 8) (kk : ∀ T, P T → zZ x b M post (pc + 3) lv rest T) (hst : st = as.reverse ++ rest) : zZ x b M post pc lv st S := zcallS hC d g.1 g.2.1 hn hR g.2.2 hrest (fun r T h => by obtain ⟨rfl, h⟩ := h; exact kk T h) hst
theorem zcNf (g : zLkN M.1.cls idx M' n) (d : decode M.2.1 pc = .ok (.invokestatic idx, 3)) (hC : zF x b M' as S (some v) S') (hn : as.length = n) (hR : M'.2.2.2.2 < M.2.2.2.2) (hrest : (rest.map fun v => v.category).sum ≤ 8) (kk : zZ x b M post (pc + 3) lv (v :: rest) S') (hst : st = as.reverse ++ rest) : zZ x b M post pc lv st S := zcallSN hC d g hn hR hrest (fun r T h => by rw [h.1, h.2]; exact kk) hst
theorem zcNv (g : zLkN M.1.cls idx M' n) (d : decode M.2.1 pc = .ok (.invokestatic idx, 3)) (hC : zF x b M' as S none S') (hn : as.length = n) (hR : M'.2.2.2.2 < M.2.2.2.2) (hrest : (rest.map fun v => v.category).sum ≤ 8) (kk : zZ x b M post (pc + 3) lv rest S') (hst : st = as.reverse ++ rest) : zZ x b M post pc lv st S := zcallSN hC d g hn hR hrest (fun r T h => by rw [h.1, h.2]; exact kk) hst
theorem zcNr (g : zLkN M.1.cls idx M' n) (d : decode M.2.1 pc = .ok (.invokestatic idx, 3)) {P : Int32 → zSt → Prop} (hC : zR x b M' as S P) (hn : as.length = n) (hR : M'.2.2.2.2 < M.2.2.2.2) (hrest : (rest.map fun v => v.category).sum ≤ 8) (kk : ∀ r T, P r T → zZ x b M post (pc + 3) lv (.int r :: rest) T) (hst : st = as.reverse ++ rest) : zZ x b M post pc lv st S := zcallSN hC d g hn hR hrest (fun r T h => by obtain ⟨v, rfl, h⟩ := h; exact kk v T h) hst
theorem zcNn (g : zLkN M.1.cls idx M' n) (d : decode M.2.1 pc = .ok (.invokestatic idx, 3)) {P : zSt → Prop} (hC : zV x b M' as S P) (hn : as.length = n) (hR : M'.2.2.2.2 < M.2.2.2.2) (hrest : (rest.map fun v => v.category).sum ≤ 8) (kk : ∀ T, P T → zZ x b M post (pc + 3) lv rest T) (hst : st = as.reverse ++ rest) : zZ x b M post pc lv st S := zcallSN hC d g hn hR hrest (fun r T h => by obtain ⟨rfl, h⟩ := h; exact kk T h) hst
theorem zcVf {k : Nat} (o : zOb b k M'.1.cls) (g : zLkV M.1.cls idx M' n) (d : decode M.2.1 pc = .ok (.invokevirtual idx, 3)) (hC : zF x b M' (.ref (zad x k) :: as) S (some v) S') (hn : as.length = n) (hR : M'.2.2.2.2 < M.2.2.2.2) (hrest : (rest.map fun v => v.category).sum ≤ 8) (kk : zZ x b M post (pc + 3) lv (v :: rest) S') (hst : st = as.reverse ++ .ref (zad x k) :: rest) : zZ x b M post pc lv st S := by
  obtain ⟨ok, ci, fs, T, Nf, ol, oc⟩ := o
  exact zcallV hC d ok ol oc g.1 g.2.1 hn hR g.2.2 hrest (fun r T h => by rw [h.1, h.2]; exact kk) hst
theorem zcVv {k : Nat} (o : zOb b k M'.1.cls) (g : zLkV M.1.cls idx M' n) (d : decode M.2.1 pc = .ok (.invokevirtual idx, 3)) (hC : zF x b M' (.ref (zad x k) :: as) S none S') (hn : as.length = n) (hR : M'.2.2.2.2 < M.2.2.2.2) (hrest : (rest.map fun v => v.category).sum ≤ 8) (kk : zZ x b M post (pc + 3) lv rest S') (hst : st = as.reverse ++ .ref (zad x k) :: rest) : zZ x b M post pc lv st S := by
  obtain ⟨ok, ci, fs, T, Nf, ol, oc⟩ := o
  exact zcallV hC d ok ol oc g.1 g.2.1 hn hR g.2.2 hrest (fun r T h => by rw [h.1, h.2]; exact kk) hst
theorem zcVr {k : Nat} (o : zOb b k M'.1.cls) (g : zLkV M.1.cls idx M' n) (d : decode M.2.1 pc = .ok (.invokevirtual idx, 3)) {P : Int32 → zSt → Prop} (hC : zR x b M' (.ref (zad x k) :: as) S P) (hn : as.length = n) (hR : M'.2.2.2.2 < M.2.2.2.2) (hrest : (rest.map fun v => v.category).sum ≤ 8) (kk : ∀ r T, P r T → zZ x b M post (pc + 3) lv (.int r :: rest) T) (hst : st = as.reverse ++ .ref (zad x k) :: rest) : zZ x b M post pc lv st S := by
  obtain ⟨ok, ci, fs, T, Nf, ol, oc⟩ := o
  exact zcallV hC d ok ol oc g.1 g.2.1 hn hR g.2.2 hrest (fun r T h => by obtain ⟨v, rfl, h⟩ := h; exact kk v T h) hst
theorem zcVn {k : Nat} (o : zOb b k M'.1.cls) (g : zLkV M.1.cls idx M' n) (d : decode M.2.1 pc = .ok (.invokevirtual idx, 3)) {P : zSt → Prop} (hC : zV x b M' (.ref (zad x k) :: as) S P) (hn : as.length = n) (hR : M'.2.2.2.2 < M.2.2.2.2) (hrest : (rest.map fun v => v.category).sum ≤ 8) (kk : ∀ T, P T → zZ x b M post (pc + 3) lv rest T) (hst : st = as.reverse ++ .ref (zad x k) :: rest) : zZ x b M post pc lv st S := by
  obtain ⟨ok, ci, fs, T, Nf, ol, oc⟩ := o
  exact zcallV hC d ok ol oc g.1 g.2.1 hn hR g.2.2 hrest (fun r T h => by obtain ⟨rfl, h⟩ := h; exact kk T h) hst
theorem ziald {k n i : Nat} (d : decode M.2.1 pc = .ok (.iaload, 1)) (hk : k < zN b) (hl0 : zlay b k = .inl n) (hn : n < 2 ^ 31) (hi : i < n) (kk : zZ x b M post (pc + 1) lv (.int (S.1 k i) :: st) S) : zZ x b M post pc lv (.int (nI i) :: .ref (zad x k) :: st) S := by
  refine ziaload d hk hl0 (vp_in_nI hi hn) ?_
  rw [nI_clamp (by omega)]
  exact kk
theorem ziast {k n i : Nat} {v : Int32} (d : decode M.2.1 pc = .ok (.iastore, 1)) (hk : k < zN b) (hl0 : zlay b k = .inl n) (hn : n < 2 ^ 31) (hi : i < n) (kk : zZ x b M post (pc + 1) lv st (u2 S.1 k i v, S.2)) : zZ x b M post pc lv (.int v :: .int (nI i) :: .ref (zad x k) :: st) S := by
  refine ziastore d hk hl0 (vp_in_nI hi hn) ?_
  rw [nI_clamp (by omega)]
  exact kk
def bI (b : Bool) : Int32 := if b = true then 1 else 0
theorem zifb_eq {q : Bool} {off : Int} {tgt : Nat} (d : decode M.2.1 pc = .ok (.ifCond .eq off, 3)) (ht : (pc : Int) + off = (tgt : Int)) (kt : q = false → zZ x b M post tgt lv st S) (kf : q = true → zZ x b M post (pc + 3) lv st S) : zZ x b M post pc lv (.int (bI q) :: st) S :=
  zif_eq d ht (fun h => kt (by cases q; rfl; exact absurd h (by decide))) (fun h => kf (by cases q; exact absurd rfl h; rfl))
theorem zifb_ne {q : Bool} {off : Int} {tgt : Nat} (d : decode M.2.1 pc = .ok (.ifCond .ne off, 3)) (ht : (pc : Int) + off = (tgt : Int)) (kt : q = true → zZ x b M post tgt lv st S) (kf : q = false → zZ x b M post (pc + 3) lv st S) : zZ x b M post pc lv (.int (bI q) :: st) S :=
  zif_ne d ht (fun h => kt (by cases q; exact absurd rfl h; rfl)) (fun h => kf (by cases q; rfl; exact absurd h (by decide)))
theorem zbret {q : Bool} {v : Int32} (d : decode M.2.1 pc = .ok (.ireturn, 1)) (hr : M.2.2.2.1 = some .boolean) (hv : v = bI q) (hp : post (some (.int (bI q))) S) : zZ x b M post pc lv [.int v] S := by
  subst hv
  exact zireturn d hr (by cases q <;> rfl) hp
theorem ziret {v w : Int32} (d : decode M.2.1 pc = .ok (.ireturn, 1)) (hr : M.2.2.2.1 = some .int) (hv : v = w) (hp : post (some (.int w)) S) : zZ x b M post pc lv [.int v] S := by
  subst hv
  exact zireturn d hr rfl hp
end ZC

def mX8_init : zM := (yX8_init, cX8_init, 2, none, 5)
def mX8_letter : zM := (yX8_letter, cX8_letter, 3, (some .int), 2)
def mX8_town : zM := (yX8_town, cX8_town, 2, (some .int), 9)
def mX8_person : zM := (yX8_person, cX8_person, 4, (some .int), 2)
def mX8_face : zM := (yX8_face, cX8_face, 4, (some .int), 2)
def mX8_worth : zM := (yX8_worth, cX8_worth, 3, (some .int), 2)
def mX8_lends : zM := (yX8_lends, cX8_lends, 4, (some .int), 3)
def mX8_back : zM := (yX8_back, cX8_back, 3, (some .int), 2)
def mX8_learns : zM := (yX8_learns, cX8_learns, 4, (some .int), 2)
def mX8_becomes : zM := (yX8_becomes, cX8_becomes, 7, (some .int), 2)
def mX8_turn : zM := (yX8_turn, cX8_turn, 6, (some .int), 2)
def mX8_months : zM := (yX8_months, cX8_months, 3, (some .int), 4)
def mX8_faceThen : zM := (yX8_faceThen, cX8_faceThen, 5, (some .int), 5)
def mX8_wornThen : zM := (yX8_wornThen, cX8_wornThen, 4, (some .int), 5)
def mX8_first : zM := (yX8_first, cX8_first, 3, (some .int), 5)
def mX8_monthsTillHome : zM := (yX8_monthsTillHome, cX8_monthsTillHome, 2, (some .int), 4)
def mX8_firstWithoutFame : zM := (yX8_firstWithoutFame, cX8_firstWithoutFame, 4, (some .int), 4)
def mX8_think : zM := (yX8_think, cX8_think, 2, none, 4)
def mX8_meets : zM := (yX8_meets, cX8_meets, 4, (some .int), 3)
def mX8_deceived : zM := (yX8_deceived, cX8_deceived, 6, (some .int), 2)
def mX8_famous : zM := (yX8_famous, cX8_famous, 7, (some .int), 1)
def mX8_chained : zM := (yX8_chained, cX8_chained, 3, (some .int), 2)
def mX8_widow : zM := (yX8_widow, cX8_widow, 5, (some .int), 3)
def mX8_twins : zM := (yX8_twins, cX8_twins, 7, (some .int), 1)
def mX8_lend : zM := (yX8_lend, cX8_lend, 5, (some .int), 6)
def mX8_take : zM := (yX8_take, cX8_take, 4, (some .int), 6)
def mX8_bestPartner : zM := (yX8_bestPartner, cX8_bestPartner, 9, (some .int), 5)
def mX8_thinkOfLending : zM := (yX8_thinkOfLending, cX8_thinkOfLending, 4, none, 4)
def mX8_keep : zM := (yX8_keep, cX8_keep, 6, (some .int), 5)
def mX8_lot : zM := (yX8_lot, cX8_lot, 8, (some .int), 5)
def mX8_findFree : zM := (yX8_findFree, cX8_findFree, 3, (some .int), 1)
def mX8_worthsOfLot : zM := (yX8_worthsOfLot, cX8_worthsOfLot, 5, (some .int), 4)
def mX8_fewest : zM := (yX8_fewest, cX8_fewest, 6, (some .int), 6)
def mX8_firstLenderBringing : zM := (yX8_firstLenderBringing, cX8_firstLenderBringing, 5, (some .int), 5)
def mX8_two : zM := (yX8_two, cX8_two, 6, (some .int), 4)
def mX8_firstSettledChoice : zM := (yX8_firstSettledChoice, cX8_firstSettledChoice, 4, (some .int), 0)
def mX8_quarrel : zM := (yX8_quarrel, cX8_quarrel, 9, (some .long), 5)
def mX8_waysOfScars : zM := (yX8_waysOfScars, cX8_waysOfScars, 9, (some .long), 1)
def mX8_mean : zM := (yX8_mean, cX8_mean, 3, (some .long), 2)
def mX8_partOfFraction : zM := (yX8_partOfFraction, cX8_partOfFraction, 9, (some .long), 1)
def mX8_greatestShared : zM := (yX8_greatestShared, cX8_greatestShared, 11, (some .long), 0)
def mX8_power : zM := (yX8_power, cX8_power, 6, (some .long), 0)
def mX8_row : zM := (yX8_row, cX8_row, 3, (some .int), 2)
def mX8_clear : zM := (yX8_clear, cX8_clear, 2, (some .int), 0)
def mX8_judge : zM := (yX8_judge, cX8_judge, 3, (some .int), 0)
def mX8_who : zM := (yX8_who, cX8_who, 5, (some .int), 4)
def mX8_wearingFits : zM := (yX8_wearingFits, cX8_wearingFits, 6, (some .boolean), 3)
def mX8_whatIs : zM := (yX8_whatIs, cX8_whatIs, 9, (some .int), 5)
def mX8_mindFits : zM := (yX8_mindFits, cX8_mindFits, 3, (some .boolean), 4)
def mX8_lots : zM := (yX8_lots, cX8_lots, 8, (some .int), 5)
def mX8_drawTown : zM := (yX8_drawTown, cX8_drawTown, 6, (some .int), 4)
def mX8_nextSeed : zM := (yX8_nextSeed, cX8_nextSeed, 1, (some .int), 0)
def mX8_drawBelow : zM := (yX8_drawBelow, cX8_drawBelow, 2, (some .int), 0)
def mX8_image : zM := (yX8_image, cX8_image, 1, (some .int), 1)
def mX8_on : zM := (yX8_on, cX8_on, 1, (some .int), 1)
def mX8_count : zM := (yX8_count, cX8_count, 2, (some .int), 2)
def mX8_personFault : zM := (yX8_personFault, cX8_personFault, 2, (some .int), 1)
def mX8_twoFault : zM := (yX8_twoFault, cX8_twoFault, 3, (some .int), 2)
def mX8_whatFault : zM := (yX8_whatFault, cX8_whatFault, 2, (some .int), 0)
def mX8_leastFault : zM := (yX8_leastFault, cX8_leastFault, 2, (some .int), 0)
def mX8_mostFault : zM := (yX8_mostFault, cX8_mostFault, 2, (some .int), 0)
def mX8_rangeFault : zM := (yX8_rangeFault, cX8_rangeFault, 3, (some .int), 1)
def mX8_firstOf : zM := (yX8_firstOf, cX8_firstOf, 2, (some .int), 0)
def mX8_firstOfThree : zM := (yX8_firstOfThree, cX8_firstOfThree, 3, (some .int), 1)
def mX8_refuse : zM := (yX8_refuse, cX8_refuse, 2, (some .int), 0)
def mX8_refuseFarOff : zM := (yX8_refuseFarOff, cX8_refuseFarOff, 2, (some .int), 1)
def mX8_refuseLong : zM := (yX8_refuseLong, cX8_refuseLong, 2, (some .long), 1)
def mX8_withinMarks : zM := (yX8_withinMarks, cX8_withinMarks, 1, (some .int), 1)
def mX9_init : zM := (yX9_init, cX9_init, 1, none, 1)
def mX9_isIn : zM := (yX9_isIn, cX9_isIn, 3, (some .boolean), 0)
def mX9_held : zM := (yX9_held, cX9_held, 1, (some .int), 0)
def mX9_copies : zM := (yX9_copies, cX9_copies, 3, none, 0)
def mX9_no : zM := (yX9_no, cX9_no, 2, (some .int), 0)
def mX9_noFar : zM := (yX9_noFar, cX9_noFar, 2, (some .int), 1)
def mX9_noWide : zM := (yX9_noWide, cX9_noWide, 2, (some .long), 1)
def mX9_of : zM := (yX9_of, cX9_of, 2, (some .int), 0)
def mX9_isOne : zM := (yX9_isOne, cX9_isOne, 2, (some .boolean), 1)
def mX9_areTwo : zM := (yX9_areTwo, cX9_areTwo, 3, (some .boolean), 2)
def mX9_has : zM := (yX9_has, cX9_has, 2, (some .boolean), 0)
def mX9_knowing : zM := (yX9_knowing, cX9_knowing, 5, (some .int), 1)
def mX9_fameBy : zM := (yX9_fameBy, cX9_fameBy, 3, (some .int), 2)
def mX9_scarsBy : zM := (yX9_scarsBy, cX9_scarsBy, 3, (some .int), 1)
def mX9_wearsOwn : zM := (yX9_wearsOwn, cX9_wearsOwn, 2, (some .boolean), 1)
def mX9_canLend : zM := (yX9_canLend, cX9_canLend, 3, (some .boolean), 2)
def mX9_lendsIn : zM := (yX9_lendsIn, cX9_lendsIn, 3, none, 1)
def mX9_wearerOf : zM := (yX9_wearerOf, cX9_wearerOf, 3, (some .int), 1)
def mX9_comesBack : zM := (yX9_comesBack, cX9_comesBack, 3, (some .int), 2)
def mX9_month : zM := (yX9_month, cX9_month, 4, none, 3)
def mX9_monthsOn : zM := (yX9_monthsOn, cX9_monthsOn, 3, none, 4)
def mX9_worthIn : zM := (yX9_worthIn, cX9_worthIn, 2, (some .int), 1)
def mX9_worthAll : zM := (yX9_worthAll, cX9_worthAll, 3, (some .int), 2)
def mX9_lentIn : zM := (yX9_lentIn, cX9_lentIn, 3, (some .int), 1)
def mX9_letter : zM := (yX9_letter, cX9_letter, 2, (some .int), 1)
def mX9_here : zM := (yX9_here, cX9_here, 1, (some .int), 0)
def mX9_readsNumber : zM := (yX9_readsNumber, cX9_readsNumber, 4, (some .boolean), 1)
def mX9_kindBy : zM := (yX9_kindBy, cX9_kindBy, 1, (some .int), 0)
def mX9_readsKind : zM := (yX9_readsKind, cX9_readsKind, 1, (some .boolean), 1)
def mX9_readsStatement : zM := (yX9_readsStatement, cX9_readsStatement, 3, (some .boolean), 2)
def mX9_adds : zM := (yX9_adds, cX9_adds, 4, (some .boolean), 1)
def mX9_isDone : zM := (yX9_isDone, cX9_isDone, 5, (some .boolean), 5)
def mX9_town : zM := (yX9_town, cX9_town, 6, (some .int), 6)
def mX9_person : zM := (yX9_person, cX9_person, 3, (some .int), 2)
def mX9_faceIn : zM := (yX9_faceIn, cX9_faceIn, 3, (some .int), 2)
def mX9_face : zM := (yX9_face, cX9_face, 3, (some .int), 3)
def mX9_worth : zM := (yX9_worth, cX9_worth, 2, (some .int), 2)
def mX9_lends : zM := (yX9_lends, cX9_lends, 3, (some .int), 3)
def mX9_back : zM := (yX9_back, cX9_back, 2, (some .int), 3)
def mX9_learns : zM := (yX9_learns, cX9_learns, 3, (some .int), 2)
def mX9_wrongBy : zM := (yX9_wrongBy, cX9_wrongBy, 2, (some .int), 0)
def mX9_becomes : zM := (yX9_becomes, cX9_becomes, 6, (some .int), 2)
def mX9_turn : zM := (yX9_turn, cX9_turn, 6, (some .int), 2)
def mX9_months : zM := (yX9_months, cX9_months, 2, (some .int), 5)
def mX9_faceThen : zM := (yX9_faceThen, cX9_faceThen, 5, (some .int), 5)
def mX9_wornThen : zM := (yX9_wornThen, cX9_wornThen, 4, (some .int), 5)
def mX9_areHome : zM := (yX9_areHome, cX9_areHome, 2, (some .boolean), 2)
def mX9_first : zM := (yX9_first, cX9_first, 4, (some .int), 4)
def mX9_meetsOne : zM := (yX9_meetsOne, cX9_meetsOne, 4, (some .int), 1)
def mX9_meets : zM := (yX9_meets, cX9_meets, 3, (some .int), 3)
def mX9_deceived : zM := (yX9_deceived, cX9_deceived, 4, (some .int), 2)
def mX9_famous : zM := (yX9_famous, cX9_famous, 4, (some .int), 1)
def mX9_worthBehind : zM := (yX9_worthBehind, cX9_worthBehind, 3, (some .int), 5)
def mX9_worthNow : zM := (yX9_worthNow, cX9_worthNow, 3, (some .int), 6)
def mX9_wrongLend : zM := (yX9_wrongLend, cX9_wrongLend, 3, (some .int), 2)
def mX9_lend : zM := (yX9_lend, cX9_lend, 10, (some .int), 7)
def mX9_take : zM := (yX9_take, cX9_take, 8, (some .int), 7)
def mX9_keep : zM := (yX9_keep, cX9_keep, 8, (some .int), 7)
def mX9_plainSet : zM := (yX9_plainSet, cX9_plainSet, 3, (some .int), 1)
def mX9_chained : zM := (yX9_chained, cX9_chained, 6, (some .int), 2)
def mX9_pairsBy : zM := (yX9_pairsBy, cX9_pairsBy, 5, (some .int), 2)
def mX9_lot : zM := (yX9_lot, cX9_lot, 8, (some .int), 6)
def mX9_isFamedBehind : zM := (yX9_isFamedBehind, cX9_isFamedBehind, 4, (some .boolean), 5)
def mX9_canBeBy : zM := (yX9_canBeBy, cX9_canBeBy, 5, (some .boolean), 6)
def mX9_firstLender : zM := (yX9_firstLender, cX9_firstLender, 6, (some .int), 7)
def mX9_fewest : zM := (yX9_fewest, cX9_fewest, 7, (some .int), 8)
def mX9_who : zM := (yX9_who, cX9_who, 7, (some .int), 3)
def mX9_widow : zM := (yX9_widow, cX9_widow, 4, (some .int), 3)
def mX9_twins : zM := (yX9_twins, cX9_twins, 6, (some .int), 1)
def mX9_worthBoth : zM := (yX9_worthBoth, cX9_worthBoth, 7, (some .int), 6)
def mX9_two : zM := (yX9_two, cX9_two, 8, (some .int), 7)
def mX9_gcd : zM := (yX9_gcd, cX9_gcd, 10, (some .long), 0)
def mX9_partOf : zM := (yX9_partOf, cX9_partOf, 5, (some .long), 1)
def mX9_quarrel : zM := (yX9_quarrel, cX9_quarrel, 14, (some .long), 4)
def mX9_allOf : zM := (yX9_allOf, cX9_allOf, 4, (some .int), 1)
def mX9_mean : zM := (yX9_mean, cX9_mean, 2, (some .long), 2)
def mX9_whatIs : zM := (yX9_whatIs, cX9_whatIs, 8, (some .int), 4)
def mX9_row : zM := (yX9_row, cX9_row, 3, (some .int), 1)
def mX9_judge : zM := (yX9_judge, cX9_judge, 3, (some .int), 2)
def mX9_clear : zM := (yX9_clear, cX9_clear, 2, (some .int), 0)
def mX9_drawn : zM := (yX9_drawn, cX9_drawn, 2, (some .int), 0)
def mX9_lots : zM := (yX9_lots, cX9_lots, 9, (some .int), 5)
def mX9_image : zM := (yX9_image, cX9_image, 1, (some .int), 1)
def mX9_on : zM := (yX9_on, cX9_on, 1, (some .int), 1)
def mX9_count : zM := (yX9_count, cX9_count, 2, (some .int), 2)
def mX0_init : zM := (yX0_init, cX0_init, 1, none, 2)
def mX0_fameChange : zM := (yX0_fameChange, cX0_fameChange, 3, (some .int), 0)
def mX1_init : zM := (yX1_init, cX1_init, 1, none, 3)
def mX1_fameChange : zM := (yX1_fameChange, cX1_fameChange, 3, (some .int), 0)
def mX1_scarsMore : zM := (yX1_scarsMore, cX1_scarsMore, 2, (some .int), 0)
def mX2_init : zM := (yX2_init, cX2_init, 1, none, 4)
def mX2_fameChange : zM := (yX2_fameChange, cX2_fameChange, 3, (some .int), 1)
def mX3_init : zM := (yX3_init, cX3_init, 1, none, 2)
def mX3_fameChange : zM := (yX3_fameChange, cX3_fameChange, 3, (some .int), 0)
def mX4_init : zM := (yX4_init, cX4_init, 1, none, 2)
def mX4_fameChange : zM := (yX4_fameChange, cX4_fameChange, 3, (some .int), 0)
def mX4_scarsMore : zM := (yX4_scarsMore, cX4_scarsMore, 2, (some .int), 0)
def mX5_init : zM := (yX5_init, cX5_init, 1, none, 1)
def mX5_fameChange : zM := (yX5_fameChange, cX5_fameChange, 3, (some .int), 0)
def mX5_scarsMore : zM := (yX5_scarsMore, cX5_scarsMore, 2, (some .int), 0)
def mX6_init : zM := (yX6_init, cX6_init, 1, none, 1)
def mX6_takes : zM := (yX6_takes, cX6_takes, 2, (some .boolean), 0)
def mX6_carryOut : zM := (yX6_carryOut, cX6_carryOut, 5, (some .int), 8)
def mX6_brokenPlace : zM := (yX6_brokenPlace, cX6_brokenPlace, 4, (some .int), 7)
def mX6_shapeOf : zM := (yX6_shapeOf, cX6_shapeOf, 1, (some (.object "java/lang/String")), 0)
def mX6_fits : zM := (yX6_fits, cX6_fits, 2, (some .boolean), 6)
def mX6_kindOf : zM := (yX6_kindOf, cX6_kindOf, 1, (some .int), 5)
def mX6_comesTo : zM := (yX6_comesTo, cX6_comesTo, 3, (some .boolean), 6)
def mX6_signAt : zM := (yX6_signAt, cX6_signAt, 2, (some .int), 0)
def mX6_digitAt : zM := (yX6_digitAt, cX6_digitAt, 2, (some .int), 1)
def mX6_twoDigitsAt : zM := (yX6_twoDigitsAt, cX6_twoDigitsAt, 2, (some .int), 2)
def mX6_lendingComes : zM := (yX6_lendingComes, cX6_lendingComes, 4, (some .boolean), 2)
def mX6_backComes : zM := (yX6_backComes, cX6_backComes, 3, (some .boolean), 2)
def mX6_knowingComes : zM := (yX6_knowingComes, cX6_knowingComes, 4, (some .boolean), 1)
def mX6_fameComes : zM := (yX6_fameComes, cX6_fameComes, 4, (some .boolean), 1)
def mX6_monthsCome : zM := (yX6_monthsCome, cX6_monthsCome, 3, (some .boolean), 4)
def mX7_init : zM := (yX7_init, cX7_init, 2, none, 1)
def mX7_becomeLike : zM := (yX7_becomeLike, cX7_becomeLike, 3, none, 0)
def mX7_isThere : zM := (yX7_isThere, cX7_isThere, 2, (some .boolean), 0)
def mX7_takesIn : zM := (yX7_takesIn, cX7_takesIn, 3, (some .boolean), 0)
def mX7_wearsOwn : zM := (yX7_wearsOwn, cX7_wearsOwn, 2, (some .boolean), 0)
def mX7_isLent : zM := (yX7_isLent, cX7_isLent, 2, (some .boolean), 0)
def mX7_canLend : zM := (yX7_canLend, cX7_canLend, 3, (some .boolean), 1)
def mX7_handOver : zM := (yX7_handOver, cX7_handOver, 3, none, 0)
def mX7_bringBack : zM := (yX7_bringBack, cX7_bringBack, 3, (some .int), 1)
def mX7_wearerOf : zM := (yX7_wearerOf, cX7_wearerOf, 3, (some .int), 0)
def mX7_ofFace : zM := (yX7_ofFace, cX7_ofFace, 3, (some .int), 1)
def mX7_turnKnowing : zM := (yX7_turnKnowing, cX7_turnKnowing, 3, none, 0)
def mX7_knowsFace : zM := (yX7_knowsFace, cX7_knowsFace, 3, (some .boolean), 0)
def mX7_takenFor : zM := (yX7_takenFor, cX7_takenFor, 4, (some .int), 1)
def mX7_knowersOf : zM := (yX7_knowersOf, cX7_knowersOf, 4, (some .int), 0)
def mX7_isKind : zM := (yX7_isKind, cX7_isKind, 2, (some .boolean), 0)
def mX7_changeOfFame : zM := (yX7_changeOfFame, cX7_changeOfFame, 4, (some .int), 2)
def mX7_goOn : zM := (yX7_goOn, cX7_goOn, 4, none, 3)
def mX7_wearForAMonth : zM := (yX7_wearForAMonth, cX7_wearForAMonth, 5, none, 2)
def mX7_keepLentForAMonth : zM := (yX7_keepLentForAMonth, cX7_keepLentForAMonth, 2, none, 2)
def mX7_worthOf : zM := (yX7_worthOf, cX7_worthOf, 2, (some .int), 0)
def mX7_allFame : zM := (yX7_allFame, cX7_allFame, 1, (some .int), 1)
def mX7_allScars : zM := (yX7_allScars, cX7_allScars, 1, (some .int), 1)
def mX7_allWorths : zM := (yX7_allWorths, cX7_allWorths, 1, (some .int), 2)
def mX7_sumOf : zM := (yX7_sumOf, cX7_sumOf, 4, (some .int), 0)
def mX7_lookAlike : zM := (yX7_lookAlike, cX7_lookAlike, 3, (some .boolean), 0)
def mX7_faceWithoutFame : zM := (yX7_faceWithoutFame, cX7_faceWithoutFame, 2, (some .int), 0)
def mX7_allWearTheirOwn : zM := (yX7_allWearTheirOwn, cX7_allWearTheirOwn, 2, (some .boolean), 1)
def mX7_lentFaces : zM := (yX7_lentFaces, cX7_lentFaces, 3, (some .int), 1)
def mX7_wearersOfOthers : zM := (yX7_wearersOfOthers, cX7_wearersOfOthers, 3, (some .int), 1)
def mX7_plainWearers : zM := (yX7_plainWearers, cX7_plainWearers, 3, (some .int), 0)
def mX7_facesSeen : zM := (yX7_facesSeen, cX7_facesSeen, 3, (some .int), 0)
theorem gk_X8_73 : zLkS RX8 73 mX8_rangeFault 3 := ⟨goodIn_r _ [98, 99, 2, 100] (by decide +kernel) (by decide +kernel), by unfold zNm; decide +kernel⟩
theorem gk_X8_77 : zLkV RX8 77 mX8_refuse 1 := ⟨goodIn_r _ [110, 111, 112, 2, 113] (by decide +kernel) (by decide +kernel), by unfold zNm; decide +kernel⟩
theorem gk_X8_81 : zLkV RX8 81 mX6_takes 1 := ⟨goodIn_r _ [114, 115, 116, 38, 117] (by decide +kernel) (by decide +kernel), by unfold zNm; decide +kernel⟩
theorem gk_X8_88 : zLkV RX8 88 mX7_becomeLike 1 := ⟨goodIn_r _ [131, 132, 133, 32, 134] (by decide +kernel) (by decide +kernel), by unfold zNm; decide +kernel⟩
theorem gk_X8_92 : zLkV RX8 92 mX6_carryOut 1 := ⟨goodIn_r _ [135, 136, 137, 38, 138] (by decide +kernel) (by decide +kernel), by unfold zNm; decide +kernel⟩
theorem gk_X8_96 : zLkV RX8 96 mX8_personFault 1 := ⟨goodIn_r _ [490, 491, 492, 2, 493] (by decide +kernel) (by decide +kernel), by unfold zNm; decide +kernel⟩
theorem gk_X8_99 : zLkS RX8 99 mX8_whatFault 2 := ⟨goodIn_r _ [495, 496, 2, 497] (by decide +kernel) (by decide +kernel), by unfold zNm; decide +kernel⟩
theorem gk_X8_103 : zLkS RX8 103 mX8_firstOf 2 := ⟨goodIn_r _ [107, 108, 2, 109] (by decide +kernel) (by decide +kernel), by unfold zNm; decide +kernel⟩
theorem gk_X8_118 : zLkV RX8 118 mX7_ofFace 2 := ⟨goodIn_r _ [506, 507, 508, 32, 509] (by decide +kernel) (by decide +kernel), by unfold zNm; decide +kernel⟩
theorem gk_X8_121 : zLkV RX8 121 mX8_refuseFarOff 1 := ⟨goodIn_r _ [521, 522, 523, 2, 524] (by decide +kernel) (by decide +kernel), by unfold zNm; decide +kernel⟩
theorem gk_X8_124 : zLkV RX8 124 mX7_worthOf 1 := ⟨goodIn_r _ [526, 527, 528, 32, 529] (by decide +kernel) (by decide +kernel), by unfold zNm; decide +kernel⟩
theorem gk_X8_127 : zLkV RX8 127 mX8_twoFault 2 := ⟨goodIn_r _ [546, 547, 548, 2, 549] (by decide +kernel) (by decide +kernel), by unfold zNm; decide +kernel⟩
theorem gk_X8_130 : zLkV RX8 130 mX7_canLend 2 := ⟨goodIn_r _ [550, 290, 291, 32, 292] (by decide +kernel) (by decide +kernel), by unfold zNm; decide +kernel⟩
theorem gk_X8_134 : zLkV RX8 134 mX7_handOver 2 := ⟨goodIn_r _ [551, 298, 299, 32, 300] (by decide +kernel) (by decide +kernel), by unfold zNm; decide +kernel⟩
theorem gk_X8_138 : zLkV RX8 138 mX7_lentFaces 0 := ⟨goodIn_r _ [552, 553, 554, 32, 555] (by decide +kernel) (by decide +kernel), by unfold zNm; decide +kernel⟩
theorem gk_X8_142 : zLkV RX8 142 mX7_isLent 1 := ⟨goodIn_r _ [567, 305, 306, 32, 307] (by decide +kernel) (by decide +kernel), by unfold zNm; decide +kernel⟩
theorem gk_X8_145 : zLkV RX8 145 mX7_bringBack 1 := ⟨goodIn_r _ [568, 309, 310, 32, 311] (by decide +kernel) (by decide +kernel), by unfold zNm; decide +kernel⟩
theorem gk_X8_148 : zLkV RX8 148 mX7_turnKnowing 2 := ⟨goodIn_r _ [577, 320, 321, 32, 322] (by decide +kernel) (by decide +kernel), by unfold zNm; decide +kernel⟩
theorem gk_X8_151 : zLkV RX8 151 mX7_knowsFace 2 := ⟨goodIn_r _ [578, 579, 580, 32, 581] (by decide +kernel) (by decide +kernel), by unfold zNm; decide +kernel⟩
theorem gk_X8_154 : zLkS RX8 154 mX8_firstOfThree 3 := ⟨goodIn_r _ [590, 591, 2, 592] (by decide +kernel) (by decide +kernel), by unfold zNm; decide +kernel⟩
theorem gk_X8_166 : zLkV RX8 166 mX7_goOn 1 := ⟨goodIn_r _ [612, 334, 335, 32, 336] (by decide +kernel) (by decide +kernel), by unfold zNm; decide +kernel⟩
theorem gk_X8_170 : zLkV RX8 170 mX8_think 1 := ⟨goodIn_r _ [621, 622, 623, 2, 624] (by decide +kernel) (by decide +kernel), by unfold zNm; decide +kernel⟩
theorem gk_X8_173 : zLkV RX8 173 mX8_monthsTillHome 0 := ⟨goodIn_r _ [641, 642, 643, 2, 644] (by decide +kernel) (by decide +kernel), by unfold zNm; decide +kernel⟩
theorem gk_X8_176 : zLkV RX8 176 mX8_firstWithoutFame 1 := ⟨goodIn_r _ [649, 650, 651, 2, 652] (by decide +kernel) (by decide +kernel), by unfold zNm; decide +kernel⟩
theorem gk_X8_179 : zLkV RX8 179 mX7_allWearTheirOwn 0 := ⟨goodIn_r _ [645, 646, 647, 32, 648] (by decide +kernel) (by decide +kernel), by unfold zNm; decide +kernel⟩
theorem gk_X8_183 : zLkV RX8 183 mX7_faceWithoutFame 0 := ⟨goodIn_r _ [653, 654, 655, 32, 656] (by decide +kernel) (by decide +kernel), by unfold zNm; decide +kernel⟩
theorem gk_X8_186 : zLkV RX8 186 mX7_takenFor 2 := ⟨goodIn_r _ [668, 669, 670, 32, 671] (by decide +kernel) (by decide +kernel), by unfold zNm; decide +kernel⟩
theorem gk_X8_189 : zLkV RX8 189 mX7_wearsOwn 1 := ⟨goodIn_r _ [685, 294, 295, 32, 296] (by decide +kernel) (by decide +kernel), by unfold zNm; decide +kernel⟩
theorem gk_X8_195 : zLkV RX8 195 mX7_wearersOfOthers 0 := ⟨goodIn_r _ [765, 766, 767, 32, 768] (by decide +kernel) (by decide +kernel), by unfold zNm; decide +kernel⟩
theorem gk_X8_198 : zLkV RX8 198 mX7_plainWearers 0 := ⟨goodIn_r _ [769, 770, 771, 32, 772] (by decide +kernel) (by decide +kernel), by unfold zNm; decide +kernel⟩
theorem gk_X8_201 : zLkV RX8 201 mX7_facesSeen 0 := ⟨goodIn_r _ [773, 774, 775, 32, 776] (by decide +kernel) (by decide +kernel), by unfold zNm; decide +kernel⟩
theorem gk_X8_204 : zLkV RX8 204 mX7_wearerOf 1 := ⟨goodIn_r _ [851, 313, 314, 32, 315] (by decide +kernel) (by decide +kernel), by unfold zNm; decide +kernel⟩
theorem gk_X8_207 : zLkV RX8 207 mX7_lookAlike 2 := ⟨goodIn_r _ [860, 861, 862, 32, 863] (by decide +kernel) (by decide +kernel), by unfold zNm; decide +kernel⟩
theorem gk_X8_210 : zLkV RX8 210 mX8_bestPartner 4 := ⟨goodIn_r _ [702, 703, 704, 2, 705] (by decide +kernel) (by decide +kernel), by unfold zNm; decide +kernel⟩
theorem gk_X8_214 : zLkV RX8 214 mX8_thinkOfLending 3 := ⟨goodIn_r _ [706, 707, 708, 2, 709] (by decide +kernel) (by decide +kernel), by unfold zNm; decide +kernel⟩
theorem gk_X8_218 : zLkV RX8 218 mX7_allWorths 0 := ⟨goodIn_r _ [741, 742, 743, 32, 744] (by decide +kernel) (by decide +kernel), by unfold zNm; decide +kernel⟩
theorem gk_X8_221 : zLkV RX8 221 mX8_findFree 0 := ⟨goodIn_r _ [788, 789, 790, 2, 791] (by decide +kernel) (by decide +kernel), by unfold zNm; decide +kernel⟩
theorem gk_X8_224 : zLkV RX8 224 mX8_worthsOfLot 2 := ⟨goodIn_r _ [792, 793, 794, 2, 795] (by decide +kernel) (by decide +kernel), by unfold zNm; decide +kernel⟩
theorem gk_X8_227 : zLkV RX8 227 mX8_firstLenderBringing 2 := ⟨goodIn_r _ [809, 810, 811, 2, 812] (by decide +kernel) (by decide +kernel), by unfold zNm; decide +kernel⟩
theorem gk_X8_230 : zLkV RX8 230 mX8_firstSettledChoice 0 := ⟨goodIn_r _ [872, 873, 874, 2, 875] (by decide +kernel) (by decide +kernel), by unfold zNm; decide +kernel⟩
theorem gk_X8_233 : zLkS RX8 233 mX8_leastFault 2 := ⟨goodIn_r _ [101, 102, 2, 103] (by decide +kernel) (by decide +kernel), by unfold zNm; decide +kernel⟩
theorem gk_X8_236 : zLkS RX8 236 mX8_mostFault 2 := ⟨goodIn_r _ [104, 105, 2, 106] (by decide +kernel) (by decide +kernel), by unfold zNm; decide +kernel⟩
theorem gk_X8_239 : zLkV RX8 239 mX8_refuseLong 1 := ⟨goodIn_r _ [888, 889, 890, 2, 891] (by decide +kernel) (by decide +kernel), by unfold zNm; decide +kernel⟩
theorem gk_X8_243 : zLkS RX8 243 mX8_waysOfScars 4 := ⟨goodIn_r _ [893, 894, 2, 895] (by decide +kernel) (by decide +kernel), by unfold zNm; decide +kernel⟩
theorem gk_X8_247 : zLkS RX8 247 mX8_power 2 := ⟨goodIn_r _ [896, 897, 2, 898] (by decide +kernel) (by decide +kernel), by unfold zNm; decide +kernel⟩
theorem gk_X8_251 : zLkS RX8 251 mX8_partOfFraction 3 := ⟨goodIn_r _ [899, 900, 2, 901] (by decide +kernel) (by decide +kernel), by unfold zNm; decide +kernel⟩
theorem gk_X8_260 : zLkV RX8 260 mX7_allFame 0 := ⟨goodIn_r _ [924, 746, 747, 32, 748] (by decide +kernel) (by decide +kernel), by unfold zNm; decide +kernel⟩
theorem gk_X8_266 : zLkS RX8 266 mX8_greatestShared 2 := ⟨goodIn_r _ [902, 903, 2, 904] (by decide +kernel) (by decide +kernel), by unfold zNm; decide +kernel⟩
theorem gk_X8_270 : zLkV RX8 270 mX8_wearingFits 2 := ⟨goodIn_r _ [833, 834, 835, 2, 836] (by decide +kernel) (by decide +kernel), by unfold zNm; decide +kernel⟩
theorem gk_X8_273 : zLkV RX8 273 mX7_changeOfFame 2 := ⟨goodIn_r _ [837, 838, 839, 32, 840] (by decide +kernel) (by decide +kernel), by unfold zNm; decide +kernel⟩
theorem gk_X8_276 : zLkS RX8 276 mX8_withinMarks 1 := ⟨goodIn_r _ [841, 375, 2, 376] (by decide +kernel) (by decide +kernel), by unfold zNm; decide +kernel⟩
theorem gk_X8_279 : zLkV RX8 279 mX7_isThere 1 := ⟨goodIn_r _ [494, 286, 287, 32, 288] (by decide +kernel) (by decide +kernel), by unfold zNm; decide +kernel⟩
theorem gk_X8_282 : zLkV RX8 282 mX8_mindFits 1 := ⟨goodIn_r _ [936, 937, 938, 2, 939] (by decide +kernel) (by decide +kernel), by unfold zNm; decide +kernel⟩
theorem gk_X8_285 : zLkV RX8 285 mX8_drawTown 1 := ⟨goodIn_r _ [972, 973, 974, 2, 975] (by decide +kernel) (by decide +kernel), by unfold zNm; decide +kernel⟩
theorem gk_X8_288 : zLkV RX8 288 mX7_allScars 0 := ⟨goodIn_r _ [985, 754, 755, 32, 756] (by decide +kernel) (by decide +kernel), by unfold zNm; decide +kernel⟩
theorem gk_X8_291 : zLkS RX8 291 mX8_nextSeed 1 := ⟨goodIn_r _ [976, 977, 2, 978] (by decide +kernel) (by decide +kernel), by unfold zNm; decide +kernel⟩
theorem gk_X8_294 : zLkS RX8 294 mX8_drawBelow 2 := ⟨goodIn_r _ [981, 982, 2, 983] (by decide +kernel) (by decide +kernel), by unfold zNm; decide +kernel⟩
theorem gk_X9_38 : zLkV RX9 38 mX9_no 1 := ⟨goodIn_r _ [123, 124, 125, 5, 126] (by decide +kernel) (by decide +kernel), by unfold zNm; decide +kernel⟩
theorem gk_X9_44 : zLkS RX9 44 mX9_isIn 3 := ⟨goodIn_r _ [425, 426, 5, 427] (by decide +kernel) (by decide +kernel), by unfold zNm; decide +kernel⟩
theorem gk_X9_48 : zLkV RX9 48 mX9_isOne 1 := ⟨goodIn_r _ [446, 447, 448, 5, 449] (by decide +kernel) (by decide +kernel), by unfold zNm; decide +kernel⟩
theorem gk_X9_52 : zLkS RX9 52 mX9_of 2 := ⟨goodIn_r _ [439, 440, 5, 441] (by decide +kernel) (by decide +kernel), by unfold zNm; decide +kernel⟩
theorem gk_X9_56 : zLkS RX9 56 mX9_has 2 := ⟨goodIn_r _ [477, 478, 5, 479] (by decide +kernel) (by decide +kernel), by unfold zNm; decide +kernel⟩
theorem gk_X9_60 : zLkS RX9 60 mX9_knowing 3 := ⟨goodIn_r _ [474, 475, 5, 476] (by decide +kernel) (by decide +kernel), by unfold zNm; decide +kernel⟩
theorem gk_X9_64 : zLkS RX9 64 mX9_wearsOwn 2 := ⟨goodIn_r _ [453, 454, 5, 455] (by decide +kernel) (by decide +kernel), by unfold zNm; decide +kernel⟩
theorem gk_X9_68 : zLkS RX9 68 mX9_wearerOf 2 := ⟨goodIn_r _ [462, 463, 5, 464] (by decide +kernel) (by decide +kernel), by unfold zNm; decide +kernel⟩
theorem gk_X9_72 : zLkS RX9 72 mX9_fameBy 3 := ⟨goodIn_r _ [471, 472, 5, 473] (by decide +kernel) (by decide +kernel), by unfold zNm; decide +kernel⟩
theorem gk_X9_75 : zLkS RX9 75 mX9_held 1 := ⟨goodIn_r _ [480, 481, 5, 482] (by decide +kernel) (by decide +kernel), by unfold zNm; decide +kernel⟩
theorem gk_X9_78 : zLkS RX9 78 mX9_scarsBy 2 := ⟨goodIn_r _ [483, 484, 5, 485] (by decide +kernel) (by decide +kernel), by unfold zNm; decide +kernel⟩
theorem gk_X9_81 : zLkS RX9 81 mX9_comesBack 2 := ⟨goodIn_r _ [459, 460, 5, 461] (by decide +kernel) (by decide +kernel), by unfold zNm; decide +kernel⟩
theorem gk_X9_84 : zLkS RX9 84 mX9_month 1 := ⟨goodIn_r _ [468, 469, 5, 470] (by decide +kernel) (by decide +kernel), by unfold zNm; decide +kernel⟩
theorem gk_X9_88 : zLkS RX9 88 mX9_worthIn 2 := ⟨goodIn_r _ [534, 535, 5, 536] (by decide +kernel) (by decide +kernel), by unfold zNm; decide +kernel⟩
theorem gk_X9_98 : zLkV RX9 98 mX9_here 0 := ⟨goodIn_r _ [410, 411, 412, 5, 413] (by decide +kernel) (by decide +kernel), by unfold zNm; decide +kernel⟩
theorem gk_X9_102 : zLkS RX9 102 mX9_kindBy 1 := ⟨goodIn_r _ [418, 419, 5, 420] (by decide +kernel) (by decide +kernel), by unfold zNm; decide +kernel⟩
theorem gk_X9_105 : zLkV RX9 105 mX9_readsKind 0 := ⟨goodIn_r _ [414, 415, 416, 5, 417] (by decide +kernel) (by decide +kernel), by unfold zNm; decide +kernel⟩
theorem gk_X9_109 : zLkV RX9 109 mX9_readsNumber 2 := ⟨goodIn_r _ [421, 422, 423, 5, 424] (by decide +kernel) (by decide +kernel), by unfold zNm; decide +kernel⟩
theorem gk_X9_112 : zLkV RX9 112 mX9_adds 2 := ⟨goodIn_r _ [435, 436, 437, 5, 438] (by decide +kernel) (by decide +kernel), by unfold zNm; decide +kernel⟩
theorem gk_X9_115 : zLkV RX9 115 mX9_areTwo 2 := ⟨goodIn_r _ [442, 443, 444, 5, 445] (by decide +kernel) (by decide +kernel), by unfold zNm; decide +kernel⟩
theorem gk_X9_118 : zLkS RX9 118 mX9_canLend 3 := ⟨goodIn_r _ [450, 451, 5, 452] (by decide +kernel) (by decide +kernel), by unfold zNm; decide +kernel⟩
theorem gk_X9_122 : zLkS RX9 122 mX9_lendsIn 3 := ⟨goodIn_r _ [456, 457, 5, 458] (by decide +kernel) (by decide +kernel), by unfold zNm; decide +kernel⟩
theorem gk_X9_126 : zLkS RX9 126 mX9_monthsOn 2 := ⟨goodIn_r _ [465, 466, 5, 467] (by decide +kernel) (by decide +kernel), by unfold zNm; decide +kernel⟩
theorem gk_X9_130 : zLkV RX9 130 mX9_readsStatement 0 := ⟨goodIn_r _ [406, 407, 408, 5, 409] (by decide +kernel) (by decide +kernel), by unfold zNm; decide +kernel⟩
theorem gk_X9_133 : zLkS RX9 133 mX9_copies 2 := ⟨goodIn_r _ [428, 429, 5, 430] (by decide +kernel) (by decide +kernel), by unfold zNm; decide +kernel⟩
theorem gk_X9_137 : zLkV RX9 137 mX9_isDone 1 := ⟨goodIn_r _ [431, 432, 433, 5, 434] (by decide +kernel) (by decide +kernel), by unfold zNm; decide +kernel⟩
theorem gk_X9_140 : zLkS RX9 140 mX9_faceIn 3 := ⟨goodIn_r _ [514, 515, 5, 516] (by decide +kernel) (by decide +kernel), by unfold zNm; decide +kernel⟩
theorem gk_X9_143 : zLkV RX9 143 mX9_noFar 1 := ⟨goodIn_r _ [537, 538, 539, 5, 540] (by decide +kernel) (by decide +kernel), by unfold zNm; decide +kernel⟩
theorem gk_X9_146 : zLkS RX9 146 mX9_lentIn 1 := ⟨goodIn_r _ [560, 561, 5, 562] (by decide +kernel) (by decide +kernel), by unfold zNm; decide +kernel⟩
theorem gk_X9_150 : zLkS RX9 150 mX9_wrongBy 2 := ⟨goodIn_r _ [597, 598, 5, 599] (by decide +kernel) (by decide +kernel), by unfold zNm; decide +kernel⟩
theorem gk_X9_153 : zLkS RX9 153 mX9_areHome 1 := ⟨goodIn_r _ [661, 662, 5, 663] (by decide +kernel) (by decide +kernel), by unfold zNm; decide +kernel⟩
theorem gk_X9_157 : zLkV RX9 157 mX9_meetsOne 2 := ⟨goodIn_r _ [677, 678, 679, 5, 680] (by decide +kernel) (by decide +kernel), by unfold zNm; decide +kernel⟩
theorem gk_X9_160 : zLkS RX9 160 mX9_worthAll 1 := ⟨goodIn_r _ [726, 727, 5, 728] (by decide +kernel) (by decide +kernel), by unfold zNm; decide +kernel⟩
theorem gk_X9_163 : zLkV RX9 163 mX9_worthBehind 2 := ⟨goodIn_r _ [722, 723, 724, 5, 725] (by decide +kernel) (by decide +kernel), by unfold zNm; decide +kernel⟩
theorem gk_X9_166 : zLkV RX9 166 mX9_wrongLend 2 := ⟨goodIn_r _ [714, 715, 716, 5, 717] (by decide +kernel) (by decide +kernel), by unfold zNm; decide +kernel⟩
theorem gk_X9_169 : zLkV RX9 169 mX9_worthNow 2 := ⟨goodIn_r _ [718, 719, 720, 5, 721] (by decide +kernel) (by decide +kernel), by unfold zNm; decide +kernel⟩
theorem gk_X9_172 : zLkS RX9 172 mX9_plainSet 1 := ⟨goodIn_r _ [781, 782, 5, 783] (by decide +kernel) (by decide +kernel), by unfold zNm; decide +kernel⟩
theorem gk_X9_175 : zLkV RX9 175 mX9_pairsBy 1 := ⟨goodIn_r _ [801, 802, 803, 5, 804] (by decide +kernel) (by decide +kernel), by unfold zNm; decide +kernel⟩
theorem gk_X9_179 : zLkV RX9 179 mX9_isFamedBehind 3 := ⟨goodIn_r _ [817, 818, 819, 5, 820] (by decide +kernel) (by decide +kernel), by unfold zNm; decide +kernel⟩
theorem gk_X9_182 : zLkV RX9 182 mX9_canBeBy 2 := ⟨goodIn_r _ [825, 826, 827, 5, 828] (by decide +kernel) (by decide +kernel), by unfold zNm; decide +kernel⟩
theorem gk_X9_185 : zLkV RX9 185 mX9_firstLender 3 := ⟨goodIn_r _ [821, 822, 823, 5, 824] (by decide +kernel) (by decide +kernel), by unfold zNm; decide +kernel⟩
theorem gk_X9_192 : zLkV RX9 192 mX9_worthBoth 6 := ⟨goodIn_r _ [880, 881, 882, 5, 883] (by decide +kernel) (by decide +kernel), by unfold zNm; decide +kernel⟩
theorem gk_X9_196 : zLkS RX9 196 mX9_gcd 2 := ⟨goodIn_r _ [917, 918, 5, 919] (by decide +kernel) (by decide +kernel), by unfold zNm; decide +kernel⟩
theorem gk_X9_200 : zLkV RX9 200 mX9_noWide 1 := ⟨goodIn_r _ [909, 910, 911, 5, 912] (by decide +kernel) (by decide +kernel), by unfold zNm; decide +kernel⟩
theorem gk_X9_204 : zLkS RX9 204 mX9_partOf 3 := ⟨goodIn_r _ [914, 915, 5, 916] (by decide +kernel) (by decide +kernel), by unfold zNm; decide +kernel⟩
theorem gk_X9_208 : zLkS RX9 208 mX9_allOf 2 := ⟨goodIn_r _ [929, 930, 5, 931] (by decide +kernel) (by decide +kernel), by unfold zNm; decide +kernel⟩
theorem gk_X9_217 : zLkV RX9 217 mX9_drawn 1 := ⟨goodIn_r _ [991, 992, 993, 5, 994] (by decide +kernel) (by decide +kernel), by unfold zNm; decide +kernel⟩
theorem gk_X6_19 : zLkV RX6 19 mX6_brokenPlace 0 := ⟨goodIn_r _ [139, 140, 141, 38, 142] (by decide +kernel) (by decide +kernel), by unfold zNm; decide +kernel⟩
theorem gk_X6_23 : zLkV RX6 23 mX6_comesTo 2 := ⟨goodIn_r _ [266, 267, 268, 38, 269] (by decide +kernel) (by decide +kernel), by unfold zNm; decide +kernel⟩
theorem gk_X6_27 : zLkS RX6 27 mX6_shapeOf 1 := ⟨goodIn_r _ [259, 260, 38, 261] (by decide +kernel) (by decide +kernel), by unfold zNm; decide +kernel⟩
theorem gk_X6_42 : zLkS RX6 42 mX6_fits 2 := ⟨goodIn_r _ [192, 193, 38, 194] (by decide +kernel) (by decide +kernel), by unfold zNm; decide +kernel⟩
theorem gk_X6_58 : zLkS RX6 58 mX6_kindOf 1 := ⟨goodIn_r _ [195, 196, 38, 197] (by decide +kernel) (by decide +kernel), by unfold zNm; decide +kernel⟩
theorem gk_X6_67 : zLkV RX6 67 mX6_signAt 1 := ⟨goodIn_r _ [270, 271, 272, 38, 273] (by decide +kernel) (by decide +kernel), by unfold zNm; decide +kernel⟩
theorem gk_X6_70 : zLkV RX6 70 mX6_digitAt 1 := ⟨goodIn_r _ [274, 275, 276, 38, 277] (by decide +kernel) (by decide +kernel), by unfold zNm; decide +kernel⟩
theorem gk_X6_73 : zLkV RX6 73 mX7_takesIn 2 := ⟨goodIn_r _ [278, 279, 280, 32, 281] (by decide +kernel) (by decide +kernel), by unfold zNm; decide +kernel⟩
theorem gk_X6_79 : zLkS RX6 79 mX6_lendingComes 3 := ⟨goodIn_r _ [282, 283, 38, 284] (by decide +kernel) (by decide +kernel), by unfold zNm; decide +kernel⟩
theorem gk_X6_83 : zLkS RX6 83 mX6_backComes 2 := ⟨goodIn_r _ [301, 302, 38, 303] (by decide +kernel) (by decide +kernel), by unfold zNm; decide +kernel⟩
theorem gk_X6_86 : zLkS RX6 86 mX6_knowingComes 3 := ⟨goodIn_r _ [316, 317, 38, 318] (by decide +kernel) (by decide +kernel), by unfold zNm; decide +kernel⟩
theorem gk_X6_89 : zLkV RX6 89 mX6_twoDigitsAt 1 := ⟨goodIn_r _ [323, 324, 325, 38, 326] (by decide +kernel) (by decide +kernel), by unfold zNm; decide +kernel⟩
theorem gk_X6_92 : zLkS RX6 92 mX6_fameComes 3 := ⟨goodIn_r _ [327, 328, 38, 329] (by decide +kernel) (by decide +kernel), by unfold zNm; decide +kernel⟩
theorem gk_X6_95 : zLkS RX6 95 mX6_monthsCome 2 := ⟨goodIn_r _ [330, 331, 38, 332] (by decide +kernel) (by decide +kernel), by unfold zNm; decide +kernel⟩
theorem gk_X6_98 : zLkV RX6 98 mX7_isThere 1 := ⟨goodIn_r _ [285, 286, 287, 32, 288] (by decide +kernel) (by decide +kernel), by unfold zNm; decide +kernel⟩
theorem gk_X6_102 : zLkV RX6 102 mX7_canLend 2 := ⟨goodIn_r _ [289, 290, 291, 32, 292] (by decide +kernel) (by decide +kernel), by unfold zNm; decide +kernel⟩
theorem gk_X6_105 : zLkV RX6 105 mX7_handOver 2 := ⟨goodIn_r _ [297, 298, 299, 32, 300] (by decide +kernel) (by decide +kernel), by unfold zNm; decide +kernel⟩
theorem gk_X6_109 : zLkV RX6 109 mX7_isLent 1 := ⟨goodIn_r _ [304, 305, 306, 32, 307] (by decide +kernel) (by decide +kernel), by unfold zNm; decide +kernel⟩
theorem gk_X6_112 : zLkV RX6 112 mX7_bringBack 1 := ⟨goodIn_r _ [308, 309, 310, 32, 311] (by decide +kernel) (by decide +kernel), by unfold zNm; decide +kernel⟩
theorem gk_X6_115 : zLkV RX6 115 mX7_turnKnowing 2 := ⟨goodIn_r _ [319, 320, 321, 32, 322] (by decide +kernel) (by decide +kernel), by unfold zNm; decide +kernel⟩
theorem gk_X6_121 : zLkN RX6 121 mX8_rangeFault 3 := ⟨List.mem_of_getElem? (i := 444) (by decide +kernel), goodIn_r _ [99, 2, 100] (by decide +kernel) (by decide +kernel), by unfold zNm; decide +kernel⟩
theorem gk_X6_128 : zLkV RX6 128 mX7_goOn 1 := ⟨goodIn_r _ [333, 334, 335, 32, 336] (by decide +kernel) (by decide +kernel), by unfold zNm; decide +kernel⟩
theorem gk_X7_44 : zLkV RX7 44 mX7_wearsOwn 1 := ⟨goodIn_r _ [293, 294, 295, 32, 296] (by decide +kernel) (by decide +kernel), by unfold zNm; decide +kernel⟩
theorem gk_X7_48 : zLkV RX7 48 mX7_wearerOf 1 := ⟨goodIn_r _ [312, 313, 314, 32, 315] (by decide +kernel) (by decide +kernel), by unfold zNm; decide +kernel⟩
theorem gk_X7_52 : zLkV RX7 52 mX7_knowsFace 2 := ⟨goodIn_r _ [672, 579, 580, 32, 581] (by decide +kernel) (by decide +kernel), by unfold zNm; decide +kernel⟩
theorem gk_X7_56 : zLkV RX7 56 mX7_isKind 1 := ⟨goodIn_r _ [342, 343, 344, 32, 345] (by decide +kernel) (by decide +kernel), by unfold zNm; decide +kernel⟩
theorem gk_X7_59 : zLkV RX7 59 mX7_knowersOf 1 := ⟨goodIn_r _ [346, 347, 348, 32, 349] (by decide +kernel) (by decide +kernel), by unfold zNm; decide +kernel⟩
theorem gk_X7_68 : zLkV RX7 68 mX7_wearForAMonth 1 := ⟨goodIn_r _ [337, 338, 339, 32, 340] (by decide +kernel) (by decide +kernel), by unfold zNm; decide +kernel⟩
theorem gk_X7_72 : zLkV RX7 72 mX7_keepLentForAMonth 1 := ⟨goodIn_r _ [395, 396, 397, 32, 398] (by decide +kernel) (by decide +kernel), by unfold zNm; decide +kernel⟩
theorem gk_X7_75 : zLkV RX7 75 mX7_isThere 1 := ⟨goodIn_r _ [341, 286, 287, 32, 288] (by decide +kernel) (by decide +kernel), by unfold zNm; decide +kernel⟩
theorem gk_X7_78 : zLkN RX7 78 mX8_withinMarks 1 := ⟨List.mem_of_getElem? (i := 483) (by decide +kernel), goodIn_r _ [375, 2, 376] (by decide +kernel) (by decide +kernel), by unfold zNm; decide +kernel⟩
theorem gk_X7_84 : zLkV RX7 84 mX7_bringBack 1 := ⟨goodIn_r _ [399, 309, 310, 32, 311] (by decide +kernel) (by decide +kernel), by unfold zNm; decide +kernel⟩
theorem gk_X7_87 : zLkV RX7 87 mX7_isLent 1 := ⟨goodIn_r _ [400, 305, 306, 32, 307] (by decide +kernel) (by decide +kernel), by unfold zNm; decide +kernel⟩
theorem gk_X7_90 : zLkV RX7 90 mX7_sumOf 1 := ⟨goodIn_r _ [749, 750, 751, 32, 752] (by decide +kernel) (by decide +kernel), by unfold zNm; decide +kernel⟩
theorem gk_X7_94 : zLkV RX7 94 mX7_allFame 0 := ⟨goodIn_r _ [745, 746, 747, 32, 748] (by decide +kernel) (by decide +kernel), by unfold zNm; decide +kernel⟩
theorem gk_X7_98 : zLkV RX7 98 mX7_allScars 0 := ⟨goodIn_r _ [753, 754, 755, 32, 756] (by decide +kernel) (by decide +kernel), by unfold zNm; decide +kernel⟩
section ZFLD
variable {x : zCx} {M : zM} {post : Option Value → zSt → Prop} {pc : Nat} {lv : List (Nat × Value)} {st : List Value} {S : zSt}
theorem hf_X8_45 : Cond.fieldLink RX8 45 "EachLendsHisFace" "telling" "LEachLendsHisFace$Telling;" ∈ wsL_law := List.mem_of_getElem? (i := 39) (by decide +kernel)
theorem gf_X8_45 (hM : M.1.cls = RX8) (d : decode M.2.1 pc = .ok (.getfield 45, 3)) (kk : zZ x true M post (pc + 3) lv (.ref (zad x 32) :: st) S) : zZ x true M post pc lv (.ref (zad x 0) :: st) S := zgetr (j := 3) d (by decide) rfl rfl inlX8 rfl (by decide) (by rw [hM]; exact hf_X8_45) kk
theorem hf_X8_85 : Cond.fieldLinkNest RX8 85 "EachLendsHisFace$Telling" "size" "I" "EachLendsHisFace" ∈ lw_tbl := List.mem_of_getElem? (i := 171) (by decide +kernel)
theorem gf_X8_85 (hM : M.1.cls = RX8) (d : decode M.2.1 pc = .ok (.getfield 85, 3)) (kk : zZ x true M post (pc + 3) lv (.int (S.2 32 1) :: st) S) : zZ x true M post pc lv (.ref (zad x 32) :: st) S := zgetiN (j := 1) d (by decide) rfl rfl inlX6 rfl (by decide) (by rw [hM]; exact hf_X8_85) kk
theorem hf_X8_36 : Cond.fieldLink RX8 36 "EachLendsHisFace" "mind" "LEachLendsHisFace$Town;" ∈ wsL_law := List.mem_of_getElem? (i := 34) (by decide +kernel)
theorem gf_X8_36 (hM : M.1.cls = RX8) (d : decode M.2.1 pc = .ok (.getfield 36, 3)) (kk : zZ x true M post (pc + 3) lv (.ref (zad x 16) :: st) S) : zZ x true M post pc lv (.ref (zad x 0) :: st) S := zgetr (j := 1) d (by decide) rfl rfl inlX8 rfl (by decide) (by rw [hM]; exact hf_X8_36) kk
theorem hf_X8_30 : Cond.fieldLink RX8 30 "EachLendsHisFace" "now" "LEachLendsHisFace$Town;" ∈ wsL_law := List.mem_of_getElem? (i := 33) (by decide +kernel)
theorem gf_X8_30 (hM : M.1.cls = RX8) (d : decode M.2.1 pc = .ok (.getfield 30, 3)) (kk : zZ x true M post (pc + 3) lv (.ref (zad x 8) :: st) S) : zZ x true M post pc lv (.ref (zad x 0) :: st) S := zgetr (j := 0) d (by decide) rfl rfl inlX8 rfl (by decide) (by rw [hM]; exact hf_X8_30) kk
theorem pf_X8_85 {v : Int32} (hM : M.1.cls = RX8) (d : decode M.2.1 pc = .ok (.putfield 85, 3)) (kk : zZ x true M post (pc + 3) lv st (S.1, u2 S.2 32 1 v)) : zZ x true M post pc lv (.int v :: .ref (zad x 32) :: st) S := zputiN (j := 1) (ty := .int) d (by decide) rfl rfl inlX6 tyX6 tyX6_ok nmX6 rfl (by decide) (by rw [hM]; exact hf_X8_85) rfl (by decide +kernel) rfl rfl kk
theorem hf_X8_106 : Cond.fieldLinkNest RX8 106 "EachLendsHisFace$Town" "kind" "[I" "EachLendsHisFace" ∈ lw_tbl := List.mem_of_getElem? (i := 123) (by decide +kernel)
theorem gf_X8_106 {t : Nat} (ht : t < 3) (hM : M.1.cls = RX8) (d : decode M.2.1 pc = .ok (.getfield 106, 3)) (kk : zZ x true M post (pc + 3) lv (.ref (zad x (tp t + 1)) :: st) S) : zZ x true M post pc lv (.ref (zad x (tp t)) :: st) S := zgetrN (j := 1) d (tpk0 ht) (tpl ht) rfl inlX7 rfl (by decide) (by rw [hM]; exact hf_X8_106) kk
theorem hf_X8_109 : Cond.fieldLinkNest RX8 109 "EachLendsHisFace$Town" "figure" "[I" "EachLendsHisFace" ∈ lw_tbl := List.mem_of_getElem? (i := 125) (by decide +kernel)
theorem gf_X8_109 {t : Nat} (ht : t < 3) (hM : M.1.cls = RX8) (d : decode M.2.1 pc = .ok (.getfield 109, 3)) (kk : zZ x true M post (pc + 3) lv (.ref (zad x (tp t + 2)) :: st) S) : zZ x true M post pc lv (.ref (zad x (tp t)) :: st) S := zgetrN (j := 2) d (tpk0 ht) (tpl ht) rfl inlX7 rfl (by decide) (by rw [hM]; exact hf_X8_109) kk
theorem hf_X8_112 : Cond.fieldLinkNest RX8 112 "EachLendsHisFace$Town" "known" "[I" "EachLendsHisFace" ∈ lw_tbl := List.mem_of_getElem? (i := 127) (by decide +kernel)
theorem gf_X8_112 {t : Nat} (ht : t < 3) (hM : M.1.cls = RX8) (d : decode M.2.1 pc = .ok (.getfield 112, 3)) (kk : zZ x true M post (pc + 3) lv (.ref (zad x (tp t + 3)) :: st) S) : zZ x true M post pc lv (.ref (zad x (tp t)) :: st) S := zgetrN (j := 3) d (tpk0 ht) (tpl ht) rfl inlX7 rfl (by decide) (by rw [hM]; exact hf_X8_112) kk
theorem hf_X8_115 : Cond.fieldLinkNest RX8 115 "EachLendsHisFace$Town" "worn" "[I" "EachLendsHisFace" ∈ lw_tbl := List.mem_of_getElem? (i := 129) (by decide +kernel)
theorem gf_X8_115 {t : Nat} (ht : t < 3) (hM : M.1.cls = RX8) (d : decode M.2.1 pc = .ok (.getfield 115, 3)) (kk : zZ x true M post (pc + 3) lv (.ref (zad x (tp t + 4)) :: st) S) : zZ x true M post pc lv (.ref (zad x (tp t)) :: st) S := zgetrN (j := 4) d (tpk0 ht) (tpl ht) rfl inlX7 rfl (by decide) (by rw [hM]; exact hf_X8_115) kk
theorem hf_X8_157 : Cond.fieldLinkNest RX8 157 "EachLendsHisFace$Town" "fame" "[I" "EachLendsHisFace" ∈ lw_tbl := List.mem_of_getElem? (i := 131) (by decide +kernel)
theorem gf_X8_157 {t : Nat} (ht : t < 3) (hM : M.1.cls = RX8) (d : decode M.2.1 pc = .ok (.getfield 157, 3)) (kk : zZ x true M post (pc + 3) lv (.ref (zad x (tp t + 5)) :: st) S) : zZ x true M post pc lv (.ref (zad x (tp t)) :: st) S := zgetrN (j := 5) d (tpk0 ht) (tpl ht) rfl inlX7 rfl (by decide) (by rw [hM]; exact hf_X8_157) kk
theorem hf_X8_160 : Cond.fieldLinkNest RX8 160 "EachLendsHisFace$Town" "scars" "[I" "EachLendsHisFace" ∈ lw_tbl := List.mem_of_getElem? (i := 134) (by decide +kernel)
theorem gf_X8_160 {t : Nat} (ht : t < 3) (hM : M.1.cls = RX8) (d : decode M.2.1 pc = .ok (.getfield 160, 3)) (kk : zZ x true M post (pc + 3) lv (.ref (zad x (tp t + 6)) :: st) S) : zZ x true M post pc lv (.ref (zad x (tp t)) :: st) S := zgetrN (j := 6) d (tpk0 ht) (tpl ht) rfl inlX7 rfl (by decide) (by rw [hM]; exact hf_X8_160) kk
theorem hf_X8_163 : Cond.fieldLinkNest RX8 163 "EachLendsHisFace$Town" "month" "I" "EachLendsHisFace" ∈ lw_tbl := List.mem_of_getElem? (i := 139) (by decide +kernel)
theorem gf_X8_163 {t : Nat} (ht : t < 3) (hM : M.1.cls = RX8) (d : decode M.2.1 pc = .ok (.getfield 163, 3)) (kk : zZ x true M post (pc + 3) lv (.int (S.2 (tp t) 9) :: st) S) : zZ x true M post pc lv (.ref (zad x (tp t)) :: st) S := zgetiN (j := 9) d (tpk0 ht) (tpl ht) rfl inlX7 rfl (by decide) (by rw [hM]; exact hf_X8_163) kk
theorem hf_X8_192 : Cond.fieldLinkNest RX8 192 "EachLendsHisFace$Town" "people" "I" "EachLendsHisFace" ∈ lw_tbl := List.mem_of_getElem? (i := 137) (by decide +kernel)
theorem gf_X8_192 {t : Nat} (ht : t < 3) (hM : M.1.cls = RX8) (d : decode M.2.1 pc = .ok (.getfield 192, 3)) (kk : zZ x true M post (pc + 3) lv (.int (S.2 (tp t) 8) :: st) S) : zZ x true M post pc lv (.ref (zad x (tp t)) :: st) S := zgetiN (j := 8) d (tpk0 ht) (tpl ht) rfl inlX7 rfl (by decide) (by rw [hM]; exact hf_X8_192) kk
theorem hf_X8_56 : Cond.fieldLink RX8 56 "EachLendsHisFace" "free" "[I" ∈ wsL_law := List.mem_of_getElem? (i := 43) (by decide +kernel)
theorem gf_X8_56 (hM : M.1.cls = RX8) (d : decode M.2.1 pc = .ok (.getfield 56, 3)) (kk : zZ x true M post (pc + 3) lv (.ref (zad x 36) :: st) S) : zZ x true M post pc lv (.ref (zad x 0) :: st) S := zgetr (j := 6) d (by decide) rfl rfl inlX8 rfl (by decide) (by rw [hM]; exact hf_X8_56) kk
theorem hf_X8_59 : Cond.fieldLink RX8 59 "EachLendsHisFace" "firstWorths" "[I" ∈ wsL_law := List.mem_of_getElem? (i := 44) (by decide +kernel)
theorem gf_X8_59 (hM : M.1.cls = RX8) (d : decode M.2.1 pc = .ok (.getfield 59, 3)) (kk : zZ x true M post (pc + 3) lv (.ref (zad x 37) :: st) S) : zZ x true M post pc lv (.ref (zad x 0) :: st) S := zgetr (j := 7) d (by decide) rfl rfl inlX8 rfl (by decide) (by rw [hM]; exact hf_X8_59) kk
theorem hf_X8_62 : Cond.fieldLink RX8 62 "EachLendsHisFace" "otherWorths" "[I" ∈ wsL_law := List.mem_of_getElem? (i := 45) (by decide +kernel)
theorem gf_X8_62 (hM : M.1.cls = RX8) (d : decode M.2.1 pc = .ok (.getfield 62, 3)) (kk : zZ x true M post (pc + 3) lv (.ref (zad x 38) :: st) S) : zZ x true M post pc lv (.ref (zad x 0) :: st) S := zgetr (j := 8) d (by decide) rfl rfl inlX8 rfl (by decide) (by rw [hM]; exact hf_X8_62) kk
theorem hf_X8_65 : Cond.fieldLink RX8 65 "EachLendsHisFace" "toldSize" "I" ∈ wsL_law := List.mem_of_getElem? (i := 46) (by decide +kernel)
theorem gf_X8_65 (hM : M.1.cls = RX8) (d : decode M.2.1 pc = .ok (.getfield 65, 3)) (kk : zZ x true M post (pc + 3) lv (.int (S.2 0 9) :: st) S) : zZ x true M post pc lv (.ref (zad x 0) :: st) S := zgeti (j := 9) d (by decide) rfl rfl inlX8 rfl (by decide) (by rw [hM]; exact hf_X8_65) kk
theorem hf_X8_49 : Cond.fieldLink RX8 49 "EachLendsHisFace" "told" "[I" ∈ wsL_law := List.mem_of_getElem? (i := 41) (by decide +kernel)
theorem gf_X8_49 (hM : M.1.cls = RX8) (d : decode M.2.1 pc = .ok (.getfield 49, 3)) (kk : zZ x true M post (pc + 3) lv (.ref (zad x 34) :: st) S) : zZ x true M post pc lv (.ref (zad x 0) :: st) S := zgetr (j := 4) d (by decide) rfl rfl inlX8 rfl (by decide) (by rw [hM]; exact hf_X8_49) kk
theorem pf_X8_65 {v : Int32} (hM : M.1.cls = RX8) (d : decode M.2.1 pc = .ok (.putfield 65, 3)) (kk : zZ x true M post (pc + 3) lv st (S.1, u2 S.2 0 9 v)) : zZ x true M post pc lv (.int v :: .ref (zad x 0) :: st) S := zputi (j := 9) (ty := .int) d (by decide) rfl rfl inlX8 tyX8 tyX8_ok nmX8 rfl (by decide) (by rw [hM]; exact hf_X8_65) rfl (by decide +kernel) rfl rfl kk
theorem hf_X8_39 : Cond.fieldLink RX8 39 "EachLendsHisFace" "kept" "LEachLendsHisFace$Town;" ∈ wsL_law := List.mem_of_getElem? (i := 35) (by decide +kernel)
theorem gf_X8_39 (hM : M.1.cls = RX8) (d : decode M.2.1 pc = .ok (.getfield 39, 3)) (kk : zZ x true M post (pc + 3) lv (.ref (zad x 24) :: st) S) : zZ x true M post pc lv (.ref (zad x 0) :: st) S := zgetr (j := 2) d (by decide) rfl rfl inlX8 rfl (by decide) (by rw [hM]; exact hf_X8_39) kk
theorem hf_X8_69 : Cond.fieldLink RX8 69 "EachLendsHisFace" "hasKept" "Z" ∈ wsL_law := List.mem_of_getElem? (i := 47) (by decide +kernel)
theorem pf_X8_69 {v : Int32} (hM : M.1.cls = RX8) (d : decode M.2.1 pc = .ok (.putfield 69, 3)) (hn : narrow .boolean (.int v) = .int v) (hfit : fits .boolean (.int v) = true) (kk : zZ x true M post (pc + 3) lv st (S.1, u2 S.2 0 10 v)) : zZ x true M post pc lv (.int v :: .ref (zad x 0) :: st) S := zputi (j := 10) (ty := .boolean) d (by decide) rfl rfl inlX8 tyX8 tyX8_ok nmX8 rfl (by decide) (by rw [hM]; exact hf_X8_69) rfl (by decide +kernel) hn hfit kk
theorem gf_X8_69 (hM : M.1.cls = RX8) (d : decode M.2.1 pc = .ok (.getfield 69, 3)) (kk : zZ x true M post (pc + 3) lv (.int (S.2 0 10) :: st) S) : zZ x true M post pc lv (.ref (zad x 0) :: st) S := zgeti (j := 10) d (by decide) rfl rfl inlX8 rfl (by decide) (by rw [hM]; exact hf_X8_69) kk
theorem hf_X8_53 : Cond.fieldLink RX8 53 "EachLendsHisFace" "refusals" "[I" ∈ wsL_law := List.mem_of_getElem? (i := 42) (by decide +kernel)
theorem gf_X8_53 (hM : M.1.cls = RX8) (d : decode M.2.1 pc = .ok (.getfield 53, 3)) (kk : zZ x true M post (pc + 3) lv (.ref (zad x 35) :: st) S) : zZ x true M post pc lv (.ref (zad x 0) :: st) S := zgetr (j := 5) d (by decide) rfl rfl inlX8 rfl (by decide) (by rw [hM]; exact hf_X8_53) kk
theorem hf_X9_31 : Cond.fieldLink RX9 31 "EachLendsHisFaceModel" "refused" "[I" ∈ wsL_law := List.mem_of_getElem? (i := 92) (by decide +kernel)
theorem gf_X9_31 (hM : M.1.cls = RX9) (d : decode M.2.1 pc = .ok (.getfield 31, 3)) (kk : zZ x false M post (pc + 3) lv (.ref (zad x 8) :: st) S) : zZ x false M post pc lv (.ref (zad x 0) :: st) S := zgetr (j := 8) d (by decide) rfl rfl inlX9 rfl (by decide) (by rw [hM]; exact hf_X9_31) kk
theorem hf_X9_9 : Cond.fieldLink RX9 9 "EachLendsHisFaceModel" "s" "[I" ∈ wsL_law := List.mem_of_getElem? (i := 85) (by decide +kernel)
theorem gf_X9_9 (hM : M.1.cls = RX9) (d : decode M.2.1 pc = .ok (.getfield 9, 3)) (kk : zZ x false M post (pc + 3) lv (.ref (zad x 1) :: st) S) : zZ x false M post pc lv (.ref (zad x 0) :: st) S := zgetr (j := 0) d (by decide) rfl rfl inlX9 rfl (by decide) (by rw [hM]; exact hf_X9_9) kk
theorem hf_X9_91 : Cond.fieldLink RX9 91 "EachLendsHisFaceModel" "letterMany" "I" ∈ wsL_law := List.mem_of_getElem? (i := 122) (by decide +kernel)
theorem gf_X9_91 (hM : M.1.cls = RX9) (d : decode M.2.1 pc = .ok (.getfield 91, 3)) (kk : zZ x false M post (pc + 3) lv (.int (S.2 0 9) :: st) S) : zZ x false M post pc lv (.ref (zad x 0) :: st) S := zgeti (j := 9) d (by decide) rfl rfl inlX9 rfl (by decide) (by rw [hM]; exact hf_X9_91) kk
theorem hf_X9_25 : Cond.fieldLink RX9 25 "EachLendsHisFaceModel" "letters" "[I" ∈ wsL_law := List.mem_of_getElem? (i := 90) (by decide +kernel)
theorem gf_X9_25 (hM : M.1.cls = RX9) (d : decode M.2.1 pc = .ok (.getfield 25, 3)) (kk : zZ x false M post (pc + 3) lv (.ref (zad x 6) :: st) S) : zZ x false M post pc lv (.ref (zad x 0) :: st) S := zgetr (j := 6) d (by decide) rfl rfl inlX9 rfl (by decide) (by rw [hM]; exact hf_X9_25) kk
theorem pf_X9_91 {v : Int32} (hM : M.1.cls = RX9) (d : decode M.2.1 pc = .ok (.putfield 91, 3)) (kk : zZ x false M post (pc + 3) lv st (S.1, u2 S.2 0 9 v)) : zZ x false M post pc lv (.int v :: .ref (zad x 0) :: st) S := zputi (j := 9) (ty := .int) d (by decide) rfl rfl inlX9 tyX9 tyX9_ok nmX9 rfl (by decide) (by rw [hM]; exact hf_X9_91) rfl (by decide +kernel) rfl rfl kk
theorem hf_X9_95 : Cond.fieldLink RX9 95 "EachLendsHisFaceModel" "place" "I" ∈ wsL_law := List.mem_of_getElem? (i := 405) (by decide +kernel)
theorem gf_X9_95 (hM : M.1.cls = RX9) (d : decode M.2.1 pc = .ok (.getfield 95, 3)) (kk : zZ x false M post (pc + 3) lv (.int (S.2 0 11) :: st) S) : zZ x false M post pc lv (.ref (zad x 0) :: st) S := zgeti (j := 11) d (by decide) rfl rfl inlX9 rfl (by decide) (by rw [hM]; exact hf_X9_95) kk
theorem hf_X9_34 : Cond.fieldLink RX9 34 "EachLendsHisFaceModel" "numbers" "[I" ∈ wsL_law := List.mem_of_getElem? (i := 93) (by decide +kernel)
theorem gf_X9_34 (hM : M.1.cls = RX9) (d : decode M.2.1 pc = .ok (.getfield 34, 3)) (kk : zZ x false M post (pc + 3) lv (.ref (zad x 9) :: st) S) : zZ x false M post pc lv (.ref (zad x 0) :: st) S := zgetr (j := 12) d (by decide) rfl rfl inlX9 rfl (by decide) (by rw [hM]; exact hf_X9_34) kk
theorem pf_X9_95 {v : Int32} (hM : M.1.cls = RX9) (d : decode M.2.1 pc = .ok (.putfield 95, 3)) (kk : zZ x false M post (pc + 3) lv st (S.1, u2 S.2 0 11 v)) : zZ x false M post pc lv (.int v :: .ref (zad x 0) :: st) S := zputi (j := 11) (ty := .int) d (by decide) rfl rfl inlX9 tyX9 tyX9_ok nmX9 rfl (by decide) (by rw [hM]; exact hf_X9_95) rfl (by decide +kernel) rfl rfl kk
theorem hf_X9_19 : Cond.fieldLink RX9 19 "EachLendsHisFaceModel" "was" "[I" ∈ wsL_law := List.mem_of_getElem? (i := 88) (by decide +kernel)
theorem gf_X9_19 (hM : M.1.cls = RX9) (d : decode M.2.1 pc = .ok (.getfield 19, 3)) (kk : zZ x false M post (pc + 3) lv (.ref (zad x 4) :: st) S) : zZ x false M post pc lv (.ref (zad x 0) :: st) S := zgetr (j := 3) d (by decide) rfl rfl inlX9 rfl (by decide) (by rw [hM]; exact hf_X9_19) kk
theorem hf_X9_13 : Cond.fieldLink RX9 13 "EachLendsHisFaceModel" "m" "[I" ∈ wsL_law := List.mem_of_getElem? (i := 86) (by decide +kernel)
theorem gf_X9_13 (hM : M.1.cls = RX9) (d : decode M.2.1 pc = .ok (.getfield 13, 3)) (kk : zZ x false M post (pc + 3) lv (.ref (zad x 2) :: st) S) : zZ x false M post pc lv (.ref (zad x 0) :: st) S := zgetr (j := 1) d (by decide) rfl rfl inlX9 rfl (by decide) (by rw [hM]; exact hf_X9_13) kk
theorem hf_X9_22 : Cond.fieldLink RX9 22 "EachLendsHisFaceModel" "lent" "[I" ∈ wsL_law := List.mem_of_getElem? (i := 89) (by decide +kernel)
theorem gf_X9_22 (hM : M.1.cls = RX9) (d : decode M.2.1 pc = .ok (.getfield 22, 3)) (kk : zZ x false M post (pc + 3) lv (.ref (zad x 5) :: st) S) : zZ x false M post pc lv (.ref (zad x 0) :: st) S := zgetr (j := 4) d (by decide) rfl rfl inlX9 rfl (by decide) (by rw [hM]; exact hf_X9_22) kk
theorem hf_X9_189 : Cond.fieldLink RX9 189 "EachLendsHisFaceModel" "rowMany" "I" ∈ wsL_law := List.mem_of_getElem? (i := 846) (by decide +kernel)
theorem gf_X9_189 (hM : M.1.cls = RX9) (d : decode M.2.1 pc = .ok (.getfield 189, 3)) (kk : zZ x false M post (pc + 3) lv (.int (S.2 0 10) :: st) S) : zZ x false M post pc lv (.ref (zad x 0) :: st) S := zgeti (j := 10) d (by decide) rfl rfl inlX9 rfl (by decide) (by rw [hM]; exact hf_X9_189) kk
theorem hf_X9_28 : Cond.fieldLink RX9 28 "EachLendsHisFaceModel" "row" "[I" ∈ wsL_law := List.mem_of_getElem? (i := 91) (by decide +kernel)
theorem gf_X9_28 (hM : M.1.cls = RX9) (d : decode M.2.1 pc = .ok (.getfield 28, 3)) (kk : zZ x false M post (pc + 3) lv (.ref (zad x 7) :: st) S) : zZ x false M post pc lv (.ref (zad x 0) :: st) S := zgetr (j := 7) d (by decide) rfl rfl inlX9 rfl (by decide) (by rw [hM]; exact hf_X9_28) kk
theorem pf_X9_189 {v : Int32} (hM : M.1.cls = RX9) (d : decode M.2.1 pc = .ok (.putfield 189, 3)) (kk : zZ x false M post (pc + 3) lv st (S.1, u2 S.2 0 10 v)) : zZ x false M post pc lv (.int v :: .ref (zad x 0) :: st) S := zputi (j := 10) (ty := .int) d (by decide) rfl rfl inlX9 tyX9 tyX9_ok nmX9 rfl (by decide) (by rw [hM]; exact hf_X9_189) rfl (by decide +kernel) rfl rfl kk
theorem hf_X9_211 : Cond.fieldLink RX9 211 "EachLendsHisFaceModel" "seed" "I" ∈ wsL_law := List.mem_of_getElem? (i := 990) (by decide +kernel)
theorem gf_X9_211 (hM : M.1.cls = RX9) (d : decode M.2.1 pc = .ok (.getfield 211, 3)) (kk : zZ x false M post (pc + 3) lv (.int (S.2 0 13) :: st) S) : zZ x false M post pc lv (.ref (zad x 0) :: st) S := zgeti (j := 13) d (by decide) rfl rfl inlX9 rfl (by decide) (by rw [hM]; exact hf_X9_211) kk
theorem pf_X9_211 {v : Int32} (hM : M.1.cls = RX9) (d : decode M.2.1 pc = .ok (.putfield 211, 3)) (kk : zZ x false M post (pc + 3) lv st (S.1, u2 S.2 0 13 v)) : zZ x false M post pc lv (.int v :: .ref (zad x 0) :: st) S := zputi (j := 13) (ty := .int) d (by decide) rfl rfl inlX9 tyX9 tyX9_ok nmX9 rfl (by decide) (by rw [hM]; exact hf_X9_211) rfl (by decide +kernel) rfl rfl kk
theorem hf_X9_16 : Cond.fieldLink RX9 16 "EachLendsHisFaceModel" "image" "[I" ∈ wsL_law := List.mem_of_getElem? (i := 87) (by decide +kernel)
theorem gf_X9_16 (hM : M.1.cls = RX9) (d : decode M.2.1 pc = .ok (.getfield 16, 3)) (kk : zZ x false M post (pc + 3) lv (.ref (zad x 3) :: st) S) : zZ x false M post pc lv (.ref (zad x 0) :: st) S := zgetr (j := 2) d (by decide) rfl rfl inlX9 rfl (by decide) (by rw [hM]; exact hf_X9_16) kk
theorem hf_X9_220 : Cond.fieldLink RX9 220 "EachLendsHisFaceModel" "hasImage" "Z" ∈ wsL_law := List.mem_of_getElem? (i := 1006) (by decide +kernel)
theorem pf_X9_220 {v : Int32} (hM : M.1.cls = RX9) (d : decode M.2.1 pc = .ok (.putfield 220, 3)) (hn : narrow .boolean (.int v) = .int v) (hfit : fits .boolean (.int v) = true) (kk : zZ x false M post (pc + 3) lv st (S.1, u2 S.2 0 5 v)) : zZ x false M post pc lv (.int v :: .ref (zad x 0) :: st) S := zputi (j := 5) (ty := .boolean) d (by decide) rfl rfl inlX9 tyX9 tyX9_ok nmX9 rfl (by decide) (by rw [hM]; exact hf_X9_220) rfl (by decide +kernel) hn hfit kk
theorem gf_X9_220 (hM : M.1.cls = RX9) (d : decode M.2.1 pc = .ok (.getfield 220, 3)) (kk : zZ x false M post (pc + 3) lv (.int (S.2 0 5) :: st) S) : zZ x false M post pc lv (.ref (zad x 0) :: st) S := zgeti (j := 5) d (by decide) rfl rfl inlX9 rfl (by decide) (by rw [hM]; exact hf_X9_220) kk
theorem hf_X6_15 : Cond.fieldLink RX6 15 "EachLendsHisFace$Telling" "size" "I" ∈ wsL_law := List.mem_of_getElem? (i := 80) (by decide +kernel)
theorem gf_X6_15 (hM : M.1.cls = RX6) (d : decode M.2.1 pc = .ok (.getfield 15, 3)) (kk : zZ x true M post (pc + 3) lv (.int (S.2 32 1) :: st) S) : zZ x true M post pc lv (.ref (zad x 32) :: st) S := zgeti (j := 1) d (by decide) rfl rfl inlX6 rfl (by decide) (by rw [hM]; exact hf_X6_15) kk
theorem hf_X6_9 : Cond.fieldLink RX6 9 "EachLendsHisFace$Telling" "letters" "[I" ∈ wsL_law := List.mem_of_getElem? (i := 79) (by decide +kernel)
theorem gf_X6_9 (hM : M.1.cls = RX6) (d : decode M.2.1 pc = .ok (.getfield 9, 3)) (kk : zZ x true M post (pc + 3) lv (.ref (zad x 33) :: st) S) : zZ x true M post pc lv (.ref (zad x 32) :: st) S := zgetr (j := 0) d (by decide) rfl rfl inlX6 rfl (by decide) (by rw [hM]; exact hf_X6_9) kk
theorem pf_X6_15 {v : Int32} (hM : M.1.cls = RX6) (d : decode M.2.1 pc = .ok (.putfield 15, 3)) (kk : zZ x true M post (pc + 3) lv st (S.1, u2 S.2 32 1 v)) : zZ x true M post pc lv (.int v :: .ref (zad x 32) :: st) S := zputi (j := 1) (ty := .int) d (by decide) rfl rfl inlX6 tyX6 tyX6_ok nmX6 rfl (by decide) (by rw [hM]; exact hf_X6_15) rfl (by decide +kernel) rfl rfl kk
theorem hf_X6_118 : Cond.fieldLinkNest RX6 118 "EachLendsHisFace$Town" "fame" "[I" "EachLendsHisFace" ∈ lw_tbl := List.mem_of_getElem? (i := 132) (by decide +kernel)
theorem gf_X6_118 {t : Nat} (ht : t < 3) (hM : M.1.cls = RX6) (d : decode M.2.1 pc = .ok (.getfield 118, 3)) (kk : zZ x true M post (pc + 3) lv (.ref (zad x (tp t + 5)) :: st) S) : zZ x true M post pc lv (.ref (zad x (tp t)) :: st) S := zgetrN (j := 5) d (tpk0 ht) (tpl ht) rfl inlX7 rfl (by decide) (by rw [hM]; exact hf_X6_118) kk
theorem hf_X6_125 : Cond.fieldLinkNest RX6 125 "EachLendsHisFace$Town" "month" "I" "EachLendsHisFace" ∈ lw_tbl := List.mem_of_getElem? (i := 140) (by decide +kernel)
theorem gf_X6_125 {t : Nat} (ht : t < 3) (hM : M.1.cls = RX6) (d : decode M.2.1 pc = .ok (.getfield 125, 3)) (kk : zZ x true M post (pc + 3) lv (.int (S.2 (tp t) 9) :: st) S) : zZ x true M post pc lv (.ref (zad x (tp t)) :: st) S := zgetiN (j := 9) d (tpk0 ht) (tpl ht) rfl inlX7 rfl (by decide) (by rw [hM]; exact hf_X6_125) kk
theorem hf_X7_37 : Cond.fieldLink RX7 37 "EachLendsHisFace$Town" "people" "I" ∈ wsL_law := List.mem_of_getElem? (i := 73) (by decide +kernel)
theorem gf_X7_37 {t : Nat} (ht : t < 3) (hM : M.1.cls = RX7) (d : decode M.2.1 pc = .ok (.getfield 37, 3)) (kk : zZ x true M post (pc + 3) lv (.int (S.2 (tp t) 8) :: st) S) : zZ x true M post pc lv (.ref (zad x (tp t)) :: st) S := zgeti (j := 8) d (tpk0 ht) (tpl ht) rfl inlX7 rfl (by decide) (by rw [hM]; exact hf_X7_37) kk
theorem pf_X7_37 {t : Nat} (ht : t < 3) {v : Int32} (hM : M.1.cls = RX7) (d : decode M.2.1 pc = .ok (.putfield 37, 3)) (kk : zZ x true M post (pc + 3) lv st (S.1, u2 S.2 (tp t) 8 v)) : zZ x true M post pc lv (.int v :: .ref (zad x (tp t)) :: st) S := zputi (j := 8) (ty := .int) d (tpk0 ht) (tpl ht) rfl inlX7 tyX7 tyX7_ok nmX7 rfl (by decide) (by rw [hM]; exact hf_X7_37) rfl (by decide +kernel) rfl rfl kk
theorem hf_X7_41 : Cond.fieldLink RX7 41 "EachLendsHisFace$Town" "month" "I" ∈ wsL_law := List.mem_of_getElem? (i := 74) (by decide +kernel)
theorem gf_X7_41 {t : Nat} (ht : t < 3) (hM : M.1.cls = RX7) (d : decode M.2.1 pc = .ok (.getfield 41, 3)) (kk : zZ x true M post (pc + 3) lv (.int (S.2 (tp t) 9) :: st) S) : zZ x true M post pc lv (.ref (zad x (tp t)) :: st) S := zgeti (j := 9) d (tpk0 ht) (tpl ht) rfl inlX7 rfl (by decide) (by rw [hM]; exact hf_X7_41) kk
theorem pf_X7_41 {t : Nat} (ht : t < 3) {v : Int32} (hM : M.1.cls = RX7) (d : decode M.2.1 pc = .ok (.putfield 41, 3)) (kk : zZ x true M post (pc + 3) lv st (S.1, u2 S.2 (tp t) 9 v)) : zZ x true M post pc lv (.int v :: .ref (zad x (tp t)) :: st) S := zputi (j := 9) (ty := .int) d (tpk0 ht) (tpl ht) rfl inlX7 tyX7 tyX7_ok nmX7 rfl (by decide) (by rw [hM]; exact hf_X7_41) rfl (by decide +kernel) rfl rfl kk
theorem hf_X7_15 : Cond.fieldLink RX7 15 "EachLendsHisFace$Town" "kind" "[I" ∈ wsL_law := List.mem_of_getElem? (i := 66) (by decide +kernel)
theorem gf_X7_15 {t : Nat} (ht : t < 3) (hM : M.1.cls = RX7) (d : decode M.2.1 pc = .ok (.getfield 15, 3)) (kk : zZ x true M post (pc + 3) lv (.ref (zad x (tp t + 1)) :: st) S) : zZ x true M post pc lv (.ref (zad x (tp t)) :: st) S := zgetr (j := 1) d (tpk0 ht) (tpl ht) rfl inlX7 rfl (by decide) (by rw [hM]; exact hf_X7_15) kk
theorem hf_X7_19 : Cond.fieldLink RX7 19 "EachLendsHisFace$Town" "figure" "[I" ∈ wsL_law := List.mem_of_getElem? (i := 67) (by decide +kernel)
theorem gf_X7_19 {t : Nat} (ht : t < 3) (hM : M.1.cls = RX7) (d : decode M.2.1 pc = .ok (.getfield 19, 3)) (kk : zZ x true M post (pc + 3) lv (.ref (zad x (tp t + 2)) :: st) S) : zZ x true M post pc lv (.ref (zad x (tp t)) :: st) S := zgetr (j := 2) d (tpk0 ht) (tpl ht) rfl inlX7 rfl (by decide) (by rw [hM]; exact hf_X7_19) kk
theorem hf_X7_22 : Cond.fieldLink RX7 22 "EachLendsHisFace$Town" "known" "[I" ∈ wsL_law := List.mem_of_getElem? (i := 68) (by decide +kernel)
theorem gf_X7_22 {t : Nat} (ht : t < 3) (hM : M.1.cls = RX7) (d : decode M.2.1 pc = .ok (.getfield 22, 3)) (kk : zZ x true M post (pc + 3) lv (.ref (zad x (tp t + 3)) :: st) S) : zZ x true M post pc lv (.ref (zad x (tp t)) :: st) S := zgetr (j := 3) d (tpk0 ht) (tpl ht) rfl inlX7 rfl (by decide) (by rw [hM]; exact hf_X7_22) kk
theorem hf_X7_25 : Cond.fieldLink RX7 25 "EachLendsHisFace$Town" "worn" "[I" ∈ wsL_law := List.mem_of_getElem? (i := 69) (by decide +kernel)
theorem gf_X7_25 {t : Nat} (ht : t < 3) (hM : M.1.cls = RX7) (d : decode M.2.1 pc = .ok (.getfield 25, 3)) (kk : zZ x true M post (pc + 3) lv (.ref (zad x (tp t + 4)) :: st) S) : zZ x true M post pc lv (.ref (zad x (tp t)) :: st) S := zgetr (j := 4) d (tpk0 ht) (tpl ht) rfl inlX7 rfl (by decide) (by rw [hM]; exact hf_X7_25) kk
theorem hf_X7_28 : Cond.fieldLink RX7 28 "EachLendsHisFace$Town" "fame" "[I" ∈ wsL_law := List.mem_of_getElem? (i := 70) (by decide +kernel)
theorem gf_X7_28 {t : Nat} (ht : t < 3) (hM : M.1.cls = RX7) (d : decode M.2.1 pc = .ok (.getfield 28, 3)) (kk : zZ x true M post (pc + 3) lv (.ref (zad x (tp t + 5)) :: st) S) : zZ x true M post pc lv (.ref (zad x (tp t)) :: st) S := zgetr (j := 5) d (tpk0 ht) (tpl ht) rfl inlX7 rfl (by decide) (by rw [hM]; exact hf_X7_28) kk
theorem hf_X7_31 : Cond.fieldLink RX7 31 "EachLendsHisFace$Town" "scars" "[I" ∈ wsL_law := List.mem_of_getElem? (i := 71) (by decide +kernel)
theorem gf_X7_31 {t : Nat} (ht : t < 3) (hM : M.1.cls = RX7) (d : decode M.2.1 pc = .ok (.getfield 31, 3)) (kk : zZ x true M post (pc + 3) lv (.ref (zad x (tp t + 6)) :: st) S) : zZ x true M post pc lv (.ref (zad x (tp t)) :: st) S := zgetr (j := 6) d (tpk0 ht) (tpl ht) rfl inlX7 rfl (by decide) (by rw [hM]; exact hf_X7_31) kk
theorem hf_X7_34 : Cond.fieldLink RX7 34 "EachLendsHisFace$Town" "lent" "[I" ∈ wsL_law := List.mem_of_getElem? (i := 72) (by decide +kernel)
theorem gf_X7_34 {t : Nat} (ht : t < 3) (hM : M.1.cls = RX7) (d : decode M.2.1 pc = .ok (.getfield 34, 3)) (kk : zZ x true M post (pc + 3) lv (.ref (zad x (tp t + 7)) :: st) S) : zZ x true M post pc lv (.ref (zad x (tp t)) :: st) S := zgetr (j := 7) d (tpk0 ht) (tpl ht) rfl inlX7 rfl (by decide) (by rw [hM]; exact hf_X7_34) kk
theorem hf_X7_9 : Cond.fieldLink RX7 9 "EachLendsHisFace$Town" "kinds" "[LEachLendsHisFace$Person;" ∈ wsL_law := List.mem_of_getElem? (i := 65) (by decide +kernel)
theorem gf_X7_9 {t : Nat} (ht : t < 3) (hM : M.1.cls = RX7) (d : decode M.2.1 pc = .ok (.getfield 9, 3)) (kk : zZ x true M post (pc + 3) lv (.ref (zad x 1) :: st) S) : zZ x true M post pc lv (.ref (zad x (tp t)) :: st) S := zgetr (j := 0) d (tpk0 ht) (tpl ht) rfl inlX7 rfl (by decide) (by rw [hM]; exact hf_X7_9) kk
end ZFLD
