/-! The machine layer. A world of places: arrays of ints and int fields by place (zSt); references are fixed by the layout.
zZ: from this frame the method comes to its end with 'post'. zC: a method's contract over the whole world of its side. -/
abbrev zLay : Type := Nat → (Nat ⊕ ((Nat × List (Option Nat)) ⊕ List Nat))
abbrev zSt : Type := (Nat → Nat → Int32) × (Nat → Nat → Int32)
abbrev zCx : Type := Launch × va_G × ClassId × ClassId × (Nat → Nat) × (State → Prop)
abbrev zM : Type := MethodName × ByteArray × Nat × Option FieldType × Nat
abbrev zad (x : zCx) : Nat → Nat := x.2.2.2.2.1
def u2 (f : Nat → Nat → Int32) (a b : Nat) (v : Int32) : Nat → Nat → Int32 := fun i j => if i = a ∧ j = b then v else f i j
/-- the class's side: 0 the object, 1 the row of kinds, 2 .. 7 the kinds, 8 16 24 the towns with seven rows each, 32 the telling, 33 its letters, 34 told, 35 refusals, 36 free, 37 38 the worths -/
def zlayC : zLay := fun k =>
  if k = 0 then .inr (.inl (8, [some 8, some 16, some 24, some 32, some 34, some 35, some 36, some 37, some 38, none, none]))
  else if k = 1 then .inr (.inr [2, 3, 4, 5, 6, 7])
  else if k = 2 then .inr (.inl (5, []))
  else if k = 3 then .inr (.inl (0, []))
  else if k = 4 then .inr (.inl (4, []))
  else if k = 5 then .inr (.inl (3, []))
  else if k = 6 then .inr (.inl (1, []))
  else if k = 7 then .inr (.inl (2, []))
  else if k = 8 ∨ k = 16 ∨ k = 24 then .inr (.inl (7, [some 1, some (k + 1), some (k + 2), some (k + 3), some (k + 4), some (k + 5), some (k + 6), some (k + 7), none, none]))
  else if k < 32 then .inl 8
  else if k = 32 then .inr (.inl (6, [some 33, none]))
  else if k = 33 then .inl 96
  else if k = 34 then .inl 16
  else if k = 35 then .inl 7
  else if k = 36 then .inl 8
  else .inl 4
/-- the reference's side: 0 the object, 1 s, 2 m, 3 image, 4 was, 5 lent, 6 letters, 7 row, 8 refused, 9 numbers -/
def zlayM : zLay := fun k =>
  if k = 0 then .inr (.inl (9, [some 1, some 2, some 3, some 4, some 5, none, some 6, some 7, some 8, none, none, none, some 9, none]))
  else if k < 6 then .inl 58
  else if k = 6 then .inl 96
  else if k = 7 then .inl 16
  else if k = 8 then .inl 7
  else .inl 2
def zlay (b : Bool) : zLay := match b with
  | true => zlayC
  | false => zlayM
def zN (b : Bool) : Nat := match b with
  | true => 39
  | false => 10
def zfs (ad : Nat → Nat) (g : Nat → Int32) : List (Option Nat) → Nat → List Value
  | [], _ => []
  | none :: r, j => .int (g j) :: zfs ad g r (j + 1)
  | some p :: r, j => .ref (ad p) :: zfs ad g r (j + 1)
theorem zfs_ref {ad : Nat → Nat} {g : Nat → Int32} {p : Nat} : ∀ (fs : List (Option Nat)) (j0 j : Nat), fs[j]? = some (some p) → (zfs ad g fs j0)[j]? = some (.ref (ad p)) := by
  intro fs
  induction fs with
  | nil => intro j0 j h; simp at h
  | cons o r ih =>
    intro j0 j h
    cases j with
    | zero => simp at h; subst h; rfl
    | succ j =>
      have h' : r[j]? = some (some p) := by simpa using h
      cases o <;> simpa [zfs] using ih (j0 + 1) j h'
theorem zfs_int {ad : Nat → Nat} {g : Nat → Int32} : ∀ (fs : List (Option Nat)) (j0 j : Nat), fs[j]? = some none → (zfs ad g fs j0)[j]? = some (.int (g (j0 + j))) := by
  intro fs
  induction fs with
  | nil => intro j0 j h; simp at h
  | cons o r ih =>
    intro j0 j h
    cases j with
    | zero => simp at h; subst h; rfl
    | succ j =>
      have h' : r[j]? = some none := by simpa using h
      have e : j0 + (j + 1) = j0 + 1 + j := by omega
      rw [e]
      cases o <;> simpa [zfs] using ih (j0 + 1) j h'
theorem zfs_len {ad : Nat → Nat} {g : Nat → Int32} : ∀ (fs : List (Option Nat)) (j0 : Nat), (zfs ad g fs j0).length = fs.length := by
  intro fs
  induction fs with
  | nil => intro j0; rfl
  | cons o r ih => intro j0; cases o <;> simp [zfs, ih]
theorem zfs_congr {ad : Nat → Nat} {g g' : Nat → Int32} : ∀ (fs : List (Option Nat)) (j0 : Nat), (∀ j, j0 ≤ j → g j = g' j) → zfs ad g fs j0 = zfs ad g' fs j0 := by
  intro fs
  induction fs with
  | nil => intro j0 _; rfl
  | cons o r ih =>
    intro j0 h
    cases o with
    | none => simp only [zfs]; rw [h j0 (Nat.le_refl _), ih (j0 + 1) (fun j hj => h j (by omega))]
    | some p => simp only [zfs]; rw [ih (j0 + 1) (fun j hj => h j (by omega))]
theorem zfs_set {ad : Nat → Nat} {g : Nat → Int32} {v : Int32} : ∀ (fs : List (Option Nat)) (j0 j : Nat), fs[j]? = some none → (zfs ad g fs j0).set j (.int v) = zfs ad (fun i => if i = j0 + j then v else g i) fs j0 := by
  intro fs
  induction fs with
  | nil => intro j0 j h; simp at h
  | cons o r ih =>
    intro j0 j h
    cases j with
    | zero =>
      simp at h; subst h
      simp only [zfs, List.set_cons_zero]
      rw [zfs_congr r (j0 + 1) (g := g) (g' := fun i => if i = j0 + 0 then v else g i) (fun j hj => by simp; omega)]
      simp
    | succ j =>
      have h' : r[j]? = some none := by simpa using h
      have e : j0 + (j + 1) = j0 + 1 + j := by omega
      cases o with
      | none =>
        simp only [zfs, List.set_cons_succ, ih (j0 + 1) j h']
        rw [e, if_neg (by omega)]
      | some p =>
        simp only [zfs, List.set_cons_succ, ih (j0 + 1) j h']
        rw [e]
def zcell (x : zCx) (b : Bool) (S : zSt) (k : Nat) : va_E := match zlay b k with
  | .inl n => .inl (x.2.2.1, n, .inl (S.1 k))
  | .inr (.inl o) => .inr (o.1, zfs (zad x) (S.2 k) o.2 0)
  | .inr (.inr ps) => .inl (x.2.2.2.1, ps.length, .inr (.inr (.inr (.inr (fun i => (ps[i]?).map (zad x))))))
theorem zcell_arr {x : zCx} {b : Bool} {S : zSt} {k n : Nat} (h : zlay b k = .inl n) : zcell x b S k = .inl (x.2.2.1, n, .inl (S.1 k)) := by unfold zcell; rw [h]
theorem zcell_obj {x : zCx} {b : Bool} {S : zSt} {k ci : Nat} {fs : List (Option Nat)} (h : zlay b k = .inr (.inl (ci, fs))) : zcell x b S k = .inr (ci, zfs (zad x) (S.2 k) fs 0) := by unfold zcell; rw [h]
theorem zcell_refs {x : zCx} {b : Bool} {S : zSt} {k : Nat} {ps : List Nat} (h : zlay b k = .inr (.inr ps)) : zcell x b S k = .inl (x.2.2.2.1, ps.length, .inr (.inr (.inr (.inr (fun i => (ps[i]?).map (zad x)))))) := by unfold zcell; rw [h]
def zwd (x : zCx) (b : Bool) (S : zSt) : va_W := (List.range (zN b)).map (fun k => (zad x k, zcell x b S k))
theorem zwd_get {x : zCx} {b : Bool} {S : zSt} {k : Nat} (h : k < zN b) : (zwd x b S)[k]? = some (zad x k, zcell x b S k) := by simp [zwd, h]
theorem zwd_some {x : zCx} {b : Bool} {S : zSt} {k : Nat} {q : Nat × va_E} (h : (zwd x b S)[k]? = some q) : k < zN b ∧ q = (zad x k, zcell x b S k) := by
  by_cases hk : k < zN b
  · rw [zwd_get hk] at h; exact ⟨hk, (Option.some.inj h).symm⟩
  · simp [zwd, hk] at h
theorem zwd_set {x : zCx} {b : Bool} {S S' : zSt} {k : Nat} (h : ∀ j, j ≠ k → zcell x b S' j = zcell x b S j) : (zwd x b S).set k (zad x k, zcell x b S' k) = zwd x b S' := by
  apply List.ext_getElem?
  intro j
  rw [List.getElem?_set]
  by_cases hj : j < zN b
  · by_cases e : k = j
    · subst e
      simp [zwd, hj]
    · rw [if_neg e, zwd_get hj, zwd_get hj, h j (fun q => e q.symm)]
  · by_cases e : k = j
    · subst e
      simp [zwd, hj]
    · rw [if_neg e]
      simp [zwd, hj]
def zA (x : zCx) (b : Bool) : Nat → Prop := fun q => ∃ k, k < zN b ∧ q = zad x k
def zNest (w : Cond) : Bool := match w with
  | .fieldLinkNest _ _ _ _ _ _ => true
  | .methodLinkNest _ _ _ _ => true
  | _ => false
def zStable (A : Nat → Prop) (E : State → Prop) : Prop := ∀ U V : State, U.heap.size ≤ V.heap.size → (∀ q : Nat, q < U.heap.size → ¬ A q → V.heap[q]? = U.heap[q]?) → U.WarmedH V.vm → E U → E V
/-- what holds at every state: the classes, the tables' words, the nest's words, what else the context asks -/
def zEnv (x : zCx) (b : Bool) (U : State) : Prop :=
  va_K x.2.1 vwCl [(x.2.2.1, .int), (x.2.2.2.1, .object RX5)] U ∧ (∀ w ∈ wsL_law, ∀ a : Array Value, w.before a U = true) ∧ (∀ w ∈ lw_tbl, zNest w = true → va_Nw w U) ∧ x.2.2.2.2.2 U ∧
  (∀ i j, i < zN b → j < zN b → zad x i = zad x j → i = j) ∧ zStable (zA x b) x.2.2.2.2.2
theorem zWord_all : wsL_law.all goodWord = true := by decide +kernel
theorem zWord {w : Cond} (h : w ∈ wsL_law) : (w.onTables && w.keeps) = true ∨ ∃ ty, w = .arrayClass ty := good_of_word (List.all_eq_true.mp zWord_all w h)
theorem zNw_warm {w : Cond} (h : zNest w = true) {s U : State} (hW : s.WarmedH U.vm) (hZ : va_Nw w s) : va_Nw w U := by
  cases w with
  | fieldLinkNest a i r n d t => exact va_Nw.warmF hW hZ
  | methodLinkNest a i r t => exact va_Nw.warmM hW hZ
  | _ => cases h
theorem zEnv.go {x : zCx} {b : Bool} {s U : State} (h : zEnv x b s) (hz : s.heap.size ≤ U.heap.size) (hk : ∀ q : Nat, q < s.heap.size → ¬ zA x b q → U.heap[q]? = s.heap[q]?) (hW : s.WarmedH U.vm) : zEnv x b U := by
  obtain ⟨h1, h2, h3, h4, h5, h6⟩ := h
  exact ⟨va_K.moved hW.alike h1, fun w hw a => word_at hW (zWord hw) (h2 w hw a), fun w hw hn => zNw_warm hn hW (h3 w hw hn), h6 s U hz hk hW h4, h5, h6⟩
theorem zEnv.call {x : zCx} {b : Bool} {U : State} (h : zEnv x b U) (g : JFrame) (mk : MethodId) (a : Array Value) : zEnv x b (U.calling g mk a) :=
  h.go (Nat.le_refl _) (fun _ _ _ => rfl) (State.WarmedH.refl U)
theorem zD {x : zCx} {b : Bool} {U : State} (h : zEnv x b U) (S : zSt) : va_D (zA x b) (zwd x b S) := by
  refine ⟨fun i j p q hi hj e => ?_, fun k q hk => ?_⟩
  · obtain ⟨a1, a2⟩ := zwd_some hi
    obtain ⟨b1, b2⟩ := zwd_some hj
    subst a2; subst b2
    exact h.2.2.2.2.1 i j a1 b1 e
  · obtain ⟨a1, a2⟩ := zwd_some hk
    subst a2
    exact ⟨k, a1, rfl⟩
def zrm (d : Nat) : Room := { frames := d, cells := 0, slots := 0, locals := 38 * d }
def zget : List (Nat × Value) → Nat → Option Value
  | [], _ => none
  | q :: r, i => bif Nat.beq q.1 i then some q.2 else zget r i
def zlv (ls : Array Slot) (nL : Nat) (lv : List (Nat × Value)) : Prop := ls.size = nL ∧ lv_wf ls ∧ ∀ i v, zget lv i = some v → ls[i]? = some (.val v)
theorem zget_mem : ∀ (l : List (Nat × Value)) (i : Nat) (v : Value), zget l i = some v → (i, v) ∈ l := by
  intro l
  induction l with
  | nil => intro i v h; simp [zget] at h
  | cons q r ih =>
    intro i v h
    unfold zget at h
    cases e : Nat.beq q.1 i with
    | true =>
      rw [e] at h
      have e1 : q.1 = i := Nat.eq_of_beq_eq_true e
      have e2 : q.2 = v := Option.some.inj h
      rw [← e1, ← e2]
      exact List.mem_cons_self
    | false =>
      rw [e] at h
      exact List.mem_cons_of_mem _ (ih i v h)
theorem zlv_of {ls : Array Slot} {nL : Nat} {l : List (Nat × Value)} (h : lv_has ls nL l) : zlv ls nL l := ⟨h.1, h.2.1, fun i v hv => h.2.2 (i, v) (zget_mem l i v hv)⟩
/-- all that the list says, each once -/
def zlist (lv : List (Nat × Value)) : List (Nat × Value) := lv.filterMap (fun q => (zget lv q.1).map (fun v => (q.1, v)))
theorem zlist_of {ls : Array Slot} {nL : Nat} {lv : List (Nat × Value)} (h : zlv ls nL lv) : lv_has ls nL (zlist lv) := by
  refine ⟨h.1, h.2.1, fun q hq => ?_⟩
  obtain ⟨r, -, hr⟩ := List.mem_filterMap.mp hq
  cases e : zget lv r.1 with
  | none => rw [e] at hr; cases hr
  | some v => rw [e] at hr; cases hr; exact h.2.2 r.1 v e
theorem zlist_mem {lv : List (Nat × Value)} {i : Nat} {v : Value} (h : zget lv i = some v) : (i, v) ∈ zlist lv :=
  List.mem_filterMap.mpr ⟨(i, v), zget_mem lv i v h, by rw [h]; rfl⟩
def zok1 (lv : List (Nat × Value)) (i : Nat) : Bool := match i with
  | 0 => true
  | j + 1 => match zget lv j with
    | none => true
    | some v => Nat.beq v.category 1
theorem zok1_cat {lv : List (Nat × Value)} {i j : Nat} {v : Value} (h : zok1 lv i = true) (hj : j + 1 = i) (hv : zget lv j = some v) : ¬ v.category = 2 := by
  subst hj
  unfold zok1 at h
  simp only [hv] at h
  have := Nat.eq_of_beq_eq_true h
  omega
theorem zget_cons_ne {q : Nat × Value} {r : List (Nat × Value)} {i : Nat} (h : ¬ q.1 = i) : zget (q :: r) i = zget r i := by
  unfold zget
  cases e : Nat.beq q.1 i with
  | true => exact absurd (Nat.eq_of_beq_eq_true e) h
  | false => cases r <;> rfl
theorem zget_cons_eq {i : Nat} {v : Value} {r : List (Nat × Value)} : zget ((i, v) :: r) i = some v := by
  unfold zget
  have : Nat.beq i i = true := Nat.beq_refl i
  simp only [this, cond_true]
theorem zstore1 {ls' : Array Slot} {nL i : Nat} {v : Value} {lv : List (Nat × Value)} (hok : zok1 lv i = true) (h : lv_has ls' nL ((i, v) :: (zlist lv).filter (fun q => !(q.1 == i) && !(q.1 + 1 == i && q.2.category == 2)))) : zlv ls' nL ((i, v) :: lv) := by
  refine ⟨h.1, h.2.1, fun j w hw => ?_⟩
  by_cases e : i = j
  · subst e
    rw [zget_cons_eq] at hw
    cases hw
    exact h.2.2 (i, v) List.mem_cons_self
  · rw [zget_cons_ne (q := (i, v)) e] at hw
    refine h.2.2 (j, w) (List.mem_cons_of_mem _ (List.mem_filter.mpr ⟨zlist_mem hw, ?_⟩))
    have h2 : ¬ (j + 1 = i ∧ w.category = 2) := fun q => zok1_cat hok q.1 hw q.2
    simp only [Bool.and_eq_true, Bool.not_eq_true', beq_eq_false_iff_ne, ne_eq, Bool.and_eq_false_iff]
    refine ⟨fun q => e q.symm, ?_⟩
    by_cases a : j + 1 = i
    · exact Or.inr (fun q => h2 ⟨a, q⟩)
    · exact Or.inl a
theorem zstore2 {ls' : Array Slot} {nL i : Nat} {v : Value} {lv : List (Nat × Value)} (hok : zok1 lv i = true) (hno : zget lv (i + 1) = none) (h : lv_has ls' nL ((i, v) :: (zlist lv).filter (fun q => !(q.1 == i) && (!(q.1 == i + 1) && !(q.1 + 1 == i && q.2.category == 2))))) : zlv ls' nL ((i, v) :: lv) := by
  refine ⟨h.1, h.2.1, fun j w hw => ?_⟩
  by_cases e : i = j
  · subst e
    rw [zget_cons_eq] at hw
    cases hw
    exact h.2.2 (i, v) List.mem_cons_self
  · rw [zget_cons_ne (q := (i, v)) e] at hw
    refine h.2.2 (j, w) (List.mem_cons_of_mem _ (List.mem_filter.mpr ⟨zlist_mem hw, ?_⟩))
    have h2 : ¬ (j + 1 = i ∧ w.category = 2) := fun q => zok1_cat hok q.1 hw q.2
    have h3 : ¬ j = i + 1 := fun q => by subst q; rw [hno] at hw; cases hw
    simp only [Bool.and_eq_true, Bool.not_eq_true', beq_eq_false_iff_ne, ne_eq, Bool.and_eq_false_iff]
    refine ⟨fun q => e q.symm, h3, ?_⟩
    by_cases a : j + 1 = i
    · exact Or.inr (fun q => h2 ⟨a, q⟩)
    · exact Or.inl a
/-- the list lv' says no more than lv -/
def zsub : List (Nat × Value) → List (Nat × Value) → Prop
  | [], _ => True
  | q :: r, lv => zget lv q.1 = some q.2 ∧ zsub r lv
theorem zsub_get {lv : List (Nat × Value)} : ∀ (l : List (Nat × Value)), zsub l lv → ∀ i v, zget l i = some v → zget lv i = some v := by
  intro l
  induction l with
  | nil => intro _ i v h; simp [zget] at h
  | cons q r ih =>
    intro h i v hv
    by_cases e : q.1 = i
    · subst e
      have : zget ((q.1, q.2) :: r) q.1 = some q.2 := zget_cons_eq
      rw [show q = (q.1, q.2) from rfl] at hv
      rw [this] at hv
      cases hv
      exact h.1
    · rw [zget_cons_ne e] at hv
      exact ih h.2 i v hv
/-- a method's end -/
def zQ (x : zCx) (b : Bool) (post : Option Value → zSt → Prop) : Array Value → State → Outcome → State → Prop := fun _ st oc t => (∃ (r : Option Value) (S : zSt), oc = .returned r ∧ post r S ∧ va_P x.2.1 vwCl (zwd x b S) t.heap) ∧ va_F (zA x b) st t
/-- a method's contract -/
def zC (x : zCx) (b : Bool) (M : zM) (as : List Value) (S : zSt) (post : Option Value → zSt → Prop) : Prop :=
  Met x.1 M.1 [.code M.1 M.2.1 M.2.2.1 M.2.2.2.1] (zrm M.2.2.2.2) (va_Pc as (fun U => va_P x.2.1 vwCl (zwd x b S) U.heap ∧ zEnv x b U)) (zQ x b post) 0 0 (zA x b)
/-- a method that answers r and leaves S' -/
def zF (x : zCx) (b : Bool) (M : zM) (as : List Value) (S : zSt) (r : Option Value) (S' : zSt) : Prop := zC x b M as S (fun q T => q = r ∧ T = S')
def zFx (x : zCx) (b : Bool) (M : zM) (p : Program) (s : State) (m : MethodId) (meth : Method) (c : Code) : Prop :=
  p.tables.exec = Jvm.exec ∧ c.code = M.2.1 ∧ c.maxLocals = M.2.2.1 ∧ s.vm.findClass M.1.cls = some m.cls ∧ meth.sig.returnType = M.2.2.2.1 ∧ meth.locks = false ∧ zEnv x b s
/-- the walk -/
def zZ (x : zCx) (b : Bool) (M : zM) (post : Option Value → zSt → Prop) (pc : Nat) (lv : List (Nat × Value)) (st : List Value) (S : zSt) : Prop :=
  ∀ (p : Program) (e : Env) (s : State) (m : MethodId) (args : Array Value) (below : List Frame) (meth : Method) (c : Code) (H : Heap) (locs : List Loc) (ls : Array Slot),
    zFx x b M p s m meth c → va_P x.2.1 vwCl (zwd x b S) H → va_S (zA x b) s.heap H locs → zlv ls M.2.2.1 lv →
    W p x.1 e (zrm M.2.2.2.2) s m args below meth c H locs 0 0 (MQ below (zQ x b post) args s 0 0 (zA x b)) (F0 m pc ls st)

section ZROWS
variable {x : zCx} {b : Bool} {M : zM} {post : Option Value → zSt → Prop} {pc : Nat} {lv : List (Nat × Value)} {st : List Value} {S : zSt}
theorem zC_of {as : List Value} (hy : plainName M.1.cls = true) (hlen : (lg_sl as).length ≤ M.2.2.1) (k : zZ x b M post 0 (lv_args 0 as) [] S) : zC x b M as S post := by
  refine Met.ofW (cc := M.2.1) (maxL := M.2.2.1) (ret := M.2.2.2.1) hy rfl ?_
  intro p e s m args below meth c s₁ B hml hv
  obtain ⟨rfl, hP, hE⟩ := hv
  rw [lg_entry_eq]
  exact k p e s m _ below meth c s.heap [] _ ⟨B.exec, B.bytes, hml, findClass_of_methodNamed B.named, B.returns, B.notSynchronized, hE⟩ hP va_S.rf (zlv_of (lv_entry as hlen))
theorem zC_mono {as : List Value} {post' : Option Value → zSt → Prop} (h : zC x b M as S post) (hp : ∀ r T, post r T → post' r T) : zC x b M as S post' := by
  intro p e a1 a2 a3 s m args below a4 a5 a6 a7
  obtain ⟨t, o, c1, c2, c3, ⟨⟨⟨r, T, d1, d2, d3⟩, d4⟩, d5⟩⟩ := h p e a1 a2 a3 s m args below a4 a5 a6 a7
  exact ⟨t, o, c1, c2, c3, ⟨⟨⟨r, T, d1, hp r T d2, d3⟩, d4⟩, d5⟩⟩
/-- other locals, fewer -/
theorem zlvs {lv' : List (Nat × Value)} (h : zsub lv' lv) (k : zZ x b M post pc lv' st S) : zZ x b M post pc lv st S :=
  fun p e s m args below meth c H locs ls F hP hS hl => k p e s m args below meth c H locs ls F hP hS ⟨hl.1, hl.2.1, fun i v hv => hl.2.2 i v (zsub_get lv' h i v hv)⟩
theorem zeq {pc' : Nat} {lv' : List (Nat × Value)} {st' : List Value} {S' : zSt} (h1 : pc' = pc) (h2 : lv' = lv) (h3 : st' = st) (h4 : S' = S) (k : zZ x b M post pc' lv' st' S') : zZ x b M post pc lv st S := by
  subst h1; subst h2; subst h3; subst h4; exact k

theorem ziconst {n : Int} {v : Int32} (d : decode M.2.1 pc = .ok (.iconst n, 1)) (hv : Int32.ofInt n = v) (k : zZ x b M post (pc + 1) lv (.int v :: st) S) : zZ x b M post pc lv st S :=
  fun p e s m args below meth c H locs ls F hP hS hl => lv_iconst F.1 F.2.1 d hv (k p e s m args below meth c H locs ls F hP hS hl)
theorem zbipush {n : Int} {v : Int32} (d : decode M.2.1 pc = .ok (.bipush n, 2)) (hv : (Int8.ofInt n).toInt32 = v) (k : zZ x b M post (pc + 2) lv (.int v :: st) S) : zZ x b M post pc lv st S :=
  fun p e s m args below meth c H locs ls F hP hS hl => lv_bipush F.1 F.2.1 d hv (k p e s m args below meth c H locs ls F hP hS hl)
theorem zsipush {n : Int} {v : Int32} (d : decode M.2.1 pc = .ok (.sipush n, 3)) (hv : (Int16.ofInt n).toInt32 = v) (k : zZ x b M post (pc + 3) lv (.int v :: st) S) : zZ x b M post pc lv st S :=
  fun p e s m args below meth c H locs ls F hP hS hl => lv_sipush F.1 F.2.1 d hv (k p e s m args below meth c H locs ls F hP hS hl)
theorem zlconst {n : Fin 2} {v : Int64} (d : decode M.2.1 pc = .ok (.lconst n, 1)) (hv : Int64.ofNat (n : Nat) = v) (k : zZ x b M post (pc + 1) lv (.long v :: st) S) : zZ x b M post pc lv st S :=
  fun p e s m args below meth c H locs ls F hP hS hl => lv_lconst F.1 F.2.1 d hv (k p e s m args below meth c H locs ls F hP hS hl)
theorem ziload_n {n : Fin 4} {v : Int32} (d : decode M.2.1 pc = .ok (.iload_n n, 1)) (hv : zget lv n.val = some (.int v)) (k : zZ x b M post (pc + 1) lv (.int v :: st) S) : zZ x b M post pc lv st S :=
  fun p e s m args below meth c H locs ls F hP hS hl => lv_iload_n F.1 F.2.1 d rfl (hl.2.2 _ _ hv) (k p e s m args below meth c H locs ls F hP hS hl)
theorem ziload {i : Nat} {v : Int32} (d : decode M.2.1 pc = .ok (.iload i, 2)) (hv : zget lv i = some (.int v)) (k : zZ x b M post (pc + 2) lv (.int v :: st) S) : zZ x b M post pc lv st S :=
  fun p e s m args below meth c H locs ls F hP hS hl => lv_iload F.1 F.2.1 d (hl.2.2 _ _ hv) (k p e s m args below meth c H locs ls F hP hS hl)
theorem zlload_n {n : Fin 4} {v : Int64} (d : decode M.2.1 pc = .ok (.lload_n n, 1)) (hv : zget lv n.val = some (.long v)) (k : zZ x b M post (pc + 1) lv (.long v :: st) S) : zZ x b M post pc lv st S :=
  fun p e s m args below meth c H locs ls F hP hS hl => lv_lload_n F.1 F.2.1 d rfl (hl.2.2 _ _ hv) (k p e s m args below meth c H locs ls F hP hS hl)
theorem zlload {i : Nat} {v : Int64} (d : decode M.2.1 pc = .ok (.lload i, 2)) (hv : zget lv i = some (.long v)) (k : zZ x b M post (pc + 2) lv (.long v :: st) S) : zZ x b M post pc lv st S :=
  fun p e s m args below meth c H locs ls F hP hS hl => lv_lload F.1 F.2.1 d (hl.2.2 _ _ hv) (k p e s m args below meth c H locs ls F hP hS hl)
theorem zaload_n {n : Fin 4} {v : Nat} (d : decode M.2.1 pc = .ok (.aload_n n, 1)) (hv : zget lv n.val = some (.ref v)) (k : zZ x b M post (pc + 1) lv (.ref v :: st) S) : zZ x b M post pc lv st S :=
  fun p e s m args below meth c H locs ls F hP hS hl => lv_aload_n F.1 F.2.1 d rfl (hl.2.2 _ _ hv) (k p e s m args below meth c H locs ls F hP hS hl)
theorem zaload {i : Nat} {v : Nat} (d : decode M.2.1 pc = .ok (.aload i, 2)) (hv : zget lv i = some (.ref v)) (k : zZ x b M post (pc + 2) lv (.ref v :: st) S) : zZ x b M post pc lv st S :=
  fun p e s m args below meth c H locs ls F hP hS hl => lv_aload F.1 F.2.1 d (hl.2.2 _ _ hv) (k p e s m args below meth c H locs ls F hP hS hl)
theorem zistore_n {n : Fin 4} {v : Int32} (d : decode M.2.1 pc = .ok (.istore_n n, 1)) (hn : n.val < M.2.2.1) (hok : zok1 lv n.val = true) (k : zZ x b M post (pc + 1) ((n.val, .int v) :: lv) st S) : zZ x b M post pc lv (.int v :: st) S :=
  fun p e s m args below meth c H locs ls F hP hS hl => lv_istore_n F.1 F.2.1 d rfl (zlist_of hl) hn rfl (fun ls' h' => k p e s m args below meth c H locs ls' F hP hS (zstore1 hok h'))
theorem zistore {i : Nat} {v : Int32} (d : decode M.2.1 pc = .ok (.istore i, 2)) (hn : i < M.2.2.1) (hok : zok1 lv i = true) (k : zZ x b M post (pc + 2) ((i, .int v) :: lv) st S) : zZ x b M post pc lv (.int v :: st) S :=
  fun p e s m args below meth c H locs ls F hP hS hl => lv_istore F.1 F.2.1 d (zlist_of hl) hn rfl (fun ls' h' => k p e s m args below meth c H locs ls' F hP hS (zstore1 hok h'))
theorem zastore_n {n : Fin 4} {v : Nat} (d : decode M.2.1 pc = .ok (.astore_n n, 1)) (hn : n.val < M.2.2.1) (hok : zok1 lv n.val = true) (k : zZ x b M post (pc + 1) ((n.val, .ref v) :: lv) st S) : zZ x b M post pc lv (.ref v :: st) S :=
  fun p e s m args below meth c H locs ls F hP hS hl => lv_astore_n F.1 F.2.1 d rfl (zlist_of hl) hn rfl (fun ls' h' => k p e s m args below meth c H locs ls' F hP hS (zstore1 hok h'))
theorem zastore {i : Nat} {v : Nat} (d : decode M.2.1 pc = .ok (.astore i, 2)) (hn : i < M.2.2.1) (hok : zok1 lv i = true) (k : zZ x b M post (pc + 2) ((i, .ref v) :: lv) st S) : zZ x b M post pc lv (.ref v :: st) S :=
  fun p e s m args below meth c H locs ls F hP hS hl => lv_astore F.1 F.2.1 d (zlist_of hl) hn rfl (fun ls' h' => k p e s m args below meth c H locs ls' F hP hS (zstore1 hok h'))
theorem zlstore_n {n : Fin 4} {v : Int64} (d : decode M.2.1 pc = .ok (.lstore_n n, 1)) (hn : n.val + 1 < M.2.2.1) (hok : zok1 lv n.val = true) (hno : zget lv (n.val + 1) = none) (k : zZ x b M post (pc + 1) ((n.val, .long v) :: lv) st S) : zZ x b M post pc lv (.long v :: st) S :=
  fun p e s m args below meth c H locs ls F hP hS hl => lv_lstore_n F.1 F.2.1 d rfl (zlist_of hl) hn rfl (fun ls' h' => k p e s m args below meth c H locs ls' F hP hS (zstore2 hok hno h'))
theorem zlstore {i : Nat} {v : Int64} (d : decode M.2.1 pc = .ok (.lstore i, 2)) (hn : i + 1 < M.2.2.1) (hok : zok1 lv i = true) (hno : zget lv (i + 1) = none) (k : zZ x b M post (pc + 2) ((i, .long v) :: lv) st S) : zZ x b M post pc lv (.long v :: st) S :=
  fun p e s m args below meth c H locs ls F hP hS hl => lv_lstore F.1 F.2.1 d (zlist_of hl) hn rfl (fun ls' h' => k p e s m args below meth c H locs ls' F hP hS (zstore2 hok hno h'))
theorem ziinc {i : Nat} {n : Int} {v w : Int32} (d : decode M.2.1 pc = .ok (.iinc i n, 3)) (hv : zget lv i = some (.int v)) (hw : v + Int32.ofInt n = w) (hn : i < M.2.2.1) (hok : zok1 lv i = true) (k : zZ x b M post (pc + 3) ((i, .int w) :: lv) st S) : zZ x b M post pc lv st S := by
  intro p e s m args below meth c H locs ls F hP hS hl
  obtain ⟨kk, hk⟩ := List.getElem?_of_mem (zlist_mem hv)
  exact lv_iinc F.1 F.2.1 d (zlist_of hl) hk hw hn rfl (fun ls' h' => k p e s m args below meth c H locs ls' F hP hS (zstore1 hok h'))
theorem ziadd {u v : Int32} (d : decode M.2.1 pc = .ok (.iadd, 1)) (k : zZ x b M post (pc + 1) lv (.int (u + v) :: st) S) : zZ x b M post pc lv (.int v :: .int u :: st) S :=
  fun p e s m args below meth c H locs ls F hP hS hl => lv_iadd F.1 F.2.1 d (k p e s m args below meth c H locs ls F hP hS hl)
theorem zisub {u v : Int32} (d : decode M.2.1 pc = .ok (.isub, 1)) (k : zZ x b M post (pc + 1) lv (.int (u - v) :: st) S) : zZ x b M post pc lv (.int v :: .int u :: st) S :=
  fun p e s m args below meth c H locs ls F hP hS hl => lv_isub F.1 F.2.1 d (k p e s m args below meth c H locs ls F hP hS hl)
theorem zimul {u v : Int32} (d : decode M.2.1 pc = .ok (.imul, 1)) (k : zZ x b M post (pc + 1) lv (.int (u * v) :: st) S) : zZ x b M post pc lv (.int v :: .int u :: st) S :=
  fun p e s m args below meth c H locs ls F hP hS hl => lv_imul F.1 F.2.1 d (k p e s m args below meth c H locs ls F hP hS hl)
theorem ziand {u v : Int32} (d : decode M.2.1 pc = .ok (.iand, 1)) (k : zZ x b M post (pc + 1) lv (.int (u &&& v) :: st) S) : zZ x b M post pc lv (.int v :: .int u :: st) S :=
  fun p e s m args below meth c H locs ls F hP hS hl => lv_iand F.1 F.2.1 d (k p e s m args below meth c H locs ls F hP hS hl)
theorem zior {u v : Int32} (d : decode M.2.1 pc = .ok (.ior, 1)) (k : zZ x b M post (pc + 1) lv (.int (u ||| v) :: st) S) : zZ x b M post pc lv (.int v :: .int u :: st) S :=
  fun p e s m args below meth c H locs ls F hP hS hl => lv_ior F.1 F.2.1 d (k p e s m args below meth c H locs ls F hP hS hl)
theorem zixor {u v : Int32} (d : decode M.2.1 pc = .ok (.ixor, 1)) (k : zZ x b M post (pc + 1) lv (.int (u ^^^ v) :: st) S) : zZ x b M post pc lv (.int v :: .int u :: st) S :=
  fun p e s m args below meth c H locs ls F hP hS hl => lv_ixor F.1 F.2.1 d (k p e s m args below meth c H locs ls F hP hS hl)
theorem zishl {u v : Int32} (d : decode M.2.1 pc = .ok (.ishl, 1)) (k : zZ x b M post (pc + 1) lv (.int (u <<< (v &&& 31)) :: st) S) : zZ x b M post pc lv (.int v :: .int u :: st) S :=
  fun p e s m args below meth c H locs ls F hP hS hl => lv_ishl F.1 F.2.1 d (k p e s m args below meth c H locs ls F hP hS hl)
theorem zishr {u v : Int32} (d : decode M.2.1 pc = .ok (.ishr, 1)) (k : zZ x b M post (pc + 1) lv (.int (u >>> (v &&& 31)) :: st) S) : zZ x b M post pc lv (.int v :: .int u :: st) S :=
  fun p e s m args below meth c H locs ls F hP hS hl => lv_ishr F.1 F.2.1 d (k p e s m args below meth c H locs ls F hP hS hl)
theorem zladd {u v : Int64} (d : decode M.2.1 pc = .ok (.ladd, 1)) (k : zZ x b M post (pc + 1) lv (.long (u + v) :: st) S) : zZ x b M post pc lv (.long v :: .long u :: st) S :=
  fun p e s m args below meth c H locs ls F hP hS hl => lv_ladd F.1 F.2.1 d (k p e s m args below meth c H locs ls F hP hS hl)
theorem zlsub {u v : Int64} (d : decode M.2.1 pc = .ok (.lsub, 1)) (k : zZ x b M post (pc + 1) lv (.long (u - v) :: st) S) : zZ x b M post pc lv (.long v :: .long u :: st) S :=
  fun p e s m args below meth c H locs ls F hP hS hl => lv_lsub F.1 F.2.1 d (k p e s m args below meth c H locs ls F hP hS hl)
theorem zlmul {u v : Int64} (d : decode M.2.1 pc = .ok (.lmul, 1)) (k : zZ x b M post (pc + 1) lv (.long (u * v) :: st) S) : zZ x b M post pc lv (.long v :: .long u :: st) S :=
  fun p e s m args below meth c H locs ls F hP hS hl => lv_lmul F.1 F.2.1 d (k p e s m args below meth c H locs ls F hP hS hl)
theorem zineg {u : Int32} (d : decode M.2.1 pc = .ok (.ineg, 1)) (k : zZ x b M post (pc + 1) lv (.int (-u) :: st) S) : zZ x b M post pc lv (.int u :: st) S :=
  fun p e s m args below meth c H locs ls F hP hS hl => lv_ineg F.1 F.2.1 d (k p e s m args below meth c H locs ls F hP hS hl)
theorem zidiv {u v : Int32} (d : decode M.2.1 pc = .ok (.idiv, 1)) (hne : ¬ v = 0) (k : zZ x b M post (pc + 1) lv (.int (u / v) :: st) S) : zZ x b M post pc lv (.int v :: .int u :: st) S :=
  fun p e s m args below meth c H locs ls F hP hS hl => lv_idiv F.1 F.2.1 d hne (k p e s m args below meth c H locs ls F hP hS hl)
theorem zirem {u v : Int32} (d : decode M.2.1 pc = .ok (.irem, 1)) (hne : ¬ v = 0) (k : zZ x b M post (pc + 1) lv (.int (u - u / v * v) :: st) S) : zZ x b M post pc lv (.int v :: .int u :: st) S :=
  fun p e s m args below meth c H locs ls F hP hS hl => lv_irem F.1 F.2.1 d hne (k p e s m args below meth c H locs ls F hP hS hl)
theorem zldiv {u v : Int64} (d : decode M.2.1 pc = .ok (.ldiv, 1)) (hne : ¬ v = 0) (k : zZ x b M post (pc + 1) lv (.long (u / v) :: st) S) : zZ x b M post pc lv (.long v :: .long u :: st) S :=
  fun p e s m args below meth c H locs ls F hP hS hl => lv_ldiv F.1 F.2.1 d hne (k p e s m args below meth c H locs ls F hP hS hl)
theorem zlrem {u v : Int64} (d : decode M.2.1 pc = .ok (.lrem, 1)) (hne : ¬ v = 0) (k : zZ x b M post (pc + 1) lv (.long (u - u / v * v) :: st) S) : zZ x b M post pc lv (.long v :: .long u :: st) S :=
  fun p e s m args below meth c H locs ls F hP hS hl => lv_lrem F.1 F.2.1 d hne (k p e s m args below meth c H locs ls F hP hS hl)
theorem zi2l {u : Int32} (d : decode M.2.1 pc = .ok (.i2l, 1)) (k : zZ x b M post (pc + 1) lv (.long u.toInt64 :: st) S) : zZ x b M post pc lv (.int u :: st) S :=
  fun p e s m args below meth c H locs ls F hP hS hl => lv_i2l F.1 F.2.1 d rfl (k p e s m args below meth c H locs ls F hP hS hl)
theorem zl2i {u : Int64} (d : decode M.2.1 pc = .ok (.l2i, 1)) (k : zZ x b M post (pc + 1) lv (.int u.toInt32 :: st) S) : zZ x b M post pc lv (.long u :: st) S :=
  fun p e s m args below meth c H locs ls F hP hS hl => lv_l2i F.1 F.2.1 d rfl (k p e s m args below meth c H locs ls F hP hS hl)
theorem zi2c {u : Int32} (d : decode M.2.1 pc = .ok (.i2c, 1)) (k : zZ x b M post (pc + 1) lv (.int (u.toUInt32 % 65536).toInt32 :: st) S) : zZ x b M post pc lv (.int u :: st) S :=
  fun p e s m args below meth c H locs ls F hP hS hl => lv_i2c F.1 F.2.1 d rfl (k p e s m args below meth c H locs ls F hP hS hl)
theorem zlcmp {u v : Int64} (d : decode M.2.1 pc = .ok (.lcmp, 1)) (k : zZ x b M post (pc + 1) lv (.int (lg_cmp u v) :: st) S) : zZ x b M post pc lv (.long v :: .long u :: st) S :=
  fun p e s m args below meth c H locs ls F hP hS hl => W.lcmp F.1 F.2.1 d (k p e s m args below meth c H locs ls F hP hS hl)
theorem zdup {u : Value} (d : decode M.2.1 pc = .ok (.dup, 1)) (hu : u.category = 1) (k : zZ x b M post (pc + 1) lv (u :: u :: st) S) : zZ x b M post pc lv (u :: st) S :=
  fun p e s m args below meth c H locs ls F hP hS hl => lv_dup F.1 F.2.1 d hu (k p e s m args below meth c H locs ls F hP hS hl)
theorem zpop {u : Value} (d : decode M.2.1 pc = .ok (.pop, 1)) (hu : u.category = 1) (k : zZ x b M post (pc + 1) lv st S) : zZ x b M post pc lv (u :: st) S :=
  fun p e s m args below meth c H locs ls F hP hS hl => lv_pop F.1 F.2.1 d hu (k p e s m args below meth c H locs ls F hP hS hl)
theorem zdup2_11 {u v : Value} (d : decode M.2.1 pc = .ok (.dup2, 1)) (hu : u.category = 1) (hv : v.category = 1) (k : zZ x b M post (pc + 1) lv (u :: v :: u :: v :: st) S) : zZ x b M post pc lv (u :: v :: st) S :=
  fun p e s m args below meth c H locs ls F hP hS hl => lv_dup2_11 F.1 F.2.1 d hu hv (k p e s m args below meth c H locs ls F hP hS hl)
theorem zif_eq {u : Int32} {off : Int} {tgt : Nat} (d : decode M.2.1 pc = .ok (.ifCond .eq off, 3)) (ht : (pc : Int) + off = (tgt : Int)) (kt : u = 0 → zZ x b M post tgt lv st S) (kf : ¬ u = 0 → zZ x b M post (pc + 3) lv st S) : zZ x b M post pc lv (.int u :: st) S :=
  fun p e s m args below meth c H locs ls F hP hS hl => lv_if_eq F.1 F.2.1 d ht (fun h => kt h p e s m args below meth c H locs ls F hP hS hl) (fun h => kf h p e s m args below meth c H locs ls F hP hS hl)
theorem zicmp_eq {u v : Int32} {off : Int} {tgt : Nat} (d : decode M.2.1 pc = .ok (.if_icmp .eq off, 3)) (ht : (pc : Int) + off = (tgt : Int)) (kt : u = v → zZ x b M post tgt lv st S) (kf : ¬ u = v → zZ x b M post (pc + 3) lv st S) : zZ x b M post pc lv (.int v :: .int u :: st) S :=
  fun p e s m args below meth c H locs ls F hP hS hl => lv_icmp_eq F.1 F.2.1 d ht (fun h => kt h p e s m args below meth c H locs ls F hP hS hl) (fun h => kf h p e s m args below meth c H locs ls F hP hS hl)
theorem zif_ne {u : Int32} {off : Int} {tgt : Nat} (d : decode M.2.1 pc = .ok (.ifCond .ne off, 3)) (ht : (pc : Int) + off = (tgt : Int)) (kt : ¬ u = 0 → zZ x b M post tgt lv st S) (kf : u = 0 → zZ x b M post (pc + 3) lv st S) : zZ x b M post pc lv (.int u :: st) S :=
  fun p e s m args below meth c H locs ls F hP hS hl => lv_if_ne F.1 F.2.1 d ht (fun h => kt h p e s m args below meth c H locs ls F hP hS hl) (fun h => kf h p e s m args below meth c H locs ls F hP hS hl)
theorem zicmp_ne {u v : Int32} {off : Int} {tgt : Nat} (d : decode M.2.1 pc = .ok (.if_icmp .ne off, 3)) (ht : (pc : Int) + off = (tgt : Int)) (kt : ¬ u = v → zZ x b M post tgt lv st S) (kf : u = v → zZ x b M post (pc + 3) lv st S) : zZ x b M post pc lv (.int v :: .int u :: st) S :=
  fun p e s m args below meth c H locs ls F hP hS hl => lv_icmp_ne F.1 F.2.1 d ht (fun h => kt h p e s m args below meth c H locs ls F hP hS hl) (fun h => kf h p e s m args below meth c H locs ls F hP hS hl)
theorem zif_lt {u : Int32} {off : Int} {tgt : Nat} (d : decode M.2.1 pc = .ok (.ifCond .lt off, 3)) (ht : (pc : Int) + off = (tgt : Int)) (kt : u < 0 → zZ x b M post tgt lv st S) (kf : ¬ u < 0 → zZ x b M post (pc + 3) lv st S) : zZ x b M post pc lv (.int u :: st) S :=
  fun p e s m args below meth c H locs ls F hP hS hl => lv_if_lt F.1 F.2.1 d ht (fun h => kt h p e s m args below meth c H locs ls F hP hS hl) (fun h => kf h p e s m args below meth c H locs ls F hP hS hl)
theorem zicmp_lt {u v : Int32} {off : Int} {tgt : Nat} (d : decode M.2.1 pc = .ok (.if_icmp .lt off, 3)) (ht : (pc : Int) + off = (tgt : Int)) (kt : u < v → zZ x b M post tgt lv st S) (kf : ¬ u < v → zZ x b M post (pc + 3) lv st S) : zZ x b M post pc lv (.int v :: .int u :: st) S :=
  fun p e s m args below meth c H locs ls F hP hS hl => lv_icmp_lt F.1 F.2.1 d ht (fun h => kt h p e s m args below meth c H locs ls F hP hS hl) (fun h => kf h p e s m args below meth c H locs ls F hP hS hl)
theorem zif_ge {u : Int32} {off : Int} {tgt : Nat} (d : decode M.2.1 pc = .ok (.ifCond .ge off, 3)) (ht : (pc : Int) + off = (tgt : Int)) (kt : 0 ≤ u → zZ x b M post tgt lv st S) (kf : ¬ 0 ≤ u → zZ x b M post (pc + 3) lv st S) : zZ x b M post pc lv (.int u :: st) S :=
  fun p e s m args below meth c H locs ls F hP hS hl => lv_if_ge F.1 F.2.1 d ht (fun h => kt h p e s m args below meth c H locs ls F hP hS hl) (fun h => kf h p e s m args below meth c H locs ls F hP hS hl)
theorem zicmp_ge {u v : Int32} {off : Int} {tgt : Nat} (d : decode M.2.1 pc = .ok (.if_icmp .ge off, 3)) (ht : (pc : Int) + off = (tgt : Int)) (kt : v ≤ u → zZ x b M post tgt lv st S) (kf : ¬ v ≤ u → zZ x b M post (pc + 3) lv st S) : zZ x b M post pc lv (.int v :: .int u :: st) S :=
  fun p e s m args below meth c H locs ls F hP hS hl => lv_icmp_ge F.1 F.2.1 d ht (fun h => kt h p e s m args below meth c H locs ls F hP hS hl) (fun h => kf h p e s m args below meth c H locs ls F hP hS hl)
theorem zif_gt {u : Int32} {off : Int} {tgt : Nat} (d : decode M.2.1 pc = .ok (.ifCond .gt off, 3)) (ht : (pc : Int) + off = (tgt : Int)) (kt : 0 < u → zZ x b M post tgt lv st S) (kf : ¬ 0 < u → zZ x b M post (pc + 3) lv st S) : zZ x b M post pc lv (.int u :: st) S :=
  fun p e s m args below meth c H locs ls F hP hS hl => lv_if_gt F.1 F.2.1 d ht (fun h => kt h p e s m args below meth c H locs ls F hP hS hl) (fun h => kf h p e s m args below meth c H locs ls F hP hS hl)
theorem zicmp_gt {u v : Int32} {off : Int} {tgt : Nat} (d : decode M.2.1 pc = .ok (.if_icmp .gt off, 3)) (ht : (pc : Int) + off = (tgt : Int)) (kt : v < u → zZ x b M post tgt lv st S) (kf : ¬ v < u → zZ x b M post (pc + 3) lv st S) : zZ x b M post pc lv (.int v :: .int u :: st) S :=
  fun p e s m args below meth c H locs ls F hP hS hl => lv_icmp_gt F.1 F.2.1 d ht (fun h => kt h p e s m args below meth c H locs ls F hP hS hl) (fun h => kf h p e s m args below meth c H locs ls F hP hS hl)
theorem zif_le {u : Int32} {off : Int} {tgt : Nat} (d : decode M.2.1 pc = .ok (.ifCond .le off, 3)) (ht : (pc : Int) + off = (tgt : Int)) (kt : u ≤ 0 → zZ x b M post tgt lv st S) (kf : ¬ u ≤ 0 → zZ x b M post (pc + 3) lv st S) : zZ x b M post pc lv (.int u :: st) S :=
  fun p e s m args below meth c H locs ls F hP hS hl => lv_if_le F.1 F.2.1 d ht (fun h => kt h p e s m args below meth c H locs ls F hP hS hl) (fun h => kf h p e s m args below meth c H locs ls F hP hS hl)
theorem zicmp_le {u v : Int32} {off : Int} {tgt : Nat} (d : decode M.2.1 pc = .ok (.if_icmp .le off, 3)) (ht : (pc : Int) + off = (tgt : Int)) (kt : u ≤ v → zZ x b M post tgt lv st S) (kf : ¬ u ≤ v → zZ x b M post (pc + 3) lv st S) : zZ x b M post pc lv (.int v :: .int u :: st) S :=
  fun p e s m args below meth c H locs ls F hP hS hl => lv_icmp_le F.1 F.2.1 d ht (fun h => kt h p e s m args below meth c H locs ls F hP hS hl) (fun h => kf h p e s m args below meth c H locs ls F hP hS hl)
theorem zgoto {off : Int} {tgt : Nat} (d : decode M.2.1 pc = .ok (.goto off, 3)) (ht : (pc : Int) + off = (tgt : Int)) (k : zZ x b M post tgt lv st S) : zZ x b M post pc lv st S :=
  fun p e s m args below meth c H locs ls F hP hS hl => lv_goto F.1 F.2.1 d ht (k p e s m args below meth c H locs ls F hP hS hl)
theorem zldc {idx : Nat} {v : Int32} (d : decode M.2.1 pc = .ok (.ldc idx, 2)) (hw : Cond.constant M.1.cls idx v ∈ wsL_law) (k : zZ x b M post (pc + 2) lv (.int v :: st) S) : zZ x b M post pc lv st S :=
  fun p e s m args below meth c H locs ls F hP hS hl => lv_ldc F.1 F.2.1 F.2.2.2.1 (F.2.2.2.2.2.2.2.1 _ hw _) d (k p e s m args below meth c H locs ls F hP hS hl)
theorem zldc2 {idx : Nat} {v : Int64} (d : decode M.2.1 pc = .ok (.ldc2_w idx, 3)) (hw : Cond.constantLong M.1.cls idx v ∈ wsL_law) (k : zZ x b M post (pc + 3) lv (.long v :: st) S) : zZ x b M post pc lv st S :=
  fun p e s m args below meth c H locs ls F hP hS hl => lv_ldc2 F.1 F.2.1 F.2.2.2.1 (F.2.2.2.2.2.2.2.1 _ hw _) d (k p e s m args below meth c H locs ls F hP hS hl)
theorem zlookup {dflt : Int} {ps : Array (Int × Int)} {len : Nat} {u : Int32} {off : Int} {tgt : Nat} (d : decode M.2.1 pc = .ok (.lookupswitch dflt ps, len)) (hp : (ps.toList.zip (ps.toList.drop 1)).all (fun (a, next) => a.1 < next.1) = true) (ho : Op.lookupswitch.offset ps.toList dflt u.toInt = off) (ht : (pc : Int) + off = (tgt : Int)) (k : zZ x b M post tgt lv st S) : zZ x b M post pc lv (.int u :: st) S :=
  fun p e s m args below meth c H locs ls F hP hS hl => lv_lookup F.1 F.2.1 d hp ho ht (k p e s m args below meth c H locs ls F hP hS hl)
theorem ztableOut {dflt lo hi : Int} {offs : Array Int} {len : Nat} {u : Int32} {tgt : Nat} (d : decode M.2.1 pc = .ok (.tableswitch dflt lo hi offs, len)) (h : u.toInt < lo ∨ hi < u.toInt) (ht : (pc : Int) + dflt = (tgt : Int)) (k : zZ x b M post tgt lv st S) : zZ x b M post pc lv (.int u :: st) S :=
  fun p e s m args below meth c H locs ls F hP hS hl => lv_tableOut F.1 F.2.1 d h ht (k p e s m args below meth c H locs ls F hP hS hl)
theorem ztableIn {dflt lo hi : Int} {offs : Array Int} {len : Nat} {u : Int32} {off : Int} {tgt : Nat} (d : decode M.2.1 pc = .ok (.tableswitch dflt lo hi offs, len)) (h1 : ¬ u.toInt < lo) (h2 : ¬ hi < u.toInt) (ho : offs[(u.toInt - lo).toNat]? = some off) (ht : (pc : Int) + off = (tgt : Int)) (k : zZ x b M post tgt lv st S) : zZ x b M post pc lv (.int u :: st) S :=
  fun p e s m args below meth c H locs ls F hP hS hl => lv_tableIn F.1 F.2.1 d h1 h2 ho ht (k p e s m args below meth c H locs ls F hP hS hl)
theorem zQ_of {x : zCx} {b : Bool} {post : Option Value → zSt → Prop} {S : zSt} {s t : State} {H : Heap} {locs : List Loc} {args : Array Value} {r : Option Value} (hP : va_P x.2.1 vwCl (zwd x b S) H) (hS : va_S (zA x b) s.heap H locs) (hp : post r S) (ht : t.heap = H) : zQ x b post args s (.returned r) t :=
  ⟨⟨r, S, rfl, hp, by rw [ht]; exact hP⟩, hS.F ht⟩
theorem zireturn {v : Int32} {ty : FieldType} (d : decode M.2.1 pc = .ok (.ireturn, 1)) (hr : M.2.2.2.1 = some ty) (hn : narrow ty (.int v) = .int v) (hp : post (some (.int v)) S) : zZ x b M post pc lv [.int v] S :=
  fun p e s m args below meth c H locs ls F hP hS hl => W.zret (ty := ty) F.1 F.2.1 (F.2.2.2.2.1.trans hr) hn (fun t ht _ => zQ_of hP hS hp ht) hS.2.2 d F.2.2.2.2.2.1
theorem zlreturn {v : Int64} (d : decode M.2.1 pc = .ok (.lreturn, 1)) (hr : M.2.2.2.1 = some .long) (hp : post (some (.long v)) S) : zZ x b M post pc lv [.long v] S :=
  fun p e s m args below meth c H locs ls F hP hS hl => W.lret F.1 F.2.1 (F.2.2.2.2.1.trans hr) (fun t ht _ => zQ_of hP hS hp ht) hS.2.2 d (hlocks := F.2.2.2.2.2.1)
theorem zreturn (d : decode M.2.1 pc = .ok (.return_, 1)) (hr : M.2.2.2.1 = none) (hp : post none S) : zZ x b M post pc lv [] S :=
  fun p e s m args below meth c H locs ls F hP hS hl => W.vret F.1 F.2.1 (F.2.2.2.2.1.trans hr) (fun t ht _ => zQ_of hP hS hp ht) hS.2.2 d F.2.2.2.2.2.1

/-- arrays of ints -/
theorem ziaload {k n : Nat} {i : Int32} (d : decode M.2.1 pc = .ok (.iaload, 1)) (hk : k < zN b) (hl0 : zlay b k = .inl n) (hin : vp_in i n) (kk : zZ x b M post (pc + 1) lv (.int (S.1 k i.toNatClampNeg) :: st) S) : zZ x b M post pc lv (.int i :: .ref (zad x k) :: st) S :=
  fun p e s m args below meth c H locs ls F hP hS hl => va_iald F.1 F.2.1 F.2.2.2.2.2.2.1 hP k 0 (by rw [zwd_get hk, zcell_arr hl0]) rfl hin d (kk p e s m args below meth c H locs ls F hP hS hl)
theorem zset_arr {k n i : Nat} {v : Int32} (hl0 : zlay b k = .inl n) : (zwd x b S).set k (zad x k, .inl (x.2.2.1, n, .inl (upd (S.1 k) i v))) = zwd x b (u2 S.1 k i v, S.2) := by
  have e : zcell x b (u2 S.1 k i v, S.2) k = .inl (x.2.2.1, n, .inl (upd (S.1 k) i v)) := by
    rw [zcell_arr hl0]
    have : (u2 S.1 k i v) k = upd (S.1 k) i v := by funext j; simp [u2, upd]
    simp only [this]
  rw [← e]
  refine zwd_set (fun j hj => ?_)
  have : (u2 S.1 k i v) j = S.1 j := by funext a; simp [u2, hj]
  simp only [zcell, this]
theorem ziastore {k n : Nat} {i v : Int32} (d : decode M.2.1 pc = .ok (.iastore, 1)) (hk : k < zN b) (hl0 : zlay b k = .inl n) (hin : vp_in i n) (kk : zZ x b M post (pc + 1) lv st (u2 S.1 k i.toNatClampNeg v, S.2)) : zZ x b M post pc lv (.int v :: .int i :: .ref (zad x k) :: st) S := by
  intro p e s m args below meth c H locs ls F hP hS hl
  refine va_iast F.1 F.2.1 F.2.2.2.2.2.2.1 hP (zD F.2.2.2.2.2.2 S) hS k 0 (by rw [zwd_get hk, zcell_arr hl0]) rfl hin d (fun H1 locs1 hP1 _ hS1 => ?_)
  rw [zset_arr hl0] at hP1
  exact kk p e s m args below meth c H1 locs1 ls F hP1 hS1 hl
/-- the row of kinds -/
theorem zaaload {k q : Nat} {ps : List Nat} {i : Int32} (d : decode M.2.1 pc = .ok (.aaload, 1)) (hk : k < zN b) (hl0 : zlay b k = .inr (.inr ps)) (hin : vp_in i ps.length) (hq : ps[i.toNatClampNeg]? = some q) (kk : zZ x b M post (pc + 1) lv (.ref (zad x q) :: st) S) : zZ x b M post pc lv (.int i :: .ref (zad x k) :: st) S := by
  intro p e s m args below meth c H locs ls F hP hS hl
  refine va_aldq F.1 F.2.1 F.2.2.2.2.2.2.1 hP k 1 (by rw [zwd_get hk, zcell_refs hl0]) rfl hin d ?_
  have e2 : va_rf ((ps[i.toNatClampNeg]?).map (zad x)) = .ref (zad x q) := by rw [hq]; rfl
  rw [e2]
  exact kk p e s m args below meth c H locs ls F hP hS hl
/-- fields -/
theorem zgetr {k j q ci Nf idx : Nat} {fs : List (Option Nat)} {C : String} {T : u_T} (d : decode M.2.1 pc = .ok (.getfield idx, 3)) (hk : k < zN b) (hl0 : zlay b k = .inr (.inl (ci, fs))) (hc : vwCl[ci]? = some (C, T, Nf)) (hin : ∀ w ∈ u_ws C T Nf, w ∈ wsL_law) (hj : fs[j]? = some (some q)) (hjn : j < Nf) (hw : Cond.fieldLink M.1.cls idx (T j).1 (T j).2.1 (T j).2.2.1 ∈ wsL_law) (kk : zZ x b M post (pc + 3) lv (.ref (zad x q) :: st) S) : zZ x b M post pc lv (.ref (zad x k) :: st) S :=
  fun p e s m args below meth c H locs ls F hP hS hl => va_get (Ts := wsL_law) F.1 F.2.1 (fun w h => F.2.2.2.2.2.2.2.1 w h _) hin F.2.2.2.1 F.2.2.2.2.2.2.1 hP k (by rw [zwd_get hk, zcell_obj hl0]) hc j hjn (F.2.2.2.2.2.2.2.1 _ hw _) (fun _ h => h) (zfs_ref fs 0 j hj) d (kk p e s m args below meth c H locs ls F hP hS hl)
theorem zgeti {k j ci Nf idx : Nat} {fs : List (Option Nat)} {C : String} {T : u_T} (d : decode M.2.1 pc = .ok (.getfield idx, 3)) (hk : k < zN b) (hl0 : zlay b k = .inr (.inl (ci, fs))) (hc : vwCl[ci]? = some (C, T, Nf)) (hin : ∀ w ∈ u_ws C T Nf, w ∈ wsL_law) (hj : fs[j]? = some none) (hjn : j < Nf) (hw : Cond.fieldLink M.1.cls idx (T j).1 (T j).2.1 (T j).2.2.1 ∈ wsL_law) (kk : zZ x b M post (pc + 3) lv (.int (S.2 k j) :: st) S) : zZ x b M post pc lv (.ref (zad x k) :: st) S :=
  fun p e s m args below meth c H locs ls F hP hS hl => va_get (Ts := wsL_law) F.1 F.2.1 (fun w h => F.2.2.2.2.2.2.2.1 w h _) hin F.2.2.2.1 F.2.2.2.2.2.2.1 hP k (by rw [zwd_get hk, zcell_obj hl0]) hc j hjn (F.2.2.2.2.2.2.2.1 _ hw _) (fun _ h => h) (by have := zfs_int (ad := zad x) (g := S.2 k) fs 0 j hj; rw [Nat.zero_add] at this; exact this) d (kk p e s m args below meth c H locs ls F hP hS hl)
theorem zgetrN {k j q ci Nf idx : Nat} {fs : List (Option Nat)} {C host : String} {T : u_T} (d : decode M.2.1 pc = .ok (.getfield idx, 3)) (hk : k < zN b) (hl0 : zlay b k = .inr (.inl (ci, fs))) (hc : vwCl[ci]? = some (C, T, Nf)) (hin : ∀ w ∈ u_ws C T Nf, w ∈ wsL_law) (hj : fs[j]? = some (some q)) (hjn : j < Nf) (hw : Cond.fieldLinkNest M.1.cls idx (T j).1 (T j).2.1 (T j).2.2.1 host ∈ lw_tbl) (kk : zZ x b M post (pc + 3) lv (.ref (zad x q) :: st) S) : zZ x b M post pc lv (.ref (zad x k) :: st) S :=
  fun p e s m args below meth c H locs ls F hP hS hl => va_getN (Ts := wsL_law) F.1 F.2.1 (fun w h => F.2.2.2.2.2.2.2.1 w h _) hin F.2.2.2.1 F.2.2.2.2.2.2.1 hP k (by rw [zwd_get hk, zcell_obj hl0]) hc j hjn (va_Nw.use rfl (F.2.2.2.2.2.2.2.2.1 _ hw rfl)) (fun _ h => h) (zfs_ref fs 0 j hj) d (kk p e s m args below meth c H locs ls F hP hS hl)
theorem zgetiN {k j ci Nf idx : Nat} {fs : List (Option Nat)} {C host : String} {T : u_T} (d : decode M.2.1 pc = .ok (.getfield idx, 3)) (hk : k < zN b) (hl0 : zlay b k = .inr (.inl (ci, fs))) (hc : vwCl[ci]? = some (C, T, Nf)) (hin : ∀ w ∈ u_ws C T Nf, w ∈ wsL_law) (hj : fs[j]? = some none) (hjn : j < Nf) (hw : Cond.fieldLinkNest M.1.cls idx (T j).1 (T j).2.1 (T j).2.2.1 host ∈ lw_tbl) (kk : zZ x b M post (pc + 3) lv (.int (S.2 k j) :: st) S) : zZ x b M post pc lv (.ref (zad x k) :: st) S :=
  fun p e s m args below meth c H locs ls F hP hS hl => va_getN (Ts := wsL_law) F.1 F.2.1 (fun w h => F.2.2.2.2.2.2.2.1 w h _) hin F.2.2.2.1 F.2.2.2.2.2.2.1 hP k (by rw [zwd_get hk, zcell_obj hl0]) hc j hjn (va_Nw.use rfl (F.2.2.2.2.2.2.2.2.1 _ hw rfl)) (fun _ h => h) (by have := zfs_int (ad := zad x) (g := S.2 k) fs 0 j hj; rw [Nat.zero_add] at this; exact this) d (kk p e s m args below meth c H locs ls F hP hS hl)
theorem zset_fld {k j ci : Nat} {fs : List (Option Nat)} {v : Int32} (hl0 : zlay b k = .inr (.inl (ci, fs))) (hj : fs[j]? = some none) : (zwd x b S).set k (zad x k, .inr (ci, (zfs (zad x) (S.2 k) fs 0).set j (.int v))) = zwd x b (S.1, u2 S.2 k j v) := by
  have e : zcell x b (S.1, u2 S.2 k j v) k = .inr (ci, (zfs (zad x) (S.2 k) fs 0).set j (.int v)) := by
    rw [zcell_obj hl0, zfs_set fs 0 j hj]
    have : (u2 S.2 k j v) k = (fun i => if i = 0 + j then v else S.2 k i) := by funext i; simp [u2]
    simp only [this]
  rw [← e]
  refine zwd_set (fun i hi => ?_)
  have : (u2 S.2 k j v) i = S.2 i := by funext a; simp [u2, hi]
  simp only [zcell, this]
theorem zputi {k j ci Nf idx : Nat} {fs : List (Option Nat)} {C : String} {T : u_T} {ty : FieldType} {v : Int32} (d : decode M.2.1 pc = .ok (.putfield idx, 3)) (hk : k < zN b) (hl0 : zlay b k = .inr (.inl (ci, fs))) (hc : vwCl[ci]? = some (C, T, Nf)) (hin : ∀ w ∈ u_ws C T Nf, w ∈ wsL_law) (ty0 : Nat → FieldType) (hty : ∀ k, k < Nf → parseFieldDescriptor (T k).2.2.1 = some (ty0 k)) (hnm : ∀ a, a < Nf → ∀ b, b < Nf → a ≠ b → (T a).2.1 ≠ (T b).2.1) (hj : fs[j]? = some none) (hjn : j < Nf) (hw : Cond.fieldLink M.1.cls idx (T j).1 (T j).2.1 (T j).2.2.1 ∈ wsL_law) (hfin : (T j).2.2.2 = false) (hd : parseFieldDescriptor (T j).2.2.1 = some ty) (hn : narrow ty (.int v) = .int v) (hfit : fits ty (.int v) = true) (kk : zZ x b M post (pc + 3) lv st (S.1, u2 S.2 k j v)) : zZ x b M post pc lv (.int v :: .ref (zad x k) :: st) S := by
  intro p e s m args below meth c H locs ls F hP hS hl
  refine va_put (Ts := wsL_law) F.1 F.2.1 (fun w h => F.2.2.2.2.2.2.2.1 w h _) hin ty0 hty hnm F.2.2.2.1 F.2.2.2.2.2.2.1 hP (zD F.2.2.2.2.2.2 S) hS k (by rw [zwd_get hk, zcell_obj hl0]) hc j hjn (F.2.2.2.2.2.2.2.1 _ hw _) (fun _ h => h) hfin hd hn hfit (by rw [zfs_len]; exact (List.getElem?_eq_some_iff.mp hj).1) d (fun H1 locs1 hP1 _ hS1 => ?_)
  rw [zset_fld hl0 hj] at hP1
  exact kk p e s m args below meth c H1 locs1 ls F hP1 hS1 hl
theorem zputiN {k j ci Nf idx : Nat} {fs : List (Option Nat)} {C host : String} {T : u_T} {ty : FieldType} {v : Int32} (d : decode M.2.1 pc = .ok (.putfield idx, 3)) (hk : k < zN b) (hl0 : zlay b k = .inr (.inl (ci, fs))) (hc : vwCl[ci]? = some (C, T, Nf)) (hin : ∀ w ∈ u_ws C T Nf, w ∈ wsL_law) (ty0 : Nat → FieldType) (hty : ∀ k, k < Nf → parseFieldDescriptor (T k).2.2.1 = some (ty0 k)) (hnm : ∀ a, a < Nf → ∀ b, b < Nf → a ≠ b → (T a).2.1 ≠ (T b).2.1) (hj : fs[j]? = some none) (hjn : j < Nf) (hw : Cond.fieldLinkNest M.1.cls idx (T j).1 (T j).2.1 (T j).2.2.1 host ∈ lw_tbl) (hfin : (T j).2.2.2 = false) (hd : parseFieldDescriptor (T j).2.2.1 = some ty) (hn : narrow ty (.int v) = .int v) (hfit : fits ty (.int v) = true) (kk : zZ x b M post (pc + 3) lv st (S.1, u2 S.2 k j v)) : zZ x b M post pc lv (.int v :: .ref (zad x k) :: st) S := by
  intro p e s m args below meth c H locs ls F hP hS hl
  refine va_putN (Ts := wsL_law) F.1 F.2.1 (fun w h => F.2.2.2.2.2.2.2.1 w h _) hin ty0 hty hnm F.2.2.2.1 F.2.2.2.2.2.2.1 hP (zD F.2.2.2.2.2.2 S) hS k (by rw [zwd_get hk, zcell_obj hl0]) hc j hjn (va_Nw.use rfl (F.2.2.2.2.2.2.2.2.1 _ hw rfl)) (fun _ h => h) hfin hd hn hfit (by rw [zfs_len]; exact (List.getElem?_eq_some_iff.mp hj).1) d (fun H1 locs1 hP1 _ hS1 => ?_)
  rw [zset_fld hl0 hj] at hP1
  exact kk p e s m args below meth c H1 locs1 ls F hP1 hS1 hl
/-- a call, once it runs -/
theorem zrun {p : Program} {e : Env} {s : State} {m : MethodId} {args a : Array Value} {below : List Frame} {meth : Method} {c : Code} {H : Heap} {locs : List Loc} {ls : Array Slot} {R : Room} {post' : Option Value → zSt → Prop} {st0 rest : List Value} {Q : State → Prop} (hr : va_Run p x.1 e R s m args below meth c H locs 0 0 0 0 (F0 m pc ls st0) rest (zQ x b post' a) (zA x b)) (hS : va_S (zA x b) s.heap H locs)
    (kk : ∀ (r : Option Value) (S' : zSt) (H1 : Heap) (locs1 : List Loc), post' r S' → va_P x.2.1 vwCl (zwd x b S') H1 → va_S (zA x b) s.heap H1 locs1 → W p x.1 e R s m args below meth c H1 locs1 0 0 Q (F0 m (pc + 3) ls (r.toList ++ rest))) : W p x.1 e R s m args below meth c H locs 0 0 Q (F0 m pc ls st0) := by
  intro T hT X
  obtain ⟨v, st₀, t, T', L, h0, X', hL, e1, e2, ⟨⟨r, S', hv, hp, hb⟩, hz, hk⟩, st⟩ := hr T hT X
  cases hv
  rw [h0] at hz hk
  rw [← e1] at hb
  obtain ⟨t2, a1, b1⟩ := kk v S' T'.heap (locs ++ L) hp hb
    ⟨Nat.le_trans hS.1 (by rw [e1]; exact hz), fun q h1 h2 => by rw [e1, hk q (Nat.lt_of_lt_of_le h1 hS.1) h2]; exact hS.2.1 q h1 h2, fun q hq => by
      rcases List.mem_append.mp hq with h | h
      · exact hS.2.2 q h
      · exact hL q h⟩ T' rfl X'
  exact ⟨t2, st t2 a1, b1⟩
theorem zfit {d d' n : Nat} (h : d' < d) (hn : n ≤ 19) : (zrm d').frames + 1 ≤ (zrm d).frames ∧ 8 + (n + 11) + (zrm d').locals ≤ (zrm d).locals := by
  constructor
  · exact h
  · show 8 + (n + 11) + 38 * d' ≤ 38 * d
    omega
theorem zpre {as : List Value} {s : State} {H : Heap} {locs : List Loc} (hE : zEnv x b s) (hP : va_P x.2.1 vwCl (zwd x b S) H) (hS : va_S (zA x b) s.heap H locs) : PreS s H (va_Pc as (fun U => va_P x.2.1 vwCl (zwd x b S) U.heap ∧ zEnv x b U)) as :=
  ⟨fun a U g mk q => ⟨q.1, q.2.1, q.2.2.call g mk a⟩, fun U hU hW => ⟨rfl, by rw [hU]; exact hP, hE.go (by rw [hU]; exact hS.1) (fun q h1 h2 => by rw [hU]; exact hS.2.1 q h1 h2) hW⟩⟩
theorem zcallS {M' : zM} {as rest : List Value} {post' : Option Value → zSt → Prop} {idx n : Nat} (hC : zC x b M' as S post') (d : decode M.2.1 pc = .ok (.invokestatic idx, 3)) (hG : GoodIn wsL_law (va_wsS M.1.cls idx M'.1 [.code M'.1 M'.2.1 M'.2.2.1 M'.2.2.2.1])) (hd : M'.1.cls ≠ "java/lang/invoke/MethodHandle" ∧ M'.1.cls ≠ "java/lang/invoke/VarHandle" ∧ (parseMethodDescriptor M'.1.desc).map (fun d => d.parameters.length) = some n) (hn : as.length = n) (hR : M'.2.2.2.2 < M.2.2.2.2) (hL : M'.2.2.1 ≤ 19) (hrest : (rest.map fun v => v.category).sum ≤ 8) (kk : ∀ r S', post' r S' → zZ x b M post (pc + 3) lv (r.toList ++ rest) S') (hst : st = as.reverse ++ rest) : zZ x b M post pc lv st S := by
  subst hst
  intro p e s m args below meth c H locs ls F hP hS hl
  have ht : ∀ w ∈ wsL_law, w.before args s = true := fun w h => F.2.2.2.2.2.2.2.1 w h _
  exact zrun (va_runS (nL := M.2.2.1) (rest := rest) ⟨F.1, F.2.1, F.2.2.1, F.2.2.2.1, ht⟩ hC (va_cwS n ht hG rfl rfl rfl hd (zfit hR hL)) (zpre F.2.2.2.2.2.2 hP hS) rfl hn hl.1 rfl (lv_room hrest) d ⟨Nat.le_refl 0, Nat.le_refl 0⟩) hS (fun r S' H1 locs1 hp hP1 hS1 => kk r S' hp p e s m args below meth c H1 locs1 ls F hP1 hS1 hl)
theorem zrecv {k ci : Nat} {fs : List (Option Nat)} {q : vw_C} {s : State} {H : Heap} (hE : zEnv x b s) (hP : va_P x.2.1 vwCl (zwd x b S) H) (hk : k < zN b) (hl0 : zlay b k = .inr (.inl (ci, fs))) (hc : vwCl[ci]? = some q) : ∃ cell : Cell, H[zad x k]? = some cell ∧ cell.vm.isStatics = false ∧ s.vm.findClass q.1 = some cell.cls :=
  va_recv hE.1 hP hc (show (zwd x b S)[k]? = some (zad x k, .inr (ci, zfs (zad x) (S.2 k) fs 0)) by rw [zwd_get hk, zcell_obj hl0])
theorem zcallV {M' : zM} {as rest : List Value} {post' : Option Value → zSt → Prop} {idx n k ci : Nat} {fs : List (Option Nat)} {T : u_T} {Nf : Nat} (hC : zC x b M' (.ref (zad x k) :: as) S post') (d : decode M.2.1 pc = .ok (.invokevirtual idx, 3)) (hk : k < zN b) (hl0 : zlay b k = .inr (.inl (ci, fs))) (hc : vwCl[ci]? = some (M'.1.cls, T, Nf)) (hG : GoodIn wsL_law (wsV M.1.cls idx M'.1.cls M'.1 [.code M'.1 M'.2.1 M'.2.2.1 M'.2.2.2.1])) (hd : M'.1.cls ≠ "java/lang/invoke/MethodHandle" ∧ M'.1.cls ≠ "java/lang/invoke/VarHandle" ∧ (parseMethodDescriptor M'.1.desc).map (fun d => d.parameters.length) = some n) (hn : as.length = n) (hR : M'.2.2.2.2 < M.2.2.2.2) (hL : M'.2.2.1 ≤ 19) (hrest : (rest.map fun v => v.category).sum ≤ 8) (kk : ∀ r S', post' r S' → zZ x b M post (pc + 3) lv (r.toList ++ rest) S') (hst : st = as.reverse ++ .ref (zad x k) :: rest) : zZ x b M post pc lv st S := by
  subst hst
  intro p e s m args below meth c H locs ls F hP hS hl
  have ht : ∀ w ∈ wsL_law, w.before args s = true := fun w h => F.2.2.2.2.2.2.2.1 w h _
  have hpre := zpre (as := .ref (zad x k) :: as) F.2.2.2.2.2.2 hP hS
  exact zrun (va_runV (nL := M.2.2.1) (rest := rest) ⟨F.1, F.2.1, F.2.2.1, F.2.2.2.1, ht⟩ hC (cwV n ht hG rfl rfl rfl ⟨rfl, hd⟩ (zfit hR hL)) ⟨hpre.1, zrecv F.2.2.2.2.2.2 hP hk hl0 hc, hpre.2⟩ rfl hn hl.1 rfl (lv_room hrest) d ⟨Nat.le_refl 0, Nat.le_refl 0⟩) hS (fun r S' H1 locs1 hp hP1 hS1 => kk r S' hp p e s m args below meth c H1 locs1 ls F hP1 hS1 hl)
end ZROWS

