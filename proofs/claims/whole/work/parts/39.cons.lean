/-! Constructors: a layer of their own, over a world that grows -/
abbrev yCx : Type := Launch × va_G × ClassId × ClassId
def yEnv (y : yCx) (U : State) : Prop :=
  va_K y.2.1 vwCl [(y.2.2.1, .int), (y.2.2.2, .object RX5)] U ∧ (∀ w ∈ wsL_law, ∀ a : Array Value, w.before a U = true) ∧ (∀ w ∈ lw_tbl, zNest w = true → va_Nw w U) ∧ va_AO RX5 U ∧
  (va_Nw (.castable RX0 RX5) U ∧ va_Nw (.castable RX4 RX5) U ∧ va_Nw (.castable RX3 RX5) U ∧ va_Nw (.castable RX1 RX5) U ∧ va_Nw (.castable RX2 RX5) U)
theorem yEnv.go {y : yCx} {s U : State} (h : yEnv y s) (hW : s.WarmedH U.vm) : yEnv y U := by
  obtain ⟨h1, h2, h3, h4, h5, h6, h7, h8, h9⟩ := h
  exact ⟨va_K.moved hW.alike h1, fun w hw a => word_at hW (zWord hw) (h2 w hw a), fun w hw hn => zNw_warm hn hW (h3 w hw hn), va_AO.moved hW.alike h4, h5.warmC hW, h6.warmC hW, h7.warmC hW, h8.warmC hW, h9.warmC hW⟩
def yrm (d mc ms : Nat) : Room := { frames := d, cells := mc, slots := ms, locals := 38 * d }
def yQ (y : yCx) (A : Nat → Prop) (post : va_W → Prop) : Array Value → State → Outcome → State → Prop := va_Qv (S := va_W) post (fun ws t => va_P y.2.1 vwCl ws t.heap ∧ va_D A ws) A
def yC (y : yCx) (M : zM) (as : List Value) (w0 : va_W) (mc ms : Nat) (post : va_W → Prop) : Prop :=
  ∀ sz : Nat, Met y.1 M.1 [.code M.1 M.2.1 M.2.2.1 M.2.2.2.1] (yrm M.2.2.2.2 mc ms) (va_Pc as (fun U => U.heap.size = sz ∧ va_P y.2.1 vwCl w0 U.heap ∧ va_D (fun _ => True) w0 ∧ yEnv y U)) (yQ y (va_A w0 sz) post) mc ms (va_A w0 sz)
def yFx (y : yCx) (M : zM) (p : Program) (s : State) (m : MethodId) (meth : Method) (c : Code) : Prop :=
  p.tables.exec = Jvm.exec ∧ c.code = M.2.1 ∧ c.maxLocals = M.2.2.1 ∧ s.vm.findClass M.1.cls = some m.cls ∧ meth.sig.returnType = M.2.2.2.1 ∧ meth.locks = false ∧ meth.name = M.1.name ∧ yEnv y s
def yZ (y : yCx) (M : zM) (A : Nat → Prop) (mc ms : Nat) (post : va_W → Prop) (pc : Nat) (lv : List (Nat × Value)) (st : List Value) (ws : va_W) (cells slots : Nat) : Prop :=
  ∀ (p : Program) (e : Env) (s : State) (m : MethodId) (args : Array Value) (below : List Frame) (meth : Method) (c : Code) (H : Heap) (locs : List Loc) (ls : Array Slot),
    yFx y M p s m meth c → va_P y.2.1 vwCl ws H → va_D A ws → va_S A s.heap H locs → (∀ q : Nat, s.heap.size ≤ q → A q) → zlv ls M.2.2.1 lv →
    W p y.1 e (yrm M.2.2.2.2 mc ms) s m args below meth c H locs cells slots (MQ below (yQ y A post) args s mc ms A) (F0 m pc ls st)
section CONS
variable {y : yCx} {M M' : zM} {A : Nat → Prop} {mc ms : Nat} {post : va_W → Prop} {pc : Nat} {lv : List (Nat × Value)} {st : List Value} {ws ws' : va_W} {cells slots : Nat}
theorem yC_of {as : List Value} {w0 : va_W} (hy : plainName M.1.cls = true) (hlen : (lg_sl as).length ≤ M.2.2.1) (k : ∀ A, yZ y M A mc ms post 0 (lv_args 0 as) [] w0 0 0) : yC y M as w0 mc ms post := by
  intro sz
  refine Met.ofW (cc := M.2.1) (maxL := M.2.2.1) (ret := M.2.2.2.1) hy rfl ?_
  intro p e s m args below meth c s₁ B hml hv
  obtain ⟨rfl, hsz, hP, hD, hE⟩ := hv
  subst hsz
  rw [lg_entry_eq]
  exact k (va_A w0 s.heap.size) p e s m _ below meth c s.heap [] _ ⟨B.exec, B.bytes, hml, findClass_of_methodNamed B.named, B.returns, B.notSynchronized, (name_of_methodNamed B.named B.method).1, hE⟩ hP (hD.self (sz := s.heap.size)) va_S.rf (fun q h => Or.inr h) (zlv_of (lv_entry as hlen))
theorem yiconst {n : Int} {v : Int32} (d : decode M.2.1 pc = .ok (.iconst n, 1)) (hv : Int32.ofInt n = v) (k : yZ y M A mc ms post (pc + 1) lv (.int v :: st) ws cells slots) : yZ y M A mc ms post pc lv st ws cells slots :=
  fun p e s m args below meth c H locs ls F hP hD hS hA hl => lv_iconst F.1 F.2.1 d hv (k p e s m args below meth c H locs ls F hP hD hS hA hl)
theorem ybipush {n : Int} {v : Int32} (d : decode M.2.1 pc = .ok (.bipush n, 2)) (hv : (Int8.ofInt n).toInt32 = v) (k : yZ y M A mc ms post (pc + 2) lv (.int v :: st) ws cells slots) : yZ y M A mc ms post pc lv st ws cells slots :=
  fun p e s m args below meth c H locs ls F hP hD hS hA hl => lv_bipush F.1 F.2.1 d hv (k p e s m args below meth c H locs ls F hP hD hS hA hl)
theorem yaload_n {n : Fin 4} {v : Nat} (d : decode M.2.1 pc = .ok (.aload_n n, 1)) (hv : zget lv n.val = some (.ref v)) (k : yZ y M A mc ms post (pc + 1) lv (.ref v :: st) ws cells slots) : yZ y M A mc ms post pc lv st ws cells slots :=
  fun p e s m args below meth c H locs ls F hP hD hS hA hl => lv_aload_n F.1 F.2.1 d rfl (hl.2.2 _ _ hv) (k p e s m args below meth c H locs ls F hP hD hS hA hl)
theorem yastore_n {n : Fin 4} {v : Nat} (d : decode M.2.1 pc = .ok (.astore_n n, 1)) (hn : n.val < M.2.2.1) (hok : zok1 lv n.val = true) (k : yZ y M A mc ms post (pc + 1) ((n.val, .ref v) :: lv) st ws cells slots) : yZ y M A mc ms post pc lv (.ref v :: st) ws cells slots :=
  fun p e s m args below meth c H locs ls F hP hD hS hA hl => lv_astore_n F.1 F.2.1 d rfl (zlist_of hl) hn rfl (fun ls' h' => k p e s m args below meth c H locs ls' F hP hD hS hA (zstore1 hok h'))
theorem ydup {u : Value} (d : decode M.2.1 pc = .ok (.dup, 1)) (hu : u.category = 1) (k : yZ y M A mc ms post (pc + 1) lv (u :: u :: st) ws cells slots) : yZ y M A mc ms post pc lv (u :: st) ws cells slots :=
  fun p e s m args below meth c H locs ls F hP hD hS hA hl => lv_dup F.1 F.2.1 d hu (k p e s m args below meth c H locs ls F hP hD hS hA hl)
theorem yobj {idx a : Nat} (d : decode M.2.1 pc = .ok (.invokespecial idx, 3)) (hw : Cond.methodLink M.1.cls idx objectInit ∈ wsL_law) (hlev : 1 ≤ M.2.2.2.2) (k : yZ y M A mc ms post (pc + 3) lv [] ws cells slots) : yZ y M A mc ms post pc lv [.ref a] ws cells slots := by
  intro p e s m args below meth c H locs ls F hP hD hS hA hl
  have g := fun w h => F.2.2.2.2.2.2.2.2.1 w h args
  exact W.objInit F.1 F.2.1 F.2.2.2.1 (g _ hw) (g _ (List.mem_of_getElem? (i := 10) (by decide +kernel))) (g _ (List.mem_of_getElem? (i := 11) (by decide +kernel))) rfl (by rw [F.2.2.1]; exact hl.1) rfl d hlev (by show 2 * 0 + 0 + 12 ≤ 38 * M.2.2.2.2; omega) (W.eq (g2 := F0 m (pc + 3) ls []) rfl (k p e s m args below meth c H locs ls F hP hD hS hA hl))
theorem yreturn (d : decode M.2.1 pc = .ok (.return_, 1)) (hr : M.2.2.2.1 = none) (hp : post ws) : yZ y M A cells slots post pc lv [] ws cells slots :=
  fun p e s m args below meth c H locs ls F hP hD hS hA hl => W.vret F.1 F.2.1 (F.2.2.2.2.1.trans hr) (fun t ht _ => ⟨⟨ws, rfl, hp, by rw [ht]; exact hP, hD⟩, hS.F ht⟩) hS.2.2 d F.2.2.2.2.2.1
/-- a row of ints -/
theorem ynewa {n : Int32} {N : Nat} (d : decode M.2.1 pc = .ok (.newarray .int, 2)) (hN : n = nI N) (hN2 : N ≤ 1000) (hc : cells + 1 ≤ mc) (hs : slots + N ≤ ms) (k : ∀ q : Nat, yZ y M A mc ms post (pc + 2) lv (.ref q :: st) (ws ++ [(q, .inl (y.2.2.1, N, .inl (fun _ => 0)))]) (cells + 1) (slots + N)) : yZ y M A mc ms post pc lv (.int n :: st) ws cells slots := by
  intro p e s m args below meth c H locs ls F hP hD hS hA hl
  subst hN
  refine va_newa (atype := .int) (ty := .int) (a0 := (N, .inl (fun _ => 0))) F.1 F.2.1 (F.2.2.2.2.2.2.2.2.1 _ (List.mem_of_getElem? (i := 40) (by decide +kernel)) args) rfl F.2.2.2.2.2.2.2.1 hP hD hS hA (fun cA => rfl) (nI_pos (by omega)) (nI_clamp (by omega)) (by show N * 4 ≤ 536870912; omega) hc hs d (fun q cA H1 hK1 hP1 hD1 hS1 => ?_)
  have e1 : s.vm.findClass ("[" ++ FieldType.int.toString) = some cA := (hK1.2 2 (cA, .int) rfl).2
  have e2 : s.vm.findClass ("[" ++ FieldType.int.toString) = some y.2.2.1 := (F.2.2.2.2.2.2.2.1.2 0 (y.2.2.1, .int) rfl).2
  have e3 : cA = y.2.2.1 := Option.some.inj (e1.symm.trans e2)
  subst e3
  exact k q p e s m args below meth c H1 locs ls F hP1 hD1 hS1 hA hl
/-- an object -/
theorem ynew {idx ci N : Nat} {C : String} {T : u_T} {fs : List Value} (d : decode M.2.1 pc = .ok (.new idx, 3)) (hin : ∀ w ∈ u_ws C T N, w ∈ wsL_law) (ty : Nat → FieldType) (hty : ∀ k, k < N → parseFieldDescriptor (T k).2.2.1 = some (ty k)) (hw1 : Cond.classLink M.1.cls idx C ∈ wsL_law) (hw2 : Cond.instantiable C N ∈ wsL_law) (hw3 : Cond.initialized C ∈ wsL_law) (hc : vwCl[ci]? = some (C, T, N)) (hfs : ∀ j, j < N → defaultValue (ty j) = vp_V fs j) (hcl : cells + 1 ≤ mc) (hsl : slots + N ≤ ms) (k : ∀ q : Nat, yZ y M A mc ms post (pc + 3) lv (.ref q :: st) (ws ++ [(q, .inr (ci, fs))]) (cells + 1) (slots + N)) : yZ y M A mc ms post pc lv st ws cells slots := by
  intro p e s m args below meth c H locs ls F hP hD hS hA hl
  have g := fun w h => F.2.2.2.2.2.2.2.2.1 w h args
  exact va_new (Ts := wsL_law) F.1 F.2.1 g hin ty hty F.2.2.2.1 (g _ hw1) (g _ hw2) (g _ hw3) F.2.2.2.2.2.2.2.1 hP hD hS hA hc hfs hcl hsl d (fun q H1 hP1 hD1 hS1 => k q p e s m args below meth c H1 locs ls F hP1 hD1 hS1 hA hl)
/-- a row of Persons -/
theorem yanew {idx : Nat} {n : Int32} {N : Nat} (d : decode M.2.1 pc = .ok (.anewarray idx, 3)) (hw1 : Cond.classLink M.1.cls idx RX5 ∈ wsL_law) (hN : n = nI N) (hN2 : N ≤ 1000) (hc : cells + 1 ≤ mc) (hs : slots + N ≤ ms) (k : ∀ q : Nat, yZ y M A mc ms post (pc + 3) lv (.ref q :: st) (ws ++ [(q, .inl (y.2.2.2, N, .inr (.inr (.inr (.inr (fun _ => none))))))]) (cells + 1) (slots + N)) : yZ y M A mc ms post pc lv (.int n :: st) ws cells slots := by
  intro p e s m args below meth c H locs ls F hP hD hS hA hl
  subst hN
  refine va_newq F.1 F.2.1 F.2.2.2.1 (F.2.2.2.2.2.2.2.2.1 _ hw1 args) F.2.2.2.2.2.2.2.2.2.2.1 F.2.2.2.2.2.2.2.1 hP hD hS hA (nI_pos (by omega)) (nI_clamp (by omega)) (by omega) hc hs d (fun q cA H1 hK1 hP1 hD1 hS1 => ?_)
  obtain ⟨-, -, -, -, -, e1⟩ := (hK1.2 2 (cA, .object RX5) rfl).2
  obtain ⟨-, -, -, -, -, e2⟩ := (F.2.2.2.2.2.2.2.1.2 1 (y.2.2.2, .object RX5) rfl).2
  have e3 : cA = y.2.2.2 := Option.some.inj (e1.symm.trans e2)
  subst e3
  exact k q p e s m args below meth c H1 locs ls F hP1 hD1 hS1 hA hl
theorem yaast0 {q0 qk a v i n : Nat} {f : Nat → Option Nat} (d : decode M.2.1 pc = .ok (.aastore, 1)) (ha : ws[q0]? = some (a, .inl (y.2.2.2, n, .inr (.inr (.inr (.inr f)))))) (hv : ws[qk]? = some (v, .inr (5, []))) (hi : i < n) (hn : n < 1000) (hws : ws.set q0 (a, .inl (y.2.2.2, n, .inr (.inr (.inr (.inr (va_up f i (some v))))))) = ws') (k : yZ y M A mc ms post (pc + 1) lv st ws' cells slots) : yZ y M A mc ms post pc lv (.ref v :: .int (nI i) :: .ref a :: st) ws cells slots := by
  intro p e s m args below meth c H locs ls F hP hD hS hA hl
  subst hws
  refine va_astq F.1 F.2.1 F.2.2.2.2.2.2.2.1 hP hD hS q0 1 qk 5 ha rfl hv rfl (vp_in_nI hi (by omega)) d (fun H1 locs1 hP1 hD1 hS1 => ?_)
  rw [nI_clamp (by omega)] at hP1 hD1
  exact k p e s m args below meth c H1 locs1 ls F hP1 hD1 hS1 hA hl
theorem yaastO {q0 qk ci a v i n : Nat} {r : vw_C} {f : Nat → Option Nat} (d : decode M.2.1 pc = .ok (.aastore, 1)) (ha : ws[q0]? = some (a, .inl (y.2.2.2, n, .inr (.inr (.inr (.inr f)))))) (hca : ∀ U, yEnv y U → va_Nw (.castable r.1 RX5) U) (hv : ws[qk]? = some (v, .inr (ci, []))) (hcc : vwCl[ci]? = some r) (hi : i < n) (hn : n < 1000) (hws : ws.set q0 (a, .inl (y.2.2.2, n, .inr (.inr (.inr (.inr (va_up f i (some v))))))) = ws') (k : yZ y M A mc ms post (pc + 1) lv st ws' cells slots) : yZ y M A mc ms post pc lv (.ref v :: .int (nI i) :: .ref a :: st) ws cells slots := by
  intro p e s m args below meth c H locs ls F hP hD hS hA hl
  subst hws
  refine va_astqO F.1 F.2.1 F.2.2.2.2.2.2.2.1 hP hD hS q0 1 qk ci ha rfl (hca s F.2.2.2.2.2.2.2) hv hcc (vp_in_nI hi (by omega)) d (fun H1 locs1 hP1 hD1 hS1 => ?_)
  rw [nI_clamp (by omega)] at hP1 hD1
  exact k p e s m args below meth c H1 locs1 ls F hP1 hD1 hS1 hA hl
theorem yputF {q0 ci N idx k a : Nat} {C : String} {T : u_T} {fs : List Value} {v : Value} {ty : FieldType} (d : decode M.2.1 pc = .ok (.putfield idx, 3)) (hin : ∀ w ∈ u_ws C T N, w ∈ wsL_law) (ty0 : Nat → FieldType) (hty : ∀ k, k < N → parseFieldDescriptor (T k).2.2.1 = some (ty0 k)) (hnm : ∀ a, a < N → ∀ b, b < N → a ≠ b → (T a).2.1 ≠ (T b).2.1) (he : ws[q0]? = some (a, .inr (ci, fs))) (hc : vwCl[ci]? = some (C, T, N)) (hk : k < N) (hw : Cond.fieldLink M.1.cls idx (T k).1 (T k).2.1 (T k).2.2.1 ∈ wsL_law) (hfin : (T k).2.2.2 = true) (hname : M.1.name = "<init>") (hown : (T k).1 = M.1.cls) (hd : parseFieldDescriptor (T k).2.2.1 = some ty) (hn : narrow ty v = v) (hfit : fits ty v = true) (hl0 : k < fs.length) (hws : ws.set q0 (a, .inr (ci, fs.set k v)) = ws') (kk : yZ y M A mc ms post (pc + 3) lv st ws' cells slots) : yZ y M A mc ms post pc lv (v :: .ref a :: st) ws cells slots := by
  intro p e s m args below meth c H locs ls F hP hD hS hA hl
  subst hws
  exact va_putF (Ts := wsL_law) F.1 F.2.1 (fun w h => F.2.2.2.2.2.2.2.2.1 w h _) hin ty0 hty hnm F.2.2.2.1 F.2.2.2.2.2.2.2.1 hP hD hS q0 he hc k hk (F.2.2.2.2.2.2.2.2.1 _ hw _) (fun _ h => h) hfin (F.2.2.2.2.2.2.1.trans hname) hown hd hn hfit hl0 d (fun H1 locs1 hP1 hD1 hS1 => kk p e s m args below meth c H1 locs1 ls F hP1 hD1 hS1 hA hl)
theorem yput {q0 ci N idx k a : Nat} {C : String} {T : u_T} {fs : List Value} {v : Value} {ty : FieldType} (d : decode M.2.1 pc = .ok (.putfield idx, 3)) (hin : ∀ w ∈ u_ws C T N, w ∈ wsL_law) (ty0 : Nat → FieldType) (hty : ∀ k, k < N → parseFieldDescriptor (T k).2.2.1 = some (ty0 k)) (hnm : ∀ a, a < N → ∀ b, b < N → a ≠ b → (T a).2.1 ≠ (T b).2.1) (he : ws[q0]? = some (a, .inr (ci, fs))) (hc : vwCl[ci]? = some (C, T, N)) (hk : k < N) (hw : Cond.fieldLink M.1.cls idx (T k).1 (T k).2.1 (T k).2.2.1 ∈ wsL_law) (hfin : (T k).2.2.2 = false) (hd : parseFieldDescriptor (T k).2.2.1 = some ty) (hn : narrow ty v = v) (hfit : fits ty v = true) (hl0 : k < fs.length) (hws : ws.set q0 (a, .inr (ci, fs.set k v)) = ws') (kk : yZ y M A mc ms post (pc + 3) lv st ws' cells slots) : yZ y M A mc ms post pc lv (v :: .ref a :: st) ws cells slots := by
  intro p e s m args below meth c H locs ls F hP hD hS hA hl
  subst hws
  exact va_put (Ts := wsL_law) F.1 F.2.1 (fun w h => F.2.2.2.2.2.2.2.2.1 w h _) hin ty0 hty hnm F.2.2.2.1 F.2.2.2.2.2.2.2.1 hP hD hS q0 he hc k hk (F.2.2.2.2.2.2.2.2.1 _ hw _) (fun _ h => h) hfin hd hn hfit hl0 d (fun H1 locs1 hP1 hD1 hS1 => kk p e s m args below meth c H1 locs1 ls F hP1 hD1 hS1 hA hl)
theorem ywd (hws : ws = ws') (kk : yZ y M A mc ms post pc lv st ws' cells slots) : yZ y M A mc ms post pc lv st ws cells slots := by subst hws; exact kk
theorem yfit {d d' n mc ms mc' ms' : Nat} (h : d' < d) (hn : n ≤ 19) : (yrm d' mc' ms').frames + 1 ≤ (yrm d mc ms).frames ∧ 8 + (n + 11) + (yrm d' mc' ms').locals ≤ (yrm d mc ms).locals := by
  show d' + 1 ≤ d ∧ 8 + (n + 11) + 38 * d' ≤ 38 * d
  omega
theorem yPre {w0 : va_W} {as : List Value} {s : State} {H : Heap} (hP : va_P y.2.1 vwCl w0 H) (hD : va_D A w0) (hE : yEnv y s) : PreS s H (va_Pc as (fun U => U.heap.size = H.size ∧ va_P y.2.1 vwCl w0 U.heap ∧ va_D (fun _ => True) w0 ∧ yEnv y U)) as :=
  ⟨fun a U g mk q => by obtain ⟨q0, q1, qP, qD, qE⟩ := q; exact ⟨q0, q1, qP, qD, qE.go (State.WarmedH.refl U)⟩, fun U hU hW => ⟨rfl, by rw [hU], by rw [hU]; exact hP, hD.weaken (fun _ _ _ _ => trivial), hE.go hW⟩⟩
/-- a call of a constructor -/
theorem ycall {as rest : List Value} {w0 wr : va_W} {mc' ms' idx n a : Nat} {post' : va_W → Prop} (isC isR : List Nat) (hC : yC y M' (.ref a :: as) w0 mc' ms' post') (d : decode M.2.1 pc = .ok (.invokespecial idx, 3)) (hret : M'.2.2.2.1 = none) (hG : GoodIn wsL_law [.code M'.1 M'.2.1 M'.2.2.1 M'.2.2.2.1]) (hw1 : Cond.initialized M'.1.cls ∈ wsL_law) (hw2 : Cond.methodLink M.1.cls idx M'.1 ∈ wsL_law) (hw3 : Cond.instanceMethod M'.1 ∈ wsL_law) (hname : M'.1.name = "<init>") (hd : zNm M' n) (hn : as.length = n) (hR : M'.2.2.2.2 < M.2.2.2.2) (hrest : (rest.map fun v => v.category).sum ≤ 8) (hcc : cells + mc' ≤ mc) (hss : slots + ms' ≤ ms) (hisC : isC.map (fun i => ws[i]?) = w0.map some) (hnC : va_nd isC = true) (hfC : isC.filterMap (fun i => ws[i]?) = w0) (hisR : isR.map (fun i => ws[i]?) = wr.map some) (hnR : va_nd isR = true) (hdis : ∀ i ∈ isR, i ∉ isC) (kk : ∀ u, post' u → yZ y M A mc ms post (pc + 3) lv rest (wr ++ u) (cells + mc') (slots + ms')) (hst : st = as.reverse ++ .ref a :: rest) : yZ y M A mc ms post pc lv st ws cells slots := by
  subst hst
  intro p e s m args below meth c H locs ls F hP hD hS hA hl
  have ht : ∀ w ∈ wsL_law, w.before args s = true := fun w h => F.2.2.2.2.2.2.2.2.1 w h _
  have hPc := hP.sub isC hfC
  have hDc := hD.sub isC hnC hisC
  have hFc := va_free (wc := w0) hD hS hA isC hisC
  refine va_callv (va_runI (nL := M.2.2.1) (rest := rest) ⟨F.1, F.2.1, F.2.2.1, F.2.2.2.1, ht⟩ (hC H.size) (cwI (ws' := []) n ht hG (by rw [hret]) rfl rfl (ht _ hw1) (ht _ hw2) (ht _ hw3) hname hd.1 (yfit hR hd.2)) (yPre hPc hDc F.2.2.2.2.2.2.2) rfl hn hl.1 rfl (lv_room hrest) d ⟨hcc, hss⟩) hS (fun q _ h => hFc q h) hFc (fun u t H1 locs1 ht1 hvm hw hB hz1 hk1 hS1 => ?_)
  obtain ⟨hP1, hD1⟩ := hB
  rw [ht1] at hP1
  obtain ⟨hP2, hD2⟩ := va_join (wr := wr) (w1 := u) hP hD isC isR hisC hisR hnR hdis hk1 hFc hP1 hD1
  exact kk u hw p e s m args below meth c H1 locs1 ls F hP2 hD2 hS1 hA hl
theorem ycallN {as rest : List Value} {w0 wr : va_W} {mc' ms' idx n a : Nat} {post' : va_W → Prop} (isC isR : List Nat) (hC : yC y M' (.ref a :: as) w0 mc' ms' post') (d : decode M.2.1 pc = .ok (.invokespecial idx, 3)) (hret : M'.2.2.2.1 = none) (hG : GoodIn wsL_law [.code M'.1 M'.2.1 M'.2.2.1 M'.2.2.2.1]) (hw1 : Cond.initialized M'.1.cls ∈ wsL_law) (hw2 : Cond.methodLinkNest M.1.cls idx M'.1 "EachLendsHisFace" ∈ lw_tbl) (hw3 : Cond.instanceMethod M'.1 ∈ wsL_law) (hname : M'.1.name = "<init>") (hd : zNm M' n) (hn : as.length = n) (hR : M'.2.2.2.2 < M.2.2.2.2) (hrest : (rest.map fun v => v.category).sum ≤ 8) (hcc : cells + mc' ≤ mc) (hss : slots + ms' ≤ ms) (hisC : isC.map (fun i => ws[i]?) = w0.map some) (hnC : va_nd isC = true) (hfC : isC.filterMap (fun i => ws[i]?) = w0) (hisR : isR.map (fun i => ws[i]?) = wr.map some) (hnR : va_nd isR = true) (hdis : ∀ i ∈ isR, i ∉ isC) (kk : ∀ u, post' u → yZ y M A mc ms post (pc + 3) lv rest (wr ++ u) (cells + mc') (slots + ms')) (hst : st = as.reverse ++ .ref a :: rest) : yZ y M A mc ms post pc lv st ws cells slots := by
  subst hst
  intro p e s m args below meth c H locs ls F hP hD hS hA hl
  have ht : ∀ w ∈ wsL_law, w.before args s = true := fun w h => F.2.2.2.2.2.2.2.2.1 w h _
  have hPc := hP.sub isC hfC
  have hDc := hD.sub isC hnC hisC
  have hFc := va_free (wc := w0) hD hS hA isC hisC
  refine va_callv (va_runIN (nL := M.2.2.1) (rest := rest) ⟨F.1, F.2.1, F.2.2.1, F.2.2.2.1, ht⟩ (hC H.size) ⟨va_cnB (ws' := []) n ht hG (by rw [hret]) rfl rfl (F.2.2.2.2.2.2.2.2.2.1 _ hw2 rfl) (ht _ hw1) hd.1 (yfit hR hd.2), hname, ht _ hw3⟩ (yPre hPc hDc F.2.2.2.2.2.2.2) rfl hn hl.1 rfl (lv_room hrest) d ⟨hcc, hss⟩) hS (fun q _ h => hFc q h) hFc (fun u t H1 locs1 ht1 hvm hw hB hz1 hk1 hS1 => ?_)
  obtain ⟨hP1, hD1⟩ := hB
  rw [ht1] at hP1
  obtain ⟨hP2, hD2⟩ := va_join (wr := wr) (w1 := u) hP hD isC isR hisC hisR hnR hdis hk1 hFc hP1 hD1
  exact kk u hw p e s m args below meth c H1 locs1 ls F hP2 hD2 hS1 hA hl
end CONS
