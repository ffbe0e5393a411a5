/-! The law's own layer: the class's world and the reference's world side by side -/
abbrev vCx : Type := Launch × va_G × ClassId × ClassId × (Nat → Nat) × (Nat → Nat) × (State → Prop)
def vC (v : vCx) : zCx := (v.1, v.2.1, v.2.2.1, v.2.2.2.1, v.2.2.2.2.1, v.2.2.2.2.2.2)
def vM (v : vCx) : zCx := (v.1, v.2.1, v.2.2.1, v.2.2.2.1, v.2.2.2.2.2.1, fun _ => True)
/-- what stays: the entry, both sides' surroundings, the worlds new and apart -/
def vFx (v : vCx) (b L : Nat) (xs : Nat → Int32) (p : Program) (s : State) (m : MethodId) (meth : Method) (c : Code) : Prop :=
  lw_At p s m meth c b L xs ∧ zEnv (vC v) true s ∧ zEnv (vM v) false s ∧ (∀ q, zA (vC v) true q → s.heap.size ≤ q) ∧ (∀ q, zA (vM v) false q → s.heap.size ≤ q) ∧ ∀ q, zA (vC v) true q → ¬ zA (vM v) false q
def vZ (v : vCx) (b L : Nat) (xs : Nat → Int32) (pc : Nat) (lv : List (Nat × Value)) (st : List Value) (SC SM : zSt) : Prop :=
  ∀ (p : Program) (e : Env) (s : State) (m : MethodId) (below : List Frame) (meth : Method) (c : Code) (H : Heap) (locs : List Loc) (ls : Array Slot),
    vFx v b L xs p s m meth c → va_P v.2.1 vwCl (zwd (vC v) true SC) H → va_P v.2.1 vwCl (zwd (vM v) false SM) H → va_S (fun q : Nat => s.heap.size ≤ q) s.heap H locs → zlv ls 4 lv →
    W p v.1 e room_1 s m #[Value.ref b] below meth c H locs 49 777 (lw_Z below #[Value.ref b] s) (F0 m pc ls st)
section VROWS
variable {v : vCx} {b L : Nat} {xs : Nat → Int32} {pc : Nat} {lv : List (Nat × Value)} {st : List Value} {SC SM : zSt}
theorem vlvs {lv' : List (Nat × Value)} (h : zsub lv' lv) (k : vZ v b L xs pc lv' st SC SM) : vZ v b L xs pc lv st SC SM :=
  fun p e s m below meth c H locs ls F hP hM hS hl => k p e s m below meth c H locs ls F hP hM hS ⟨hl.1, hl.2.1, fun i v hv => hl.2.2 i v (zsub_get lv' h i v hv)⟩
theorem viconst {n : Int} {u : Int32} (d : decode code pc = .ok (.iconst n, 1)) (hv : Int32.ofInt n = u) (k : vZ v b L xs (pc + 1) lv (.int u :: st) SC SM) : vZ v b L xs pc lv st SC SM :=
  fun p e s m below meth c H locs ls F hP hM hS hl => lv_iconst F.1.1 F.1.2.1 d hv (k p e s m below meth c H locs ls F hP hM hS hl)
theorem vbipush {n : Int} {u : Int32} (d : decode code pc = .ok (.bipush n, 2)) (hv : (Int8.ofInt n).toInt32 = u) (k : vZ v b L xs (pc + 2) lv (.int u :: st) SC SM) : vZ v b L xs pc lv st SC SM :=
  fun p e s m below meth c H locs ls F hP hM hS hl => lv_bipush F.1.1 F.1.2.1 d hv (k p e s m below meth c H locs ls F hP hM hS hl)
theorem viload_n {n : Fin 4} {u : Int32} (d : decode code pc = .ok (.iload_n n, 1)) (hv : zget lv n.val = some (.int u)) (k : vZ v b L xs (pc + 1) lv (.int u :: st) SC SM) : vZ v b L xs pc lv st SC SM :=
  fun p e s m below meth c H locs ls F hP hM hS hl => lv_iload_n F.1.1 F.1.2.1 d rfl (hl.2.2 _ _ hv) (k p e s m below meth c H locs ls F hP hM hS hl)
theorem valoadn {n : Fin 4} {u : Nat} (d : decode code pc = .ok (.aload_n n, 1)) (hv : zget lv n.val = some (.ref u)) (k : vZ v b L xs (pc + 1) lv (.ref u :: st) SC SM) : vZ v b L xs pc lv st SC SM :=
  fun p e s m below meth c H locs ls F hP hM hS hl => lv_aload_n F.1.1 F.1.2.1 d rfl (hl.2.2 _ _ hv) (k p e s m below meth c H locs ls F hP hM hS hl)
theorem viinc {i : Nat} {n : Int} {u w : Int32} (d : decode code pc = .ok (.iinc i n, 3)) (hv : zget lv i = some (.int u)) (hw : u + Int32.ofInt n = w) (hn : i < 4) (hok : zok1 lv i = true) (k : vZ v b L xs (pc + 3) ((i, .int w) :: lv) st SC SM) : vZ v b L xs pc lv st SC SM := by
  intro p e s m below meth c H locs ls F hP hM hS hl
  obtain ⟨kk, hk⟩ := List.getElem?_of_mem (zlist_mem hv)
  exact lv_iinc F.1.1 F.1.2.1 d (zlist_of hl) hk hw hn rfl (fun ls' h' => k p e s m below meth c H locs ls' F hP hM hS (zstore1 hok h'))
theorem viadd {u w : Int32} (d : decode code pc = .ok (.iadd, 1)) (k : vZ v b L xs (pc + 1) lv (.int (u + w) :: st) SC SM) : vZ v b L xs pc lv (.int w :: .int u :: st) SC SM :=
  fun p e s m below meth c H locs ls F hP hM hS hl => lv_iadd F.1.1 F.1.2.1 d (k p e s m below meth c H locs ls F hP hM hS hl)
theorem visub {u w : Int32} (d : decode code pc = .ok (.isub, 1)) (k : vZ v b L xs (pc + 1) lv (.int (u - w) :: st) SC SM) : vZ v b L xs pc lv (.int w :: .int u :: st) SC SM :=
  fun p e s m below meth c H locs ls F hP hM hS hl => lv_isub F.1.1 F.1.2.1 d (k p e s m below meth c H locs ls F hP hM hS hl)
theorem viand {u w : Int32} (d : decode code pc = .ok (.iand, 1)) (k : vZ v b L xs (pc + 1) lv (.int (u &&& w) :: st) SC SM) : vZ v b L xs pc lv (.int w :: .int u :: st) SC SM :=
  fun p e s m below meth c H locs ls F hP hM hS hl => lv_iand F.1.1 F.1.2.1 d (k p e s m below meth c H locs ls F hP hM hS hl)
theorem vlcmp {u w : Int64} (d : decode code pc = .ok (.lcmp, 1)) (k : vZ v b L xs (pc + 1) lv (.int (lg_cmp u w) :: st) SC SM) : vZ v b L xs pc lv (.long w :: .long u :: st) SC SM :=
  fun p e s m below meth c H locs ls F hP hM hS hl => W.lcmp F.1.1 F.1.2.1 d (k p e s m below meth c H locs ls F hP hM hS hl)
theorem vicmp_gt {u w : Int32} {off : Int} {tgt : Nat} (d : decode code pc = .ok (.if_icmp .gt off, 3)) (ht : (pc : Int) + off = (tgt : Int)) (kt : w < u → vZ v b L xs tgt lv st SC SM) (kf : ¬ w < u → vZ v b L xs (pc + 3) lv st SC SM) : vZ v b L xs pc lv (.int w :: .int u :: st) SC SM :=
  fun p e s m below meth c H locs ls F hP hM hS hl => lv_icmp_gt F.1.1 F.1.2.1 d ht (fun h => kt h p e s m below meth c H locs ls F hP hM hS hl) (fun h => kf h p e s m below meth c H locs ls F hP hM hS hl)
theorem vicmp_eq {u w : Int32} {off : Int} {tgt : Nat} (d : decode code pc = .ok (.if_icmp .eq off, 3)) (ht : (pc : Int) + off = (tgt : Int)) (h : u = w) (kt : vZ v b L xs tgt lv st SC SM) : vZ v b L xs pc lv (.int w :: .int u :: st) SC SM :=
  fun p e s m below meth c H locs ls F hP hM hS hl => lv_icmp_eq F.1.1 F.1.2.1 d ht (fun _ => kt p e s m below meth c H locs ls F hP hM hS hl) (fun q => absurd h q)
theorem vif_eq {u : Int32} {off : Int} {tgt : Nat} (d : decode code pc = .ok (.ifCond .eq off, 3)) (ht : (pc : Int) + off = (tgt : Int)) (h : u = 0) (kt : vZ v b L xs tgt lv st SC SM) : vZ v b L xs pc lv (.int u :: st) SC SM :=
  fun p e s m below meth c H locs ls F hP hM hS hl => lv_if_eq F.1.1 F.1.2.1 d ht (fun _ => kt p e s m below meth c H locs ls F hP hM hS hl) (fun q => absurd h q)
theorem vgoto {off : Int} {tgt : Nat} (d : decode code pc = .ok (.goto off, 3)) (ht : (pc : Int) + off = (tgt : Int)) (k : vZ v b L xs tgt lv st SC SM) : vZ v b L xs pc lv st SC SM :=
  fun p e s m below meth c H locs ls F hP hM hS hl => lv_goto F.1.1 F.1.2.1 d ht (k p e s m below meth c H locs ls F hP hM hS hl)
theorem vtableOut {dflt lo hi : Int} {offs : Array Int} {len : Nat} {u : Int32} {tgt : Nat} (d : decode code pc = .ok (.tableswitch dflt lo hi offs, len)) (h : u.toInt < lo ∨ hi < u.toInt) (ht : (pc : Int) + dflt = (tgt : Int)) (k : vZ v b L xs tgt lv st SC SM) : vZ v b L xs pc lv (.int u :: st) SC SM :=
  fun p e s m below meth c H locs ls F hP hM hS hl => lv_tableOut F.1.1 F.1.2.1 d h ht (k p e s m below meth c H locs ls F hP hM hS hl)
theorem vtableIn {dflt lo hi : Int} {offs : Array Int} {len : Nat} {u : Int32} {off : Int} {tgt : Nat} (d : decode code pc = .ok (.tableswitch dflt lo hi offs, len)) (h1 : ¬ u.toInt < lo) (h2 : ¬ hi < u.toInt) (ho : offs[(u.toInt - lo).toNat]? = some off) (ht : (pc : Int) + off = (tgt : Int)) (k : vZ v b L xs tgt lv st SC SM) : vZ v b L xs pc lv (.int u :: st) SC SM :=
  fun p e s m below meth c H locs ls F hP hM hS hl => lv_tableIn F.1.1 F.1.2.1 d h1 h2 ho ht (k p e s m below meth c H locs ls F hP hM hS hl)
theorem vslen (d : decode code pc = .ok (.arraylength, 1)) (k : vZ v b L xs (pc + 1) lv (.int (nI L) :: st) SC SM) : vZ v b L xs pc lv (.ref b :: st) SC SM :=
  fun p e s m below meth c H locs ls F hP hM hS hl => va_slen F.1.1 F.1.2.1 F.1.2.2.2.2.2.2.1 F.1.2.2.2.2.2.2.2.1 (Nat.not_le.mpr F.1.2.2.2.2.2.2.2.1) hS d (k p e s m below meth c H locs ls F hP hM hS hl)
theorem vsld {i : Nat} (hi : i < L) (hL : L ≤ 3072) (d : decode code pc = .ok (.iaload, 1)) (k : vZ v b L xs (pc + 1) lv (.int (xs i) :: st) SC SM) : vZ v b L xs pc lv (.int (nI i) :: .ref b :: st) SC SM := by
  intro p e s m below meth c H locs ls F hP hM hS hl
  refine va_sld F.1.1 F.1.2.1 F.1.2.2.2.2.2.2.1 F.1.2.2.2.2.2.2.2.1 (Nat.not_le.mpr F.1.2.2.2.2.2.2.2.1) hS (vp_in_nI hi (by omega)) d ?_
  rw [nI_clamp (by omega)]
  exact k p e s m below meth c H locs ls F hP hM hS hl
/-- one number of the script: aload_0, iload_3, iconst_k, iadd, iaload -/
theorem vsc5 {i k : Nat} {n : Int} (hL : L ≤ 3072) (hi : i + 6 ≤ L) (hk : k < 6) (hn : Int32.ofInt n = nI k) (d1 : decode code pc = .ok (.aload_n 0, 1)) (d2 : decode code (pc + 1) = .ok (.iload_n 3, 1)) (d3 : decode code (pc + 1 + 1) = .ok (.iconst n, 1)) (d4 : decode code (pc + 1 + 1 + 1) = .ok (.iadd, 1)) (d5 : decode code (pc + 1 + 1 + 1 + 1) = .ok (.iaload, 1)) (h0 : zget lv 0 = some (.ref b)) (h3 : zget lv 3 = some (.int (nI i))) (kk : vZ v b L xs (pc + 5) lv (.int (xs (i + k)) :: st) SC SM) : vZ v b L xs pc lv st SC SM := by
  refine valoadn d1 h0 ?_
  refine viload_n d2 h3 ?_
  refine viconst d3 hn ?_
  refine viadd d4 ?_
  rw [nI_add]
  exact vsld (by omega) hL d5 kk
theorem vend (d : decode code pc = .ok (.ireturn, 1)) : vZ v b L xs pc lv [.int 1] SC SM := by
  intro p e s m below meth c H locs ls F hP hM hS hl
  refine va_forget (fun q hq => hS.2.2 q hq) ?_
  exact lw_ret F.1.1 F.1.2.1 F.1.2.2.1 F.1.2.2.2.2.2.2.2.2.1 d
/-- a call, once it runs -/
theorem vrun {x : zCx} {bb : Bool} {p : Program} {e : Env} {s : State} {m : MethodId} {args a : Array Value} {below : List Frame} {meth : Method} {c : Code} {H : Heap} {locs : List Loc} {ls : Array Slot} {R : Room} {post' : Option Value → zSt → Prop} {st0 rest : List Value} {Q : State → Prop} {cells slots : Nat} {A0 : Nat → Prop} (hr : va_Run p x.1 e R s m args below meth c H locs cells slots 0 0 (F0 m pc ls st0) rest (zQ x bb post' a) (zA x bb)) (hS : va_S A0 s.heap H locs) (hA : ∀ q, zA x bb q → A0 q)
    (kk : ∀ (r : Option Value) (S' : zSt) (H1 : Heap) (locs1 : List Loc), post' r S' → va_P x.2.1 vwCl (zwd x bb S') H1 → (∀ q : Nat, q < H.size → ¬ zA x bb q → H1[q]? = H[q]?) → va_S A0 s.heap H1 locs1 → W p x.1 e R s m args below meth c H1 locs1 cells slots Q (F0 m (pc + 3) ls (r.toList ++ rest))) : W p x.1 e R s m args below meth c H locs cells slots Q (F0 m pc ls st0) := by
  intro T hT X
  obtain ⟨v, st₀, t, T', L, h0, X', hL, e1, e2, ⟨⟨r, S', hv, hp, hb⟩, hz, hk⟩, st⟩ := hr T hT X
  cases hv
  rw [h0] at hz hk
  rw [← e1] at hb
  obtain ⟨t2, a1, b1⟩ := kk v S' T'.heap (locs ++ L) hp hb (fun q h1 h2 => by rw [e1]; exact hk q h1 h2)
    ⟨Nat.le_trans hS.1 (by rw [e1]; exact hz), fun q h1 h2 => by rw [e1, hk q (Nat.lt_of_lt_of_le h1 hS.1) (fun z => h2 (hA q z))]; exact hS.2.1 q h1 h2, fun q hq => by
      rcases List.mem_append.mp hq with h | h
      · exact hS.2.2 q h
      · exact hA _ (hL q h)⟩ T' rfl X'
  exact ⟨t2, st t2 a1, b1⟩
theorem vfit {d n : Nat} (h : d ≤ 9) (hn : n ≤ 19) : (zrm d).frames + 1 ≤ room_1.frames ∧ 8 + (n + 11) + (zrm d).locals ≤ room_1.locals := by
  show d + 1 ≤ 14 ∧ 8 + (n + 11) + 38 * d ≤ 540
  omega
theorem vpre {x : zCx} {bb : Bool} {S : zSt} {as : List Value} {s : State} {H : Heap} {locs : List Loc} (hE : zEnv x bb s) (hP : va_P x.2.1 vwCl (zwd x bb S) H) (hS : va_S (fun q : Nat => s.heap.size ≤ q) s.heap H locs) : PreS s H (va_Pc as (fun U => va_P x.2.1 vwCl (zwd x bb S) U.heap ∧ zEnv x bb U)) as :=
  ⟨fun a U g mk q => ⟨q.1, q.2.1, q.2.2.call g mk a⟩, fun U hU hW => ⟨rfl, by rw [hU]; exact hP, hE.go (by rw [hU]; exact hS.1) (fun q h1 h2 => by rw [hU]; exact hS.2.1 q h1 (Nat.not_le.mpr h1)) hW⟩⟩
theorem vkept {x x' : zCx} {bb bb' : Bool} {S : zSt} {H H1 : Heap} (hP : va_P x.2.1 vwCl (zwd x bb S) H) (hne : ∀ q, zA x bb q → ¬ zA x' bb' q) (hk : ∀ q : Nat, q < H.size → ¬ zA x' bb' q → H1[q]? = H[q]?) : va_P x.2.1 vwCl (zwd x bb S) H1 :=
  hP.kept (fun k q hq => hk q.1 ((hP k q hq).lt) (hne q.1 (by obtain ⟨h1, h2⟩ := zwd_some hq; exact ⟨k, h1, by rw [h2]⟩)))
theorem vcallC {M' : zM} {as rest : List Value} {post' : Option Value → zSt → Prop} {idx n : Nat} (hC : zC (vC v) true M' (.ref (zad (vC v) 0) :: as) SC post') (d : decode code pc = .ok (.invokevirtual idx, 3)) (o : zOb true 0 M'.1.cls) (g : zLkV RL idx M' n) (hn : as.length = n) (hR : M'.2.2.2.2 ≤ 9) (hrest : (rest.map fun v => v.category).sum ≤ 8) (kk : ∀ r S', post' r S' → vZ v b L xs (pc + 3) lv (r.toList ++ rest) S' SM) (hst : st = as.reverse ++ .ref (zad (vC v) 0) :: rest) : vZ v b L xs pc lv st SC SM := by
  subst hst
  obtain ⟨ok, ci, fs, T, Nf, ol, oc⟩ := o
  intro p e s m below meth c H locs ls F hP hM hS hl
  have ht : ∀ w ∈ wsL_law, w.before #[Value.ref b] s = true := fun w h => F.2.1.2.1 w h _
  have hpre := vpre (x := vC v) (as := .ref (zad (vC v) 0) :: as) F.2.1 hP hS
  exact vrun (x := vC v) (va_runV (nL := 4) (rest := rest) ⟨F.1.1, F.1.2.1, F.1.2.2.2.1, F.1.2.2.2.2.1, ht⟩ hC (cwV n ht g.1 rfl rfl rfl ⟨rfl, g.2.1⟩ (vfit hR g.2.2)) ⟨hpre.1, zrecv F.2.1 hP ok ol oc, hpre.2⟩ rfl hn hl.1 rfl (lv_room hrest) d ⟨Nat.le_refl 49, Nat.le_refl 777⟩) hS F.2.2.2.1 (fun r S' H1 locs1 hp hP1 hk1 hS1 => kk r S' hp p e s m below meth c H1 locs1 ls F hP1 (vkept (x := vM v) hM (fun q h1 h2 => F.2.2.2.2.2 q h2 h1) hk1) hS1 hl)
theorem vcallM {M' : zM} {as rest : List Value} {post' : Option Value → zSt → Prop} {idx n : Nat} (hC : zC (vM v) false M' (.ref (zad (vM v) 0) :: as) SM post') (d : decode code pc = .ok (.invokevirtual idx, 3)) (o : zOb false 0 M'.1.cls) (g : zLkV RL idx M' n) (hn : as.length = n) (hR : M'.2.2.2.2 ≤ 9) (hrest : (rest.map fun v => v.category).sum ≤ 8) (kk : ∀ r S', post' r S' → vZ v b L xs (pc + 3) lv (r.toList ++ rest) SC S') (hst : st = as.reverse ++ .ref (zad (vM v) 0) :: rest) : vZ v b L xs pc lv st SC SM := by
  subst hst
  obtain ⟨ok, ci, fs, T, Nf, ol, oc⟩ := o
  intro p e s m below meth c H locs ls F hP hM hS hl
  have ht : ∀ w ∈ wsL_law, w.before #[Value.ref b] s = true := fun w h => F.2.1.2.1 w h _
  have hpre := vpre (x := vM v) (as := .ref (zad (vM v) 0) :: as) F.2.2.1 hM hS
  exact vrun (x := vM v) (va_runV (nL := 4) (rest := rest) ⟨F.1.1, F.1.2.1, F.1.2.2.2.1, F.1.2.2.2.2.1, ht⟩ hC (cwV n ht g.1 rfl rfl rfl ⟨rfl, g.2.1⟩ (vfit hR g.2.2)) ⟨hpre.1, zrecv F.2.2.1 hM ok ol oc, hpre.2⟩ rfl hn hl.1 rfl (lv_room hrest) d ⟨Nat.le_refl 49, Nat.le_refl 777⟩) hS F.2.2.2.2.1 (fun r S' H1 locs1 hp hP1 hk1 hS1 => kk r S' hp p e s m below meth c H1 locs1 ls F (vkept (x := vC v) hP (fun q h1 h2 => F.2.2.2.2.2 q h1 h2) hk1) hP1 hS1 hl)
/-- a question that both answer with the same int -/
theorem vaskC {M' : zM} {as rest : List Value} {P : Int32 → zSt → Prop} {idx n : Nat} (hC : zR (vC v) true M' (.ref (zad (vC v) 0) :: as) SC P) (d : decode code pc = .ok (.invokevirtual idx, 3)) (o : zOb true 0 M'.1.cls) (g : zLkV RL idx M' n) (hn : as.length = n) (hR : M'.2.2.2.2 ≤ 9) (hrest : (rest.map fun v => v.category).sum ≤ 8) (kk : ∀ r S', P r S' → vZ v b L xs (pc + 3) lv (.int r :: rest) S' SM) (hst : st = as.reverse ++ .ref (zad (vC v) 0) :: rest) : vZ v b L xs pc lv st SC SM :=
  vcallC hC d o g hn hR hrest (fun r S' h => by obtain ⟨u, rfl, hu⟩ := h; exact kk u S' hu) hst
theorem vaskM {M' : zM} {as rest : List Value} {P : Int32 → zSt → Prop} {idx n : Nat} (hC : zR (vM v) false M' (.ref (zad (vM v) 0) :: as) SM P) (d : decode code pc = .ok (.invokevirtual idx, 3)) (o : zOb false 0 M'.1.cls) (g : zLkV RL idx M' n) (hn : as.length = n) (hR : M'.2.2.2.2 ≤ 9) (hrest : (rest.map fun v => v.category).sum ≤ 8) (kk : ∀ r S', P r S' → vZ v b L xs (pc + 3) lv (.int r :: rest) SC S') (hst : st = as.reverse ++ .ref (zad (vM v) 0) :: rest) : vZ v b L xs pc lv st SC SM :=
  vcallM hC d o g hn hR hrest (fun r S' h => by obtain ⟨u, rfl, hu⟩ := h; exact kk u S' hu) hst
theorem vaskCl {M' : zM} {as rest : List Value} {P : Int64 → zSt → Prop} {idx n : Nat} (hC : zRl (vC v) true M' (.ref (zad (vC v) 0) :: as) SC P) (d : decode code pc = .ok (.invokevirtual idx, 3)) (o : zOb true 0 M'.1.cls) (g : zLkV RL idx M' n) (hn : as.length = n) (hR : M'.2.2.2.2 ≤ 9) (hrest : (rest.map fun v => v.category).sum ≤ 8) (kk : ∀ r S', P r S' → vZ v b L xs (pc + 3) lv (.long r :: rest) S' SM) (hst : st = as.reverse ++ .ref (zad (vC v) 0) :: rest) : vZ v b L xs pc lv st SC SM :=
  vcallC hC d o g hn hR hrest (fun r S' h => by obtain ⟨u, rfl, hu⟩ := h; exact kk u S' hu) hst
theorem vaskMl {M' : zM} {as rest : List Value} {P : Int64 → zSt → Prop} {idx n : Nat} (hC : zRl (vM v) false M' (.ref (zad (vM v) 0) :: as) SM P) (d : decode code pc = .ok (.invokevirtual idx, 3)) (o : zOb false 0 M'.1.cls) (g : zLkV RL idx M' n) (hn : as.length = n) (hR : M'.2.2.2.2 ≤ 9) (hrest : (rest.map fun v => v.category).sum ≤ 8) (kk : ∀ r S', P r S' → vZ v b L xs (pc + 3) lv (.long r :: rest) SC S') (hst : st = as.reverse ++ .ref (zad (vM v) 0) :: rest) : vZ v b L xs pc lv st SC SM :=
  vcallM hC d o g hn hR hrest (fun r S' h => by obtain ⟨u, rfl, hu⟩ := h; exact kk u S' hu) hst
theorem vroom {i : Nat} (hL : L ≤ 3072) (hi : i ≤ 4000) (h : ¬ nI L - 6 < nI i) : i + 6 ≤ L := by
  rw [Int32.lt_iff_toInt_lt, Int32.toInt_sub, nI_toInt (by omega), nI_toInt (by omega)] at h
  have h6 : (6 : Int32).toInt = 6 := by decide
  rw [h6] at h
  have e : ((L : Int) - 6).bmod (2 ^ 32) = (L : Int) - 6 := by apply Int.bmod_eq_of_le <;> omega
  rw [e] at h
  omega
end VROWS
