/-! From the law's entry: both are made, then the loop -/
theorem va_Psplit {D : va_G} {cl : List vw_C} {w1 w2 : va_W} {H : Heap} (h : va_P D cl (w1 ++ w2) H) : va_P D cl w1 H ∧ va_P D cl w2 H := by
  refine ⟨fun k q hk => h k q ?_, fun k q hk => h (w1.length + k) q ?_⟩
  · rw [List.getElem?_append_left (List.getElem?_eq_some_iff.mp hk).1]; exact hk
  · rw [List.getElem?_append_right (Nat.le_add_right _ _), Nat.add_sub_cancel_left]; exact hk
theorem va_Dsplit {A : Nat → Prop} {w1 w2 : va_W} (h : va_D A (w1 ++ w2)) : va_D A w1 ∧ va_D A w2 ∧ ∀ (i j : Nat) (p q : Nat × va_E), w1[i]? = some p → w2[j]? = some q → p.1 ≠ q.1 := by
  have hl : ∀ (k : Nat) (q : Nat × va_E), w1[k]? = some q → (w1 ++ w2)[k]? = some q := fun k q hk => by rw [List.getElem?_append_left (List.getElem?_eq_some_iff.mp hk).1]; exact hk
  have hr : ∀ (k : Nat) (q : Nat × va_E), w2[k]? = some q → (w1 ++ w2)[w1.length + k]? = some q := fun k q hk => by rw [List.getElem?_append_right (Nat.le_add_right _ _), Nat.add_sub_cancel_left]; exact hk
  refine ⟨⟨fun i j p q hi hj e => h.1 i j p q (hl i p hi) (hl j q hj) e, fun k q hk => h.2 k q (hl k q hk)⟩, ⟨fun i j p q hi hj e => ?_, fun k q hk => h.2 _ q (hr k q hk)⟩, fun i j p q hi hj e => ?_⟩
  · have := h.1 _ _ p q (hr i p hi) (hr j q hj) e
    omega
  · have h1 := h.1 _ _ p q (hl i p hi) (hr j q hj) e
    have h2 := (List.getElem?_eq_some_iff.mp hi).1
    omega
theorem zA_wd {x : zCx} {b : Bool} {S : zSt} {A : Nat → Prop} (h : va_D A (zwd x b S)) : ∀ q, zA x b q → A q := by
  intro q hq
  obtain ⟨k, hk, rfl⟩ := hq
  exact h.2 k _ (zwd_get hk)
theorem zinj_wd {x : zCx} {b : Bool} {S : zSt} {A : Nat → Prop} (h : va_D A (zwd x b S)) : ∀ i j, i < zN b → j < zN b → zad x i = zad x j → i = j :=
  fun i j hi hj e => h.1 i j _ _ (zwd_get hi) (zwd_get hj) e
theorem zdis_wd {x x' : zCx} {b b' : Bool} {S S' : zSt} (h : ∀ (i j : Nat) (p q : Nat × va_E), (zwd x b S)[i]? = some p → (zwd x' b' S')[j]? = some q → p.1 ≠ q.1) : ∀ q, zA x b q → ¬ zA x' b' q := by
  intro q h1 h2
  obtain ⟨i, hi, rfl⟩ := h1
  obtain ⟨j, hj, e⟩ := h2
  exact h i j _ _ (zwd_get hi) (zwd_get hj) e
theorem vfitI {d n mc ms : Nat} (h : d ≤ 9) (hn : n ≤ 19) : (yrm d mc ms).frames + 1 ≤ room_1.frames ∧ 8 + (n + 11) + (yrm d mc ms).locals ≤ room_1.locals := by
  show d + 1 ≤ 14 ∧ 8 + (n + 11) + 38 * d ≤ 540
  omega
theorem whole_go {v : vCx} {adK adV : Nat → Nat} {fa : Option Nat} {b L a g : Nat} {xs : Nat → Int32} {p : Program} {e : Env} {s : State} {m : MethodId} {below : List Frame} {meth : Method} {c : Code} {H : Heap} {locs : List Loc} {ls : Array Slot} (hL : L ≤ 3072) (C0 : lw_At p s m meth c b L xs) (hE : yEnv (v.1, v.2.1, v.2.2.1, v.2.2.2.1) s) (hStr : zStrE (fun q => s.heap.size ≤ q) adK adV fa s) (hP : va_P v.2.1 vwCl (zwd (vC v) true z0 ++ zwd (vM v) false z0) H) (hD : va_D (fun q : Nat => s.heap.size ≤ q) (zwd (vC v) true z0 ++ zwd (vM v) false z0)) (hS : va_S (fun q : Nat => s.heap.size ≤ q) s.heap H locs) (hC0 : zad (vC v) 0 = a) (hM0 : zad (vM v) 0 = g) (hl : zlv ls 4 [(3, .int 0), (2, .ref g), (1, .ref a), (0, .ref b)]) (hv : v.2.2.2.2.2.2 = fun U => zStrE (zA (vC v) true) adK adV fa U) : W p v.1 e room_1 s m #[Value.ref b] below meth c H locs 49 777 (lw_Z below #[Value.ref b] s) (F0 m 18 ls []) := by
  obtain ⟨hP1, hP2⟩ := va_Psplit hP
  obtain ⟨hD1, hD2, hD3⟩ := va_Dsplit hD
  have hAC := zA_wd hD1
  have hAM := zA_wd hD2
  have h1 : zEnv (vC v) true s := ⟨hE.1, hE.2.1, hE.2.2.1, by show v.2.2.2.2.2.2 s; rw [hv]; exact zStrE_narrow hStr hAC, zinj_wd hD1, by show zStable (zA (vC v) true) v.2.2.2.2.2.2; rw [hv]; exact zStrE_stable⟩
  have h2 : zEnv (vM v) false s := ⟨hE.1, hE.2.1, hE.2.2.1, trivial, zinj_wd hD2, fun _ _ _ _ _ _ => trivial⟩
  have hF : vFx v b L xs p s m meth c := ⟨C0, h1, h2, hAC, hAM, zdis_wd hD3⟩
  have hx : zHS (vC v) adK adV fa := fun U h => by
    have h' : v.2.2.2.2.2.2 U := h
    rw [hv] at h'
    exact h'
  subst hC0
  subst hM0
  exact law_loop (v := v) (b := b) (L := L) (xs := xs) (nxt := fun z => z * 1664525 + 1013904223) (fun _ => rfl) hx hL (L + 1) 0 σ0 z0 z0 (Nat.zero_le _) (Nat.le_of_eq (Nat.zero_add _).symm) ws0 rep0C rep0M p e s m below meth c H locs ls hF hP1 hP2 hS hl
set_option maxHeartbeats 4000000 in
set_option maxRecDepth 100000 in
/-- YOUR PART: from the entry, for every script of at most 3072 ints, the law comes to its end with true -/
theorem whole_start {p : Program} {e : Env} {s : State} {m : MethodId} {below : List Frame} {meth : Method} {c : Code} (l : Launch) (hflags : l.flags = flags0) {b L : Nat} {xs : Nat → Int32} (hL : L ≤ 3072) (C0 : lw_At p s m meth c b L xs) : W p l e room_1 s m #[Value.ref b] below meth c s.heap [] 0 0 (lw_Z below #[Value.ref b] s) (entryFrame m ([Value.ref b] : List Value).toArray 4) := by
  obtain ⟨D, cI, cP, hE⟩ := st_env l C0
  obtain ⟨adK, adV, fa, hStr⟩ := st_str C0
  obtain ⟨hx, hb, hr, hml, hown, hts, hX, hbl, hlocks, hgv⟩ := id C0
  have ht : ∀ w ∈ wsL_law, w.before #[Value.ref b] s = true := fun w h => hE.2.1 w h _
  have hA : ∀ q : Nat, s.heap.size ≤ q → (fun q : Nat => s.heap.size ≤ q) q := fun _ h => h
  have hS : va_S (fun q : Nat => s.heap.size ≤ q) s.heap s.heap [] := va_S.rf
  have hP : va_P D vwCl [] s.heap := fun k q h => by simp at h
  have hD : va_D (fun q : Nat => s.heap.size ≤ q) [] := ⟨fun i j p q h => by simp at h, fun k q h => by simp at h⟩
  have hl := lv_entry ([.ref b]) (n := 4) (Nat.le_of_ble_eq_true rfl)
  rw [lg_entry_eq]
  generalize (lg_sl ([.ref b]) ++ List.replicate (4 - (lg_sl ([.ref b])).length) Slot.unset).toArray = ls at hl ⊢
  have hl : lv_has ls 4 [(0, .ref b)] := hl
  refine va_new (ci := 8) (fs := [.null, .null, .null, .null, .null, .null, .null, .null, .null, .int 0, .int 0]) (C := RX8) (T := TX8) (N := 11) (Ts := wsL_law) hx hb ht inlX8 tyX8 tyX8_ok hown (ht _ (List.mem_of_getElem? (i := 0) (by decide +kernel) : Cond.classLink RL 7 RX8 ∈ wsL_law)) (ht _ (List.mem_of_getElem? (i := 1) (by decide +kernel) : Cond.instantiable RX8 11 ∈ wsL_law)) (ht _ (List.mem_of_getElem? (i := 2) (by decide +kernel) : Cond.initialized RX8 ∈ wsL_law)) hE.1 hP hD hS hA rfl (fun j hj => by rcases (show j = 0 ∨ j = 1 ∨ j = 2 ∨ j = 3 ∨ j = 4 ∨ j = 5 ∨ j = 6 ∨ j = 7 ∨ j = 8 ∨ j = 9 ∨ j = 10 by omega) with rfl | rfl | rfl | rfl | rfl | rfl | rfl | rfl | rfl | rfl | rfl <;> rfl) (Nat.le_of_ble_eq_true rfl) (Nat.le_of_ble_eq_true rfl) dL_law_0 (fun a H hP hD hS => ?_)
  have hP : va_P D vwCl [(a, .inr (8, [.null, .null, .null, .null, .null, .null, .null, .null, .null, .int 0, .int 0]))] H := hP
  have hD : va_D (fun q : Nat => s.heap.size ≤ q) [(a, .inr (8, [.null, .null, .null, .null, .null, .null, .null, .null, .null, .int 0, .int 0]))] := hD
  refine lv_dup hx hb dL_law_3 rfl ?_
  have hPc := hP.sub (ws' := [(a, .inr (8, [.null, .null, .null, .null, .null, .null, .null, .null, .null, .int 0, .int 0]))]) [0] rfl
  have hDc := hD.sub (ws' := [(a, .inr (8, [.null, .null, .null, .null, .null, .null, .null, .null, .null, .int 0, .int 0]))]) [0] (by decide) rfl
  have hFc := va_free (wc := [(a, .inr (8, [.null, .null, .null, .null, .null, .null, .null, .null, .null, .int 0, .int 0]))]) hD hS hA [0] rfl
  refine va_callv (va_runI (As := []) (rest := [.ref a]) (nL := 4) ⟨hx, hb, hml, hown, ht⟩ ((c_X8_init (y := (l, D, cI, cP)) (a := a)) H.size) (cwI (ws' := []) 0 ht (goodIn_r _ [8] (by decide +kernel) (by decide +kernel)) rfl rfl rfl (ht _ (List.mem_of_getElem? (i := 2) (by decide +kernel) : Cond.initialized RX8 ∈ wsL_law)) (ht _ (List.mem_of_getElem? (i := 6) (by decide +kernel) : Cond.methodLink RL 9 yX8_init ∈ wsL_law)) (ht _ (List.mem_of_getElem? (i := 7) (by decide +kernel) : Cond.instanceMethod yX8_init ∈ wsL_law)) rfl (by decide +kernel) (vfitI (Nat.le_of_ble_eq_true rfl) (Nat.le_of_ble_eq_true rfl))) (yPre (y := (l, D, cI, cP)) hPc hDc hE) rfl rfl hl.1 rfl (lv_room (Nat.le_of_ble_eq_true rfl)) dL_law_4 ⟨Nat.le_of_ble_eq_true rfl, Nat.le_of_ble_eq_true rfl⟩) hS (fun q _ h => hFc q h) hFc (fun u t H1 locs ht1 hvm hw hB hz1 hk1 hS => ?_)
  obtain ⟨hP1, hD1⟩ := hB
  rw [ht1] at hP1
  obtain ⟨kr, p0, p1, p2, p3, p4, p5, t0, t00, t01, t02, t03, t04, t05, t06, t1, t10, t11, t12, t13, t14, t15, t16, t2, t20, t21, t22, t23, t24, t25, t26, te, te0, ar0, ar1, ar2, ar3, ar4, rfl⟩ := hw
  obtain ⟨hP, hD⟩ := va_join (wr := []) (w1 := exW (l, D, cI, cP) a kr p0 p1 p2 p3 p4 p5 t0 t00 t01 t02 t03 t04 t05 t06 t1 t10 t11 t12 t13 t14 t15 t16 t2 t20 t21 t22 t23 t24 t25 t26 te te0 ar0 ar1 ar2 ar3 ar4) hP hD [0] [] rfl rfl (by decide) (by decide) hk1 hFc hP1 hD1
  generalize H1 = H at hP hS ⊢
  have hP : va_P D vwCl (exW (l, D, cI, cP) a kr p0 p1 p2 p3 p4 p5 t0 t00 t01 t02 t03 t04 t05 t06 t1 t10 t11 t12 t13 t14 t15 t16 t2 t20 t21 t22 t23 t24 t25 t26 te te0 ar0 ar1 ar2 ar3 ar4) H := hP
  have hD : va_D (fun q : Nat => s.heap.size ≤ q) (exW (l, D, cI, cP) a kr p0 p1 p2 p3 p4 p5 t0 t00 t01 t02 t03 t04 t05 t06 t1 t10 t11 t12 t13 t14 t15 t16 t2 t20 t21 t22 t23 t24 t25 t26 te te0 ar0 ar1 ar2 ar3 ar4) := hD
  refine lv_astore_n (lv' := [(1, .ref a), (0, .ref b)]) hx hb dL_law_7 rfl hl (by decide) rfl (fun ls hl => ?_)
  refine va_new (ci := 9) (fs := [.null, .null, .null, .null, .null, .int 0, .null, .null, .null, .int 0, .int 0, .int 0, .null, .int 0]) (C := RX9) (T := TX9) (N := 14) (Ts := wsL_law) hx hb ht inlX9 tyX9 tyX9_ok hown (ht _ (List.mem_of_getElem? (i := 3) (by decide +kernel) : Cond.classLink RL 10 RX9 ∈ wsL_law)) (ht _ (List.mem_of_getElem? (i := 4) (by decide +kernel) : Cond.instantiable RX9 14 ∈ wsL_law)) (ht _ (List.mem_of_getElem? (i := 5) (by decide +kernel) : Cond.initialized RX9 ∈ wsL_law)) hE.1 hP hD hS hA rfl (fun j hj => by rcases (show j = 0 ∨ j = 1 ∨ j = 2 ∨ j = 3 ∨ j = 4 ∨ j = 5 ∨ j = 6 ∨ j = 7 ∨ j = 8 ∨ j = 9 ∨ j = 10 ∨ j = 11 ∨ j = 12 ∨ j = 13 by omega) with rfl | rfl | rfl | rfl | rfl | rfl | rfl | rfl | rfl | rfl | rfl | rfl | rfl | rfl <;> rfl) (Nat.le_of_ble_eq_true rfl) (Nat.le_of_ble_eq_true rfl) dL_law_8 (fun g H hP hD hS => ?_)
  refine lv_dup hx hb dL_law_11 rfl ?_
  have hPc := hP.sub (ws' := [(g, .inr (9, [.null, .null, .null, .null, .null, .int 0, .null, .null, .null, .int 0, .int 0, .int 0, .null, .int 0]))]) [39] rfl
  have hDc := hD.sub (ws' := [(g, .inr (9, [.null, .null, .null, .null, .null, .int 0, .null, .null, .null, .int 0, .int 0, .int 0, .null, .int 0]))]) [39] (by decide) rfl
  have hFc := va_free (wc := [(g, .inr (9, [.null, .null, .null, .null, .null, .int 0, .null, .null, .null, .int 0, .int 0, .int 0, .null, .int 0]))]) hD hS hA [39] rfl
  refine va_callv (va_runI (As := []) (rest := [.ref g]) (nL := 4) ⟨hx, hb, hml, hown, ht⟩ ((c_X9_init (y := (l, D, cI, cP)) (a := g)) H.size) (cwI (ws' := []) 0 ht (goodIn_r _ [83] (by decide +kernel) (by decide +kernel)) rfl rfl rfl (ht _ (List.mem_of_getElem? (i := 5) (by decide +kernel) : Cond.initialized RX9 ∈ wsL_law)) (ht _ (List.mem_of_getElem? (i := 81) (by decide +kernel) : Cond.methodLink RL 12 yX9_init ∈ wsL_law)) (ht _ (List.mem_of_getElem? (i := 82) (by decide +kernel) : Cond.instanceMethod yX9_init ∈ wsL_law)) rfl (by decide +kernel) (vfitI (Nat.le_of_ble_eq_true rfl) (Nat.le_of_ble_eq_true rfl))) (yPre (y := (l, D, cI, cP)) hPc hDc hE) rfl rfl hl.1 rfl (lv_room (Nat.le_of_ble_eq_true rfl)) dL_law_12 ⟨Nat.le_of_ble_eq_true rfl, Nat.le_of_ble_eq_true rfl⟩) hS (fun q _ h => hFc q h) hFc (fun u t H1 locs ht1 hvm hw hB hz1 hk1 hS => ?_)
  obtain ⟨hP1, hD1⟩ := hB
  rw [ht1] at hP1
  obtain ⟨q0, q1, q2, q3, q4, q5, q6, q7, q8, rfl⟩ := hw
  obtain ⟨hP, hD⟩ := va_join (wr := exW (l, D, cI, cP) a kr p0 p1 p2 p3 p4 p5 t0 t00 t01 t02 t03 t04 t05 t06 t1 t10 t11 t12 t13 t14 t15 t16 t2 t20 t21 t22 t23 t24 t25 t26 te te0 ar0 ar1 ar2 ar3 ar4) (w1 := moW (l, D, cI, cP) g q0 q1 q2 q3 q4 q5 q6 q7 q8) hP hD [39] [0, 1, 2, 3, 4, 5, 6, 7, 8, 9, 10, 11, 12, 13, 14, 15, 16, 17, 18, 19, 20, 21, 22, 23, 24, 25, 26, 27, 28, 29, 30, 31, 32, 33, 34, 35, 36, 37, 38] rfl rfl (by decide) (by decide) hk1 hFc hP1 hD1
  generalize H1 = H at hP hS ⊢
  refine lv_astore_n (lv' := [(2, .ref g), (1, .ref a), (0, .ref b)]) hx hb dL_law_15 rfl hl (by decide) rfl (fun ls hl => ?_)
  refine lv_iconst (v := 0) hx hb dL_law_16 (by decide) ?_
  refine lv_istore_n (lv' := [(3, .int 0), (2, .ref g), (1, .ref a), (0, .ref b)]) hx hb dL_law_17 rfl hl (by decide) rfl (fun ls hl => ?_)
  obtain ⟨adC, hC0, eC⟩ := exW_all (l := l) (D := D) (cI := cI) (cP := cP) (a := a) (kr := kr) (p0 := p0) (p1 := p1) (p2 := p2) (p3 := p3) (p4 := p4) (p5 := p5) (t0 := t0) (t00 := t00) (t01 := t01) (t02 := t02) (t03 := t03) (t04 := t04) (t05 := t05) (t06 := t06) (t1 := t1) (t10 := t10) (t11 := t11) (t12 := t12) (t13 := t13) (t14 := t14) (t15 := t15) (t16 := t16) (t2 := t2) (t20 := t20) (t21 := t21) (t22 := t22) (t23 := t23) (t24 := t24) (t25 := t25) (t26 := t26) (te := te) (te0 := te0) (ar0 := ar0) (ar1 := ar1) (ar2 := ar2) (ar3 := ar3) (ar4 := ar4) (fun _ => True)
  obtain ⟨adM, hM0, eM⟩ := moW_all (l := l) (D := D) (cI := cI) (cP := cP) (a := g) (q0 := q0) (q1 := q1) (q2 := q2) (q3 := q3) (q4 := q4) (q5 := q5) (q6 := q6) (q7 := q7) (q8 := q8) (fun _ => True)
  rw [eC, eM] at hP hD
  clear eC eM
  exact whole_go (v := (l, D, cI, cP, adC, adM, fun U => zStrE (fun q => ∃ k, k < 39 ∧ q = adC k) adK adV fa U)) hL C0 hE hStr hP hD hS hC0 hM0 (zlv_of hl) rfl
