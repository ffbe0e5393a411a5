/-! Kinds, and what a town's methods write; the month -/
section ROWS2
variable {x : zCx} {b : Bool} {M M' : zM} {post : Option Value → zSt → Prop} {pc idx n : Nat} {lv : List (Nat × Value)} {st as rest : List Value} {S : zSt}
theorem hw_min : GoodIn wsL_law [.methodLink RX8 255 Lib.Math.min.name, .static Lib.Math.min.name, .initialized "java/lang/Math", .code Lib.Math.min.name Lib.Math.min.code 2 (some .int)] := goodIn_r _ [377, 215, 212, 216] (by decide +kernel) (by decide +kernel)
theorem hw_max : GoodIn wsL_law [.methodLink RX8 263 Lib.Math.max.name, .static Lib.Math.max.name, .initialized "java/lang/Math", .code Lib.Math.max.name Lib.Math.max.code 2 (some .int)] := goodIn_r _ [378, 211, 212, 213] (by decide +kernel) (by decide +kernel)
theorem zmmin {u v : Int32} (hM : M.1.cls = RX8) (d : decode M.2.1 pc = .ok (.invokestatic 255, 3)) (hlev : 1 ≤ M.2.2.2.2) (hrest : (rest.map fun v => v.category).sum ≤ 20) (kk : zZ x b M post (pc + 3) lv (.int (if v < u then v else u) :: rest) S) : zZ x b M post pc lv (.int v :: .int u :: rest) S := by
  intro p e s m args below meth c H locs ls F hP hS hl
  have ht : ∀ w ∈ wsL_law, w.before args s = true := fun w h => F.2.2.2.2.2.2.2.1 w h _
  have g := fun w h => ht w (hw_min w h).1
  refine va_mmin F.1 F.2.1 (by rw [F.2.2.1]; exact hl.1.symm) F.2.2.2.1 (by rw [hM]; exact g _ (by simp)) (g _ (by simp)) (g _ (by simp)) (g _ (by simp)) hlev (by show _ + 13 ≤ 38 * M.2.2.2.2; omega) (Nat.le_refl 0) (Nat.le_refl 0) d (kk p e s m args below meth c H locs ls F hP hS hl)
theorem zmmax {u v : Int32} (hM : M.1.cls = RX8) (d : decode M.2.1 pc = .ok (.invokestatic 263, 3)) (hlev : 1 ≤ M.2.2.2.2) (hrest : (rest.map fun v => v.category).sum ≤ 20) (kk : zZ x b M post (pc + 3) lv (.int (if u < v then v else u) :: rest) S) : zZ x b M post pc lv (.int v :: .int u :: rest) S := by
  intro p e s m args below meth c H locs ls F hP hS hl
  have ht : ∀ w ∈ wsL_law, w.before args s = true := fun w h => F.2.2.2.2.2.2.2.1 w h _
  have g := fun w h => ht w (hw_max w h).1
  refine va_mmax F.1 F.2.1 (by rw [F.2.2.1]; exact hl.1.symm) F.2.2.2.1 (by rw [hM]; exact g _ (by simp)) (g _ (by simp)) (g _ (by simp)) (g _ (by simp)) hlev (by show _ + 13 ≤ 38 * M.2.2.2.2; omega) (Nat.le_refl 0) (Nat.le_refl 0) d (kk p e s m args below meth c H locs ls F hP hS hl)
/-- a method of one of the kinds, by the receiver's own class -/
theorem zcallO {post' : Option Value → zSt → Prop} {C : String} {x0 : MethodName} {k : Nat} {b0 : ByteArray} {m0 : Nat} {r0 : Option FieldType} (o : zOb b k C) (hC : zC x b M' (.ref (zad x k) :: as) S post') (d : decode M.2.1 pc = .ok (.invokevirtual idx, 3)) (hG : GoodIn wsL_law (va_wsO M.1.cls idx C RX5 x0 M'.1 [.code M'.1 M'.2.1 M'.2.2.1 M'.2.2.2.1])) (h0 : Cond.code ⟨RX5, x0.name, x0.desc⟩ b0 m0 r0 ∈ wsL_law) (hd : RX5 ≠ "java/lang/invoke/MethodHandle" ∧ RX5 ≠ "java/lang/invoke/VarHandle" ∧ (parseMethodDescriptor x0.desc).map (fun d => d.parameters.length) = some n) (hn : as.length = n) (hR : M'.2.2.2.2 < M.2.2.2.2) (hL : M'.2.2.1 ≤ 19) (hrest : (rest.map fun v => v.category).sum ≤ 8) (kk : ∀ r S', post' r S' → zZ x b M post (pc + 3) lv (r.toList ++ rest) S') (hst : st = as.reverse ++ .ref (zad x k) :: rest) : zZ x b M post pc lv st S := by
  subst hst
  obtain ⟨ok, ci, fs, T, Nf, ol, oc⟩ := o
  intro p e s m args below meth c H locs ls F hP hS hl
  have ht : ∀ w ∈ wsL_law, w.before args s = true := fun w h => F.2.2.2.2.2.2.2.1 w h _
  have hpre := zpre (as := .ref (zad x k) :: as) F.2.2.2.2.2.2 hP hS
  exact zrun (va_runU (nL := M.2.2.1) (rest := rest) ⟨F.1, F.2.1, F.2.2.1, F.2.2.2.1, ht⟩ hC (va_cwO n ht hG rfl rfl rfl h0 hd (zfit hR hL)) ⟨hpre.1, zrecv F.2.2.2.2.2.2 hP ok ol oc, hpre.2⟩ rfl hn hl.1 rfl (lv_room hrest) d ⟨Nat.le_refl 0, Nat.le_refl 0⟩) hS (fun r S' H1 locs1 hp hP1 hS1 => kk r S' hp p e s m args below meth c H1 locs1 ls F hP1 hS1 hl)
theorem ob_k0 : zOb true 2 RX5 := ⟨by decide, 5, _, TX5, 0, rfl, rfl⟩
theorem ob_k1 : zOb true 3 RX0 := ⟨by decide, 0, _, TX0, 0, rfl, rfl⟩
theorem ob_k2 : zOb true 4 RX4 := ⟨by decide, 4, _, TX4, 0, rfl, rfl⟩
theorem ob_k3 : zOb true 5 RX3 := ⟨by decide, 3, _, TX3, 0, rfl, rfl⟩
theorem ob_k4 : zOb true 6 RX1 := ⟨by decide, 1, _, TX1, 0, rfl, rfl⟩
theorem ob_k5 : zOb true 7 RX2 := ⟨by decide, 2, _, TX2, 0, rfl, rfl⟩
theorem kq {kd : Nat} (h : kd < 6) : ([2, 3, 4, 5, 6, 7] : List Nat)[kd]? = some (2 + kd) := by
  rcases (show kd = 0 ∨ kd = 1 ∨ kd = 2 ∨ kd = 3 ∨ kd = 4 ∨ kd = 5 by omega) with rfl | rfl | rfl | rfl | rfl | rfl <;> rfl
theorem zkind {kd : Nat} (d : decode M.2.1 pc = .ok (.aaload, 1)) (h : kd < 6) (kk : zZ x true M post (pc + 1) lv (.ref (zad x (2 + kd)) :: st) S) : zZ x true M post pc lv (.int (nI kd) :: .ref (zad x 1) :: st) S :=
  zaaload d (by decide) (show zlay true 1 = .inr (.inr [2, 3, 4, 5, 6, 7]) from rfl) (vp_in_nI h (by decide)) (by rw [nI_clamp (by omega)]; exact kq h) kk
theorem zklen (d : decode M.2.1 pc = .ok (.arraylength, 1)) (kk : zZ x true M post (pc + 1) lv (.int (nI 6) :: st) S) : zZ x true M post pc lv (.ref (zad x 1) :: st) S :=
  fun p e s m args below meth c H locs ls F hP hS hl => va_alen F.1 F.2.1 F.2.2.2.2.2.2.1 hP 1 1 (by rw [zwd_get (by decide), zcell_refs (show zlay true 1 = .inr (.inr [2, 3, 4, 5, 6, 7]) from rfl)]) rfl (v := nI 6) rfl d (kk p e s m args below meth c H locs ls F hP hS hl)
end ROWS2
section KINDS
variable {x : zCx} {S : zSt}

set_option maxRecDepth 100000 in
set_option maxHeartbeats 4000000 in
theorem c_X5_fameChange {a : Nat} {fg kn : Int32} : zF x true mX5_fameChange [.ref a, .int fg, .int kn] S (some (.int 1)) S := by
  refine zC_of (by decide +kernel) (Nat.le_of_ble_eq_true rfl) ?_
  refine ziconst (v := 1) dX5_fameChange_0 (by decide) ?_
  exact zireturn dX5_fameChange_1 rfl rfl ⟨rfl, rfl⟩
set_option maxRecDepth 100000 in
set_option maxHeartbeats 4000000 in
theorem c_X0_fameChange {a : Nat} {fg kn : Int32} : zF x true mX0_fameChange [.ref a, .int fg, .int kn] S (some (.int (-(fg / 3)))) S := by
  refine zC_of (by decide +kernel) (Nat.le_of_ble_eq_true rfl) ?_
  refine ziload_n dX0_fameChange_0 rfl ?_
  refine ziconst (v := 3) dX0_fameChange_1 (by decide) ?_
  refine zidiv dX0_fameChange_2 (by decide) ?_
  refine zineg dX0_fameChange_3 ?_
  exact zireturn dX0_fameChange_4 rfl rfl ⟨rfl, rfl⟩
set_option maxRecDepth 100000 in
set_option maxHeartbeats 4000000 in
theorem c_X4_fameChange {a : Nat} {fg kn : Int32} : zF x true mX4_fameChange [.ref a, .int fg, .int kn] S (some (.int (-2))) S := by
  refine zC_of (by decide +kernel) (Nat.le_of_ble_eq_true rfl) ?_
  refine zbipush (v := -2) dX4_fameChange_0 (by decide) ?_
  exact zireturn dX4_fameChange_2 rfl rfl ⟨rfl, rfl⟩
set_option maxRecDepth 100000 in
set_option maxHeartbeats 4000000 in
theorem c_X3_fameChange {a : Nat} {fg kn : Int32} : zF x true mX3_fameChange [.ref a, .int fg, .int kn] S (some (.int 0)) S := by
  refine zC_of (by decide +kernel) (Nat.le_of_ble_eq_true rfl) ?_
  refine ziconst (v := 0) dX3_fameChange_0 (by decide) ?_
  exact zireturn dX3_fameChange_1 rfl rfl ⟨rfl, rfl⟩
set_option maxRecDepth 100000 in
set_option maxHeartbeats 4000000 in
theorem c_X1_fameChange {a : Nat} {fg kn : Int32} : zF x true mX1_fameChange [.ref a, .int fg, .int kn] S (some (.int kn)) S := by
  refine zC_of (by decide +kernel) (Nat.le_of_ble_eq_true rfl) ?_
  refine ziload_n dX1_fameChange_0 rfl ?_
  exact zireturn dX1_fameChange_1 rfl rfl ⟨rfl, rfl⟩
set_option maxRecDepth 100000 in
set_option maxHeartbeats 4000000 in
theorem c_X5_scarsMore {a : Nat} {fg : Int32} : zF x true mX5_scarsMore [.ref a, .int fg] S (some (.int 0)) S := by
  refine zC_of (by decide +kernel) (Nat.le_of_ble_eq_true rfl) ?_
  refine ziconst (v := 0) dX5_scarsMore_0 (by decide) ?_
  exact zireturn dX5_scarsMore_1 rfl rfl ⟨rfl, rfl⟩
set_option maxRecDepth 100000 in
set_option maxHeartbeats 4000000 in
theorem c_X4_scarsMore {a : Nat} {fg : Int32} : zF x true mX4_scarsMore [.ref a, .int fg] S (some (.int 1)) S := by
  refine zC_of (by decide +kernel) (Nat.le_of_ble_eq_true rfl) ?_
  refine ziconst (v := 1) dX4_scarsMore_0 (by decide) ?_
  exact zireturn dX4_scarsMore_1 rfl rfl ⟨rfl, rfl⟩
set_option maxRecDepth 100000 in
set_option maxHeartbeats 4000000 in
theorem c_X1_scarsMore {a : Nat} {fg : Int32} : zF x true mX1_scarsMore [.ref a, .int fg] S (some (.int (if 5 < fg then 1 else 0))) S := by
  refine zC_of (by decide +kernel) (Nat.le_of_ble_eq_true rfl) ?_
  refine ziload_n dX1_scarsMore_0 rfl ?_
  refine ziconst (v := 5) dX1_scarsMore_1 (by decide) ?_
  refine zicmp_le (tgt := 9) dX1_scarsMore_2 (by decide) (fun h2 => ?_) (fun h2 => ?_)
  · refine ziconst (v := 0) dX1_scarsMore_9 (by decide) ?_
    exact zireturn dX1_scarsMore_10 rfl rfl ⟨congrArg (fun q => some (Value.int q)) (by simp; first | exact Int32.not_le.mp h2 | exact h2), rfl⟩
  · refine ziconst (v := 1) dX1_scarsMore_5 (by decide) ?_
    refine zgoto (tgt := 10) dX1_scarsMore_6 (by decide) ?_
    exact zireturn dX1_scarsMore_10 rfl rfl ⟨congrArg (fun q => some (Value.int q)) (by simp; first | exact Int32.not_le.mp h2 | exact h2), rfl⟩
theorem g_super : GoodIn wsL_law (va_wsSU RX2 7 yX1_fameChange [.code yX1_fameChange cX1_fameChange 3 (some .int)]) := goodIn_r _ [363, 364, 365, 358, 26, 359] (by decide +kernel) (by decide +kernel)

set_option maxRecDepth 100000 in
set_option maxHeartbeats 4000000 in
theorem c_X2_fameChange {fg kn : Int32} : zF x true mX2_fameChange [.ref (zad x 7), .int fg, .int kn] S (some (.int (kn - 2))) S := by
  refine zC_of (by decide +kernel) (Nat.le_of_ble_eq_true rfl) ?_
  refine zaload_n dX2_fameChange_0 rfl ?_
  refine ziload_n dX2_fameChange_1 rfl ?_
  refine ziload_n dX2_fameChange_2 rfl ?_
  have key : zZ x true mX2_fameChange (fun q T => q = some (.int (kn - 2)) ∧ T = S) 6 (lv_args 0 [.ref (zad x 7), .int fg, .int kn]) [.int kn] S := by
    refine ziconst (v := 2) dX2_fameChange_6 (by decide) ?_
    refine zisub dX2_fameChange_7 ?_
    exact zireturn dX2_fameChange_8 rfl rfl ⟨rfl, rfl⟩
  intro p e s m args below meth c H locs ls F hP hS hl
  have ht : ∀ w ∈ wsL_law, w.before args s = true := fun w h => F.2.2.2.2.2.2.2.1 w h _
  have hpre := zpre (as := [.ref (zad x 7), .int fg, .int kn]) F.2.2.2.2.2.2 hP hS
  exact zrun (va_runSU (C := RX2) (As := [.int fg, .int kn]) (rest := []) (F.2.2.2.2.2.2.1.1 2 _ rfl).2 ⟨F.1, F.2.1, F.2.2.1, F.2.2.2.1, ht⟩ (c_X1_fameChange (x := x) (S := S) (a := zad x 7) (fg := fg) (kn := kn)) (va_cwSU 2 ht g_super rfl rfl rfl (by decide +kernel) (zfit (by decide) (by decide))) ⟨hpre.1, zrecv F.2.2.2.2.2.2 hP (k := 7) (by decide) (show zlay true 7 = .inr (.inl (2, [])) from rfl) rfl, hpre.2⟩ rfl rfl hl.1 rfl (lv_room (Nat.le_of_ble_eq_true rfl)) dX2_fameChange_3 ⟨Nat.le_refl 0, Nat.le_refl 0⟩) hS (fun r S' H1 locs1 hp hP1 hS1 => by obtain ⟨rfl, rfl⟩ := hp; exact key p e s m args below meth c H1 locs1 ls F hP1 hS1 hl)

theorem g_fameChange_0 : GoodIn wsL_law (va_wsO RX7 62 RX5 RX5 ⟨"EachLendsHisFace$Person", "fameChange", "(II)I"⟩ yX5_fameChange [.code yX5_fameChange cX5_fameChange 3 (some .int)]) := goodIn_r _ [350, 351, 352, 374, 373, 14, 356] (by decide +kernel) (by decide +kernel)
theorem g_fameChange_1 : GoodIn wsL_law (va_wsO RX7 62 RX0 RX5 ⟨"EachLendsHisFace$Person", "fameChange", "(II)I"⟩ yX0_fameChange [.code yX0_fameChange cX0_fameChange 3 (some .int)]) := goodIn_r _ [350, 351, 352, 353, 354, 17, 355] (by decide +kernel) (by decide +kernel)
theorem g_fameChange_2 : GoodIn wsL_law (va_wsO RX7 62 RX4 RX5 ⟨"EachLendsHisFace$Person", "fameChange", "(II)I"⟩ yX4_fameChange [.code yX4_fameChange cX4_fameChange 3 (some .int)]) := goodIn_r _ [350, 351, 352, 369, 370, 20, 371] (by decide +kernel) (by decide +kernel)
theorem g_fameChange_3 : GoodIn wsL_law (va_wsO RX7 62 RX3 RX5 ⟨"EachLendsHisFace$Person", "fameChange", "(II)I"⟩ yX3_fameChange [.code yX3_fameChange cX3_fameChange 3 (some .int)]) := goodIn_r _ [350, 351, 352, 366, 367, 23, 368] (by decide +kernel) (by decide +kernel)
theorem g_fameChange_4 : GoodIn wsL_law (va_wsO RX7 62 RX1 RX5 ⟨"EachLendsHisFace$Person", "fameChange", "(II)I"⟩ yX1_fameChange [.code yX1_fameChange cX1_fameChange 3 (some .int)]) := goodIn_r _ [350, 351, 352, 357, 358, 26, 359] (by decide +kernel) (by decide +kernel)
theorem g_fameChange_5 : GoodIn wsL_law (va_wsO RX7 62 RX2 RX5 ⟨"EachLendsHisFace$Person", "fameChange", "(II)I"⟩ yX2_fameChange [.code yX2_fameChange cX2_fameChange 3 (some .int)]) := goodIn_r _ [350, 351, 352, 360, 361, 29, 362] (by decide +kernel) (by decide +kernel)
theorem g_scarsMore_0 : GoodIn wsL_law (va_wsO RX7 81 RX5 RX5 ⟨"EachLendsHisFace$Person", "scarsMore", "(I)I"⟩ yX5_scarsMore [.code yX5_scarsMore cX5_scarsMore 2 (some .int)]) := goodIn_r _ [379, 380, 384, 394, 382, 14, 383] (by decide +kernel) (by decide +kernel)
theorem g_scarsMore_1 : GoodIn wsL_law (va_wsO RX7 81 RX0 RX5 ⟨"EachLendsHisFace$Person", "scarsMore", "(I)I"⟩ yX5_scarsMore [.code yX5_scarsMore cX5_scarsMore 2 (some .int)]) := goodIn_r _ [379, 380, 384, 381, 382, 14, 383] (by decide +kernel) (by decide +kernel)
theorem g_scarsMore_2 : GoodIn wsL_law (va_wsO RX7 81 RX4 RX5 ⟨"EachLendsHisFace$Person", "scarsMore", "(I)I"⟩ yX4_scarsMore [.code yX4_scarsMore cX4_scarsMore 2 (some .int)]) := goodIn_r _ [379, 380, 384, 390, 391, 20, 392] (by decide +kernel) (by decide +kernel)
theorem g_scarsMore_3 : GoodIn wsL_law (va_wsO RX7 81 RX3 RX5 ⟨"EachLendsHisFace$Person", "scarsMore", "(I)I"⟩ yX5_scarsMore [.code yX5_scarsMore cX5_scarsMore 2 (some .int)]) := goodIn_r _ [379, 380, 384, 389, 382, 14, 383] (by decide +kernel) (by decide +kernel)
theorem g_scarsMore_4 : GoodIn wsL_law (va_wsO RX7 81 RX1 RX5 ⟨"EachLendsHisFace$Person", "scarsMore", "(I)I"⟩ yX1_scarsMore [.code yX1_scarsMore cX1_scarsMore 2 (some .int)]) := goodIn_r _ [379, 380, 384, 385, 386, 26, 387] (by decide +kernel) (by decide +kernel)
theorem g_scarsMore_5 : GoodIn wsL_law (va_wsO RX7 81 RX2 RX5 ⟨"EachLendsHisFace$Person", "scarsMore", "(I)I"⟩ yX1_scarsMore [.code yX1_scarsMore cX1_scarsMore 2 (some .int)]) := goodIn_r _ [379, 380, 384, 388, 386, 26, 387] (by decide +kernel) (by decide +kernel)
end KINDS
section POLY
variable {x : zCx} {M : zM} {post : Option Value → zSt → Prop} {pc : Nat} {lv : List (Nat × Value)} {rest : List Value} {S : zSt}

set_option maxRecDepth 100000 in
set_option maxHeartbeats 4000000 in
theorem z_fameChange {kd : Nat} {fg kn : Int32} (hM : M.1.cls = RX7) (h : kd < 6) (d : decode M.2.1 pc = .ok (.invokevirtual 62, 3)) (hR : 1 < M.2.2.2.2) (hrest : (rest.map fun v => v.category).sum ≤ 8) (kk : zZ x true M post (pc + 3) lv (.int (fch (nI kd) fg kn) :: rest) S) : zZ x true M post pc lv (.int kn :: .int fg :: .ref (zad x (2 + kd)) :: rest) S := by
  have h0 : Cond.code ⟨RX5, "fameChange", yX5_fameChange.desc⟩ cX5_fameChange 3 (some .int) ∈ wsL_law := List.mem_of_getElem? (i := 356) (by decide +kernel)
  rcases (show kd = 0 ∨ kd = 1 ∨ kd = 2 ∨ kd = 3 ∨ kd = 4 ∨ kd = 5 by omega) with rfl | rfl | rfl | rfl | rfl | rfl
  · exact zcallO (M' := mX5_fameChange) (n := 2) ob_k0 (c_X5_fameChange) d (by rw [hM]; exact g_fameChange_0) h0 (by decide +kernel) rfl (Nat.lt_of_le_of_lt (by decide) hR) (by decide) hrest (fun r T hp => by obtain ⟨rfl, rfl⟩ := hp; exact kk) rfl
  · exact zcallO (M' := mX0_fameChange) (n := 2) ob_k1 (c_X0_fameChange) d (by rw [hM]; exact g_fameChange_1) h0 (by decide +kernel) rfl (Nat.lt_of_le_of_lt (by decide) hR) (by decide) hrest (fun r T hp => by obtain ⟨rfl, rfl⟩ := hp; exact kk) rfl
  · exact zcallO (M' := mX4_fameChange) (n := 2) ob_k2 (c_X4_fameChange) d (by rw [hM]; exact g_fameChange_2) h0 (by decide +kernel) rfl (Nat.lt_of_le_of_lt (by decide) hR) (by decide) hrest (fun r T hp => by obtain ⟨rfl, rfl⟩ := hp; exact kk) rfl
  · exact zcallO (M' := mX3_fameChange) (n := 2) ob_k3 (c_X3_fameChange) d (by rw [hM]; exact g_fameChange_3) h0 (by decide +kernel) rfl (Nat.lt_of_le_of_lt (by decide) hR) (by decide) hrest (fun r T hp => by obtain ⟨rfl, rfl⟩ := hp; exact kk) rfl
  · exact zcallO (M' := mX1_fameChange) (n := 2) ob_k4 (c_X1_fameChange) d (by rw [hM]; exact g_fameChange_4) h0 (by decide +kernel) rfl (Nat.lt_of_le_of_lt (by decide) hR) (by decide) hrest (fun r T hp => by obtain ⟨rfl, rfl⟩ := hp; exact kk) rfl
  · exact zcallO (M' := mX2_fameChange) (n := 2) ob_k5 (c_X2_fameChange) d (by rw [hM]; exact g_fameChange_5) h0 (by decide +kernel) rfl (Nat.lt_of_le_of_lt (by decide) hR) (by decide) hrest (fun r T hp => by obtain ⟨rfl, rfl⟩ := hp; exact kk) rfl
set_option maxRecDepth 100000 in
set_option maxHeartbeats 4000000 in
theorem z_scarsMore {kd : Nat} {fg : Int32} (hM : M.1.cls = RX7) (h : kd < 6) (d : decode M.2.1 pc = .ok (.invokevirtual 81, 3)) (hR : 1 < M.2.2.2.2) (hrest : (rest.map fun v => v.category).sum ≤ 8) (kk : zZ x true M post (pc + 3) lv (.int (sch (nI kd) fg) :: rest) S) : zZ x true M post pc lv (.int fg :: .ref (zad x (2 + kd)) :: rest) S := by
  have h0 : Cond.code ⟨RX5, "scarsMore", yX5_scarsMore.desc⟩ cX5_scarsMore 2 (some .int) ∈ wsL_law := List.mem_of_getElem? (i := 383) (by decide +kernel)
  rcases (show kd = 0 ∨ kd = 1 ∨ kd = 2 ∨ kd = 3 ∨ kd = 4 ∨ kd = 5 by omega) with rfl | rfl | rfl | rfl | rfl | rfl
  · exact zcallO (M' := mX5_scarsMore) (n := 1) ob_k0 (c_X5_scarsMore) d (by rw [hM]; exact g_scarsMore_0) h0 (by decide +kernel) rfl (Nat.lt_of_le_of_lt (by decide) hR) (by decide) hrest (fun r T hp => by obtain ⟨rfl, rfl⟩ := hp; exact kk) rfl
  · exact zcallO (M' := mX5_scarsMore) (n := 1) ob_k1 (c_X5_scarsMore) d (by rw [hM]; exact g_scarsMore_1) h0 (by decide +kernel) rfl (Nat.lt_of_le_of_lt (by decide) hR) (by decide) hrest (fun r T hp => by obtain ⟨rfl, rfl⟩ := hp; exact kk) rfl
  · exact zcallO (M' := mX4_scarsMore) (n := 1) ob_k2 (c_X4_scarsMore) d (by rw [hM]; exact g_scarsMore_2) h0 (by decide +kernel) rfl (Nat.lt_of_le_of_lt (by decide) hR) (by decide) hrest (fun r T hp => by obtain ⟨rfl, rfl⟩ := hp; exact kk) rfl
  · exact zcallO (M' := mX5_scarsMore) (n := 1) ob_k3 (c_X5_scarsMore) d (by rw [hM]; exact g_scarsMore_3) h0 (by decide +kernel) rfl (Nat.lt_of_le_of_lt (by decide) hR) (by decide) hrest (fun r T hp => by obtain ⟨rfl, rfl⟩ := hp; exact kk) rfl
  · exact zcallO (M' := mX1_scarsMore) (n := 1) ob_k4 (c_X1_scarsMore) d (by rw [hM]; exact g_scarsMore_4) h0 (by decide +kernel) rfl (Nat.lt_of_le_of_lt (by decide) hR) (by decide) hrest (fun r T hp => by obtain ⟨rfl, rfl⟩ := hp; exact kk) rfl
  · exact zcallO (M' := mX1_scarsMore) (n := 1) ob_k5 (c_X1_scarsMore) d (by rw [hM]; exact g_scarsMore_5) h0 (by decide +kernel) rfl (Nat.lt_of_le_of_lt (by decide) hR) (by decide) hrest (fun r T hp => by obtain ⟨rfl, rfl⟩ := hp; exact kk) rfl
end POLY
section TOWN2
variable {x : zCx} {S : zSt} {t n : Nat} {T : Nat → Nat → Int32}
theorem held_eq (v : Int32) : (if (0 : Int32) < (if v < 99 then v else 99) then (if v < 99 then v else 99) else 0) = held v := by
  unfold held
  by_cases h1 : v < 0
  · have h2 : v < 99 := by rw [Int32.lt_iff_toInt_lt] at *; have : (99 : Int32).toInt = 99 := rfl; have : (0 : Int32).toInt = 0 := rfl; omega
    have h3 : ¬ (0 : Int32) < v := by rw [Int32.lt_iff_toInt_lt] at *; omega
    simp [h1, h2, h3]
  · by_cases h2 : v < 99
    · have h4 : ¬ (99 : Int32) < v := by rw [Int32.lt_iff_toInt_lt] at *; omega
      by_cases h3 : (0 : Int32) < v
      · simp [h1, h2, h3, h4]
      · have : v = 0 := by
          rw [Int32.lt_iff_toInt_lt] at *
          have : (0 : Int32).toInt = 0 := rfl
          exact Int32.toInt_inj.mp (by omega)
        subst this; decide
    · by_cases h4 : (99 : Int32) < v
      · simp [h1, h2, h4]
      · have : v = 99 := by
          rw [Int32.lt_iff_toInt_lt] at *
          exact Int32.toInt_inj.mp (by omega)
        subst this; decide

set_option maxRecDepth 100000 in
set_option maxHeartbeats 4000000 in
theorem c_X8_withinMarks {v : Int32} : zF x true mX8_withinMarks [.int v] S (some (.int (held v))) S := by
  refine zC_of (by decide +kernel) (Nat.le_of_ble_eq_true rfl) ?_
  refine ziconst (v := 0) dX8_withinMarks_0 (by decide) ?_
  refine zbipush (v := 99) dX8_withinMarks_1 (by decide) ?_
  refine ziload_n dX8_withinMarks_3 rfl ?_
  refine zmmin rfl dX8_withinMarks_4 (by decide) (Nat.le_of_ble_eq_true rfl) ?_
  refine zmmax rfl dX8_withinMarks_7 (by decide) (Nat.le_of_ble_eq_true rfl) ?_
  rw [held_eq]
  exact zireturn dX8_withinMarks_10 rfl rfl ⟨rfl, rfl⟩
theorem isT_put {w p : Nat} {v : Int32} (hT : isT S t n T) : isT (u2 S.1 (tp t + w) p v, S.2) t n (u2 T w p v) := by
  refine ⟨hT.1, hT.2.1, fun w' p' h0 hw hp => ?_⟩
  show u2 S.1 (tp t + w) p v (tp t + w') p' = u2 T w p v w' p'
  unfold u2
  by_cases e : w' = w ∧ p' = p
  · rw [if_pos e, if_pos ⟨by omega, e.2⟩]
  · rw [if_neg e, if_neg (fun q => e ⟨by omega, q.2⟩)]
    exact hT.2.2 w' p' h0 hw hp
theorem tp_apart {t t' w w' : Nat} (h : ¬ t = t') (hw : w < 8) (hw' : w' < 8) : ¬ tp t + w = tp t' + w' := by
  unfold tp; omega
theorem isT_other {t' w p : Nat} {v : Int32} (hT : isT S t' n T) (hne : ¬ t = t') (hw : w < 8) : isT (u2 S.1 (tp t + w) p v, S.2) t' n T := by
  refine ⟨hT.1, hT.2.1, fun w' p' h0 hw' hp => ?_⟩
  show u2 S.1 (tp t + w) p v (tp t' + w') p' = _
  unfold u2
  rw [if_neg (fun q => tp_apart hne hw hw' q.1.symm)]
  exact hT.2.2 w' p' h0 hw' hp
theorem isT_eq {T' : Nat → Nat → Int32} (hT : isT S t n T) (h : ∀ w p, p < n → T w p = T' w p) : isT S t n T' := ⟨hT.1, hT.2.1, fun w p h0 hw hp => by rw [hT.2.2 w p h0 hw hp, h w p hp]⟩
/-- all else is as it was -/
def frT (t : Nat) (S S' : zSt) : Prop := (∀ k, (k ≤ tp t ∨ tp t + 8 ≤ k) → S'.1 k = S.1 k) ∧ ∀ k, ¬ k = tp t → S'.2 k = S.2 k
theorem frT.rf : frT t S S := ⟨fun _ _ => rfl, fun _ _ => rfl⟩
theorem frT.trans {S1 S2 S3 : zSt} (h : frT t S1 S2) (h' : frT t S2 S3) : frT t S1 S3 := ⟨fun k hk => (h'.1 k hk).trans (h.1 k hk), fun k hk => (h'.2 k hk).trans (h.2 k hk)⟩
theorem frT.put {w p : Nat} {v : Int32} {S0 : zSt} (h : frT t S0 S) (h0 : 0 < w) (hw : w < 8) : frT t S0 (u2 S.1 (tp t + w) p v, S.2) := by
  refine ⟨fun k hk => ?_, h.2⟩
  rw [← h.1 k hk]
  funext j
  show u2 S.1 (tp t + w) p v k j = S.1 k j
  unfold u2
  rw [if_neg (by omega)]
theorem frT.fld {j : Nat} {v : Int32} {S0 : zSt} (h : frT t S0 S) : frT t S0 (S.1, u2 S.2 (tp t) j v) := by
  refine ⟨h.1, fun k hk => ?_⟩
  rw [← h.2 k hk]
  funext i
  show u2 S.2 (tp t) j v k i = S.2 k i
  unfold u2
  rw [if_neg (fun q => hk q.1)]
theorem isT_frT {t' : Nat} {S' : zSt} (hT : isT S t' n T) (hne : ¬ t = t') (h : frT t S S') : isT S' t' n T := by
  refine ⟨by rw [h.2 (tp t') (fun q => hne (by unfold tp at q; omega))]; exact hT.1, hT.2.1, fun w p h0 hw hp => ?_⟩
  rw [h.1 (tp t' + w) (by unfold tp; omega)]
  exact hT.2.2 w p h0 hw hp
/-- lending, and what the class does in a month, on the picture -/
def handT (T : Nat → Nat → Int32) (a c : Nat) : Nat → Nat → Int32 := u2 (u2 (u2 T 4 a 9) 4 c (nI a)) 7 a 1
def backT (n : Nat) (T : Nat → Nat → Int32) (f : Nat) : Nat → Nat → Int32 := u2 (u2 (if wF (T 4) (nI f) n 0 = -9 then T else u2 T 4 (wF (T 4) (nI f) n 0).toNatClampNeg (wF (T 4) (nI f) n 0)) 4 f (nI f)) 7 f 0
def wear1 (n : Nat) (T : Nat → Nat → Int32) (p : Nat) : Nat → Nat → Int32 :=
  if T 4 p = 9 then T else u2 (u2 T 5 (T 4 p).toNatClampNeg (held (T 5 (T 4 p).toNatClampNeg + fch (T 1 p) (T 2 p) (knowers n T (T 4 p))))) 6 (T 4 p).toNatClampNeg (held (T 6 (T 4 p).toNatClampNeg + sch (T 1 p) (T 2 p)))
def lend1 (n : Nat) (T : Nat → Nat → Int32) (f : Nat) : Nat → Nat → Int32 := if 12 ≤ T 7 f then backT n T f else if 0 < T 7 f then u2 T 7 f (T 7 f + 1) else T
def wearF (n : Nat) : Nat → Nat → (Nat → Nat → Int32) → (Nat → Nat → Int32)
  | 0, _, T => T
  | k + 1, i, T => wearF n k (i + 1) (wear1 n T i)
def lendF (n : Nat) : Nat → Nat → (Nat → Nat → Int32) → (Nat → Nat → Int32)
  | 0, _, T => T
  | k + 1, i, T => lendF n k (i + 1) (lend1 n T i)
def monthT (n : Nat) (T : Nat → Nat → Int32) : Nat → Nat → Int32 := lendF n n 0 (wearF n n 0 T)
def monthsT (n : Nat) : Nat → (Nat → Nat → Int32) → (Nat → Nat → Int32)
  | 0, T => T
  | k + 1, T => monthsT n k (monthT n T)
/-- numbers that can be used as places -/
def VW (n : Nat) (T : Nat → Nat → Int32) : Prop := ∀ p, p < n → (T 4 p = 9 ∨ ∃ q, q < n ∧ T 4 p = nI q) ∧ ∃ k, k < 6 ∧ T 1 p = nI k
theorem wF_cases (W : Nat → Int32) (f : Int32) : ∀ (k i : Nat), wF W f k i = -9 ∨ ∃ q, i ≤ q ∧ q < i + k ∧ wF W f k i = nI q ∧ W q = f := by
  intro k
  induction k with
  | zero => intro i; exact Or.inl rfl
  | succ k ih =>
    intro i
    unfold wF
    by_cases h : W i = f
    · rw [if_pos h]
      exact Or.inr ⟨i, Nat.le_refl i, by omega, rfl, h⟩
    · rw [if_neg h]
      rcases ih (i + 1) with h1 | ⟨q, h1, h2, h3, h4⟩
      · exact Or.inl h1
      · exact Or.inr ⟨q, by omega, by omega, h3, h4⟩
theorem nI_ne9 {q : Nat} (h : q < 8) : ¬ nI q = 9 := by
  rw [show (9 : Int32) = nI 9 from rfl, nI_eq (by omega) (by omega)]; omega
theorem nI_neN {q : Nat} (h : q < 2 ^ 31) : ¬ nI q = -9 := by
  intro e
  have := nI_pos' h
  rw [e] at this
  exact absurd this (by decide)
theorem u2_ne {T : Nat → Nat → Int32} {a c w p : Nat} {v : Int32} (h : ¬ (w = a ∧ p = c)) : u2 T a c v w p = T w p := by unfold u2; rw [if_neg h]
theorem u2_self {T : Nat → Nat → Int32} {a c : Nat} {v : Int32} : u2 T a c v a c = v := by unfold u2; rw [if_pos ⟨rfl, rfl⟩]
theorem u2_w {T : Nat → Nat → Int32} {a c w p : Nat} {v : Int32} (h : ¬ w = a) : u2 T a c v w p = T w p := u2_ne (fun q => h q.1)
theorem wear1_w {w p q : Nat} (h5 : ¬ w = 5) (h6 : ¬ w = 6) : wear1 n T p w q = T w q := by
  unfold wear1
  split
  · rfl
  · rw [u2_w h6, u2_w h5]
theorem VW.wear1 {p : Nat} (h : VW n T) : VW n (wear1 n T p) := by
  intro q hq
  rw [wear1_w (by decide) (by decide), wear1_w (by decide) (by decide)]
  exact h q hq
theorem backT_1 {f q : Nat} : backT n T f 1 q = T 1 q := by
  unfold backT
  rw [u2_w (by decide), u2_w (by decide)]
  split
  · rfl
  · rw [u2_w (by decide)]
theorem VW.back {f : Nat} (hn : n ≤ 8) (h : VW n T) (hf : f < n) : VW n (backT n T f) := by
  intro q hq
  refine ⟨?_, by rw [backT_1]; exact (h q hq).2⟩
  unfold backT
  rw [u2_w (by decide)]
  by_cases e : q = f
  · subst e; rw [u2_self]; exact Or.inr ⟨q, hq, rfl⟩
  · rw [u2_ne (fun z => e z.2)]
    rcases wF_cases (T 4) (nI f) n 0 with h1 | ⟨r, -, h2, h3, -⟩
    · rw [if_pos h1]; exact (h q hq).1
    · rw [if_neg (by rw [h3]; exact nI_neN (by omega)), h3, nI_clamp (by omega)]
      by_cases e2 : q = r
      · subst e2; rw [u2_self]; exact Or.inr ⟨q, hq, rfl⟩
      · rw [u2_ne (fun z => e2 z.2)]; exact (h q hq).1
theorem VW_lend1 {f : Nat} (hn : n ≤ 8) (h : VW n T) (hf : f < n) : VW n (lend1 n T f) := by
  unfold lend1
  split
  · exact h.back hn hf
  · split
    · intro q hq
      rw [u2_w (by decide), u2_w (by decide)]
      exact h q hq
    · exact h

set_option maxRecDepth 100000 in
set_option maxHeartbeats 4000000 in
theorem c_X7_handOver (ht : t < 3) (hT : isT S t n T) {p q : Nat} (hp : p < n) (hq : q < n) : zF x true mX7_handOver [.ref (zad x (tp t)), .int (nI p), .int (nI q)] S none (u2 (u2 (u2 S.1 (tp t + 4) p 9) (tp t + 4) q (nI p)) (tp t + 7) p 1, S.2) := by
  have hn8 := hT.2.1
  refine zC_of (by decide +kernel) (Nat.le_of_ble_eq_true rfl) ?_
  refine zaload_n dX7_handOver_0 rfl ?_
  refine gf_X7_25 (t := t) ht rfl dX7_handOver_1 ?_
  refine ziload_n dX7_handOver_4 rfl ?_
  refine zbipush (v := 9) dX7_handOver_5 (by decide) ?_
  refine ziast dX7_handOver_7 (tpk ht (by decide)) (tpa ht (by decide) (by decide)) (by decide) (by omega) ?_
  refine zaload_n dX7_handOver_8 rfl ?_
  refine gf_X7_25 (t := t) ht rfl dX7_handOver_9 ?_
  refine ziload_n dX7_handOver_12 rfl ?_
  refine ziload_n dX7_handOver_13 rfl ?_
  refine ziast dX7_handOver_14 (tpk ht (by decide)) (tpa ht (by decide) (by decide)) (by decide) (by omega) ?_
  refine zaload_n dX7_handOver_15 rfl ?_
  refine gf_X7_34 (t := t) ht rfl dX7_handOver_16 ?_
  refine ziload_n dX7_handOver_19 rfl ?_
  refine ziconst (v := 1) dX7_handOver_20 (by decide) ?_
  refine ziast dX7_handOver_21 (tpk ht (by decide)) (tpa ht (by decide) (by decide)) (by decide) (by omega) ?_
  exact zreturn dX7_handOver_22 rfl ⟨rfl, rfl⟩
theorem isT_hand {p q : Nat} (hT : isT S t n T) : isT (u2 (u2 (u2 S.1 (tp t + 4) p 9) (tp t + 4) q (nI p)) (tp t + 7) p 1, S.2) t n (handT T p q) :=
  isT_put (S := (u2 (u2 S.1 (tp t + 4) p 9) (tp t + 4) q (nI p), S.2)) (isT_put (S := (u2 S.1 (tp t + 4) p 9, S.2)) (isT_put hT))
theorem fr_hand {p q : Nat} {S0 : zSt} (h : frT t S0 S) : frT t S0 (u2 (u2 (u2 S.1 (tp t + 4) p 9) (tp t + 4) q (nI p)) (tp t + 7) p 1, S.2) :=
  frT.put (S := (u2 (u2 S.1 (tp t + 4) p 9) (tp t + 4) q (nI p), S.2)) (frT.put (S := (u2 S.1 (tp t + 4) p 9, S.2)) (frT.put h (by decide) (by decide)) (by decide) (by decide)) (by decide) (by decide)
set_option maxRecDepth 100000 in
set_option maxHeartbeats 4000000 in
theorem c_X7_turnKnowing (ht : t < 3) (hT : isT S t n T) {p : Nat} {f : Int32} (hp : p < n) : zF x true mX7_turnKnowing [.ref (zad x (tp t)), .int (nI p), .int f] S none (u2 S.1 (tp t + 3) p (T 3 p ^^^ (1 <<< (f &&& 31))), S.2) := by
  have hn8 := hT.2.1
  refine zC_of (by decide +kernel) (Nat.le_of_ble_eq_true rfl) ?_
  refine zaload_n dX7_turnKnowing_0 rfl ?_
  refine gf_X7_22 (t := t) ht rfl dX7_turnKnowing_1 ?_
  refine ziload_n dX7_turnKnowing_4 rfl ?_
  refine zdup2_11 dX7_turnKnowing_5 rfl rfl ?_
  refine ziald dX7_turnKnowing_6 (tpk ht (by decide)) (tpa ht (by decide) (by decide)) (by decide) (by omega) ?_
  rw [hT.2.2 3 p (by decide) (by decide) hp]
  refine ziconst (v := 1) dX7_turnKnowing_7 (by decide) ?_
  refine ziload_n dX7_turnKnowing_8 rfl ?_
  refine zishl dX7_turnKnowing_9 ?_
  refine zixor dX7_turnKnowing_10 ?_
  refine ziast dX7_turnKnowing_11 (tpk ht (by decide)) (tpa ht (by decide) (by decide)) (by decide) (by omega) ?_
  exact zreturn dX7_turnKnowing_12 rfl ⟨rfl, rfl⟩
set_option maxRecDepth 100000 in
set_option maxHeartbeats 4000000 in
theorem c_X7_bringBack (ht : t < 3) (hT : isT S t n T) {f : Nat} (hf : f < n) : zR x true mX7_bringBack [.ref (zad x (tp t)), .int (nI f)] S (fun r S' => r = wF (T 4) (nI f) n 0 ∧ isT S' t n (backT n T f) ∧ S'.2 = S.2 ∧ frT t S S') := by
  have hn8 := hT.2.1
  refine zC_of (by decide +kernel) (Nat.le_of_ble_eq_true rfl) ?_
  rcases wF_cases (T 4) (nI f) n 0 with h1 | ⟨r, -, h2, h3, -⟩
  · refine zaload_n dX7_bringBack_0 rfl ?_
    refine ziload_n dX7_bringBack_1 rfl ?_
    refine zcVf (ob_town (t := t) ht) gk_X7_48 dX7_bringBack_2 (c_X7_wearerOf ht hT _) rfl (by decide) (Nat.le_of_ble_eq_true rfl) ?_ rfl
    rw [h1]
    refine zistore_n dX7_bringBack_5 (by decide) rfl ?_
    refine ziload_n dX7_bringBack_6 rfl ?_
    refine zbipush (v := -9) dX7_bringBack_7 (by decide) ?_
    refine zicmp_eq (tgt := 19) dX7_bringBack_9 (by decide) (fun _ => ?_) (fun h => absurd rfl h)
    refine zaload_n dX7_bringBack_19 rfl ?_
    refine gf_X7_25 (t := t) ht rfl dX7_bringBack_20 ?_
    refine ziload_n dX7_bringBack_23 rfl ?_
    refine ziload_n dX7_bringBack_24 rfl ?_
    refine ziast dX7_bringBack_25 (tpk ht (by decide)) (tpa ht (by decide) (by decide)) (by decide) (by omega) ?_
    refine zaload_n dX7_bringBack_26 rfl ?_
    refine gf_X7_34 (t := t) ht rfl dX7_bringBack_27 ?_
    refine ziload_n dX7_bringBack_30 rfl ?_
    refine ziconst (v := 0) dX7_bringBack_31 (by decide) ?_
    refine ziast dX7_bringBack_32 (tpk ht (by decide)) (tpa ht (by decide) (by decide)) (by decide) (by omega) ?_
    refine ziload_n dX7_bringBack_33 rfl ?_
    exact zireturn dX7_bringBack_34 rfl rfl ⟨_, rfl, rfl, by unfold backT; rw [if_pos h1]; exact isT_put (S := (u2 S.1 (tp t + 4) f (nI f), S.2)) (isT_put hT), rfl, frT.put (S := (u2 S.1 (tp t + 4) f (nI f), S.2)) (frT.put frT.rf (by decide) (by decide)) (by decide) (by decide)⟩
  · refine zaload_n dX7_bringBack_0 rfl ?_
    refine ziload_n dX7_bringBack_1 rfl ?_
    refine zcVf (ob_town (t := t) ht) gk_X7_48 dX7_bringBack_2 (c_X7_wearerOf ht hT _) rfl (by decide) (Nat.le_of_ble_eq_true rfl) ?_ rfl
    rw [h3]
    refine zistore_n dX7_bringBack_5 (by decide) rfl ?_
    refine ziload_n dX7_bringBack_6 rfl ?_
    refine zbipush (v := -9) dX7_bringBack_7 (by decide) ?_
    refine zicmp_eq (tgt := 19) dX7_bringBack_9 (by decide) (fun h => absurd h (nI_neN (by omega))) (fun _ => ?_)
    refine zaload_n dX7_bringBack_12 rfl ?_
    refine gf_X7_25 (t := t) ht rfl dX7_bringBack_13 ?_
    refine ziload_n dX7_bringBack_16 rfl ?_
    refine ziload_n dX7_bringBack_17 rfl ?_
    refine ziast dX7_bringBack_18 (tpk ht (by decide)) (tpa ht (by decide) (by decide)) (by decide) (by omega) ?_
    refine zaload_n dX7_bringBack_19 rfl ?_
    refine gf_X7_25 (t := t) ht rfl dX7_bringBack_20 ?_
    refine ziload_n dX7_bringBack_23 rfl ?_
    refine ziload_n dX7_bringBack_24 rfl ?_
    refine ziast dX7_bringBack_25 (tpk ht (by decide)) (tpa ht (by decide) (by decide)) (by decide) (by omega) ?_
    refine zaload_n dX7_bringBack_26 rfl ?_
    refine gf_X7_34 (t := t) ht rfl dX7_bringBack_27 ?_
    refine ziload_n dX7_bringBack_30 rfl ?_
    refine ziconst (v := 0) dX7_bringBack_31 (by decide) ?_
    refine ziast dX7_bringBack_32 (tpk ht (by decide)) (tpa ht (by decide) (by decide)) (by decide) (by omega) ?_
    refine ziload_n dX7_bringBack_33 rfl ?_
    exact zireturn dX7_bringBack_34 rfl rfl ⟨_, rfl, rfl, by unfold backT; rw [if_neg (by rw [h3]; exact nI_neN (by omega)), h3, nI_clamp (by omega)]; exact isT_put (S := (u2 (u2 S.1 (tp t + 4) r (nI r)) (tp t + 4) f (nI f), S.2)) (isT_put (S := (u2 S.1 (tp t + 4) r (nI r), S.2)) (isT_put hT)), rfl, frT.put (S := (u2 (u2 S.1 (tp t + 4) r (nI r)) (tp t + 4) f (nI f), S.2)) (frT.put (S := (u2 S.1 (tp t + 4) r (nI r), S.2)) (frT.put frT.rf (by decide) (by decide)) (by decide) (by decide)) (by decide) (by decide)⟩
end TOWN2
