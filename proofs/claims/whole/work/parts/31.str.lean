/-! The texts of the telling: six constants, and the JDK's methods on them -/
section STR
variable {x : zCx} {M M' : zM} {post : Option Value → zSt → Prop} {pc idx n : Nat} {lv : List (Nat × Value)} {st as rest : List Value} {S S' : zSt} {v : Value} {adK adV : Nat → Nat} {fa : Option Nat}
def sLen : List Nat := [0, 6, 3, 2, 3, 4]
def sByt : List (List Int32) := [[], [112, 98, 109, 107, 100, 103], [107, 48, 59], [48, 59], [48, 48, 59], [48, 48, 48, 59]]
def zStrE (A : Nat → Prop) (adK adV : Nat → Nat) (fa : Option Nat) (U : State) : Prop :=
  vk_S 6 sLen sByt adK adV A U U.heap ∧ (vk_R RX6 36 "" (adK 0) U ∧ vk_R RX6 62 "pbmkdg" (adK 1) U ∧ vk_R RX6 50 "k0;" (adK 2) U ∧ vk_R RX6 52 "0;" (adK 3) U ∧ vk_R RX6 54 "00;" (adK 4) U ∧ vk_R RX6 56 "000;" (adK 5) U) ∧ va_Z "java/lang/String" "COMPACT_STRINGS" "Z" (.int 1) A U U.heap ∧ va_Z "jdk/internal/util/Preconditions" "SIOOBE_FORMATTER" "Ljava/util/function/BiFunction;" (va_rf fa) A U U.heap
theorem zStrE_stable {A : Nat → Prop} : zStable A (zStrE A adK adV fa) := by
  intro U V hz hk hW h
  obtain ⟨h1, ⟨r0, r1, r2, r3, r4, r5⟩, h3, h4⟩ := h
  exact ⟨(h1.kept hk).moved hW.alike, ⟨r0.warm hW, r1.warm hW, r2.warm hW, r3.warm hW, r4.warm hW, r5.warm hW⟩, (h3.kept hk).moved hW.alike, (h4.kept hk).moved hW.alike⟩
def zHS (x : zCx) (adK adV : Nat → Nat) (fa : Option Nat) : Prop := ∀ U, x.2.2.2.2.2 U → zStrE (zA x true) adK adV fa U
theorem zldcS {tx : String} {q : Nat} (hx : zHS x adK adV fa) (hR : ∀ U, zStrE (zA x true) adK adV fa U → vk_R M.1.cls idx tx q U) (d : decode M.2.1 pc = .ok (.ldc idx, 2)) (kk : zZ x true M post (pc + 2) lv (.ref q :: st) S) : zZ x true M post pc lv st S :=
  fun p e s m args below meth c H locs ls F hP hS hl => va_ldcS F.1 F.2.1 F.2.2.2.1 (hR s (hx s F.2.2.2.2.2.2.2.2.2.1)) d (kk p e s m args below meth c H locs ls F hP hS hl)
theorem zvalS {i : Nat} (hx : zHS x adK adV fa) (hi : i < 6) (hM : M.1.cls = RJ0) (d : decode M.2.1 pc = .ok (.getfield 9, 3)) (kk : zZ x true M post (pc + 3) lv (.ref (adV i) :: st) S) : zZ x true M post pc lv (.ref (adK i) :: st) S :=
  fun p e s m args below meth c H locs ls F hP hS hl => vk_getf F.1 F.2.1 ((hx s F.2.2.2.2.2.2.2.2.2.1).1.1 i hi).2.2.1 hS F.2.2.2.1 (by rw [hM]; exact F.2.2.2.2.2.2.2.1 _ (List.mem_of_getElem? (i := 148) (by decide +kernel) : Cond.fieldLink RJ0 9 "java/lang/String" "value" "[B" ∈ wsL_law) _) (fun _ h => h) d (kk p e s m args below meth c H locs ls F hP hS hl)
theorem zcodS {i : Nat} (hx : zHS x adK adV fa) (hi : i < 6) (hM : M.1.cls = RJ0) (d : decode M.2.1 pc = .ok (.getfield 15, 3)) (kk : zZ x true M post (pc + 3) lv (.int 0 :: st) S) : zZ x true M post pc lv (.ref (adK i) :: st) S :=
  fun p e s m args below meth c H locs ls F hP hS hl => vk_getf F.1 F.2.1 ((hx s F.2.2.2.2.2.2.2.2.2.1).1.1 i hi).2.1 hS F.2.2.2.1 (by rw [hM]; exact F.2.2.2.2.2.2.2.1 _ (List.mem_of_getElem? (i := 154) (by decide +kernel) : Cond.fieldLink RJ0 15 "java/lang/String" "coder" "B" ∈ wsL_law) _) (fun _ h => h) d (kk p e s m args below meth c H locs ls F hP hS hl)
theorem zcmpS (hx : zHS x adK adV fa) (hM : M.1.cls = RJ0) (d : decode M.2.1 pc = .ok (.getstatic 38, 3)) (kk : zZ x true M post (pc + 3) lv (.int 1 :: st) S) : zZ x true M post pc lv st S :=
  fun p e s m args below meth c H locs ls F hP hS hl => va_gets F.1 F.2.1 (hx s F.2.2.2.2.2.2.2.2.2.1).2.2.1 hS F.2.2.2.1 (by rw [hM]; exact F.2.2.2.2.2.2.2.1 _ (List.mem_of_getElem? (i := 153) (by decide +kernel) : Cond.fieldLink RJ0 38 "java/lang/String" "COMPACT_STRINGS" "Z" ∈ wsL_law) _) (fun _ h => h) d (kk p e s m args below meth c H locs ls F hP hS hl)
theorem zfmtS (hx : zHS x adK adV fa) (hM : M.1.cls = RJ0) (d : decode M.2.1 pc = .ok (.getstatic 1053, 3)) (kk : zZ x true M post (pc + 3) lv (va_rf fa :: st) S) : zZ x true M post pc lv st S :=
  fun p e s m args below meth c H locs ls F hP hS hl => va_gets F.1 F.2.1 (hx s F.2.2.2.2.2.2.2.2.2.1).2.2.2 hS F.2.2.2.1 (by rw [hM]; exact F.2.2.2.2.2.2.2.1 _ (List.mem_of_getElem? (i := 170) (by decide +kernel) : Cond.fieldLink RJ0 1053 "jdk/internal/util/Preconditions" "SIOOBE_FORMATTER" "Ljava/util/function/BiFunction;" ∈ wsL_law) _) (fun _ h => h) d (kk p e s m args below meth c H locs ls F hP hS hl)
theorem zlenS {i : Nat} (hx : zHS x adK adV fa) (hi : i < 6) (d : decode M.2.1 pc = .ok (.arraylength, 1)) (kk : zZ x true M post (pc + 1) lv (.int (nI (sLen.getD i 0)) :: st) S) : zZ x true M post pc lv (.ref (adV i) :: st) S :=
  fun p e s m args below meth c H locs ls F hP hS hl => va_tlen F.1 F.2.1 ((hx s F.2.2.2.2.2.2.2.2.2.1).1.1 i hi).2.2.2 hS rfl d (kk p e s m args below meth c H locs ls F hP hS hl)
theorem zbytS {i k : Nat} (hx : zHS x adK adV fa) (hi : i < 6) (hk : k < sLen.getD i 0) (hk2 : k < 100) (d : decode M.2.1 pc = .ok (.baload, 1)) (kk : zZ x true M post (pc + 1) lv (.int ((sByt.getD i []).getD k 0) :: st) S) : zZ x true M post pc lv (.int (nI k) :: .ref (adV i) :: st) S :=
  fun p e s m args below meth c H locs ls F hP hS hl => va_tb F.1 F.2.1 ((hx s F.2.2.2.2.2.2.2.2.2.1).1.1 i hi).2.2.2 hS (fun q => by rcases q with q | q; exact nI_pos (by omega) q; rw [nI_clamp (by omega)] at q; omega) (by rw [nI_clamp (by omega)]) d (kk p e s m args below meth c H locs ls F hP hS hl)
theorem zi2b {u : Int32} (d : decode M.2.1 pc = .ok (.i2b, 1)) (kk : zZ x true M post (pc + 1) lv (.int u.toInt8.toInt32 :: st) S) : zZ x true M post pc lv (.int u :: st) S :=
  fun p e s m args below meth c H locs ls F hP hS hl => lv_i2b F.1 F.2.1 d rfl (kk p e s m args below meth c H locs ls F hP hS hl)
theorem zareturn {q : Nat} {C : String} (d : decode M.2.1 pc = .ok (.areturn, 1)) (hr : M.2.2.2.1 = some (.object C)) (hp : post (some (.ref q)) S) : zZ x true M post pc lv [.ref q] S :=
  fun p e s m args below meth c H locs ls F hP hS hl => W.aret F.1 F.2.1 (F.2.2.2.2.1.trans hr) (Or.inl ⟨_, rfl⟩) (Or.inr ⟨_, rfl⟩) (fun t ht _ => zQ_of hP hS hp ht) hS.2.2 d F.2.2.2.2.2.1
theorem zcT {post' : Option Value → zSt → Prop} {i : Nat} (hx : zHS x adK adV fa) (hi : i < 6) (g : zLkV M.1.cls idx M' n) (hcl : M'.1.cls = "java/lang/String") (d : decode M.2.1 pc = .ok (.invokevirtual idx, 3)) (hC : zC x true M' (.ref (adK i) :: as) S post') (hn : as.length = n) (hR : M'.2.2.2.2 < M.2.2.2.2) (hrest : (rest.map fun v => v.category).sum ≤ 8) (kk : ∀ r S', post' r S' → zZ x true M post (pc + 3) lv (r.toList ++ rest) S') (hst : st = as.reverse ++ .ref (adK i) :: rest) : zZ x true M post pc lv st S := by
  subst hst
  intro p e s m args below meth c H locs ls F hP hS hl
  have ht : ∀ w ∈ wsL_law, w.before args s = true := fun w h => F.2.2.2.2.2.2.2.1 w h _
  have hpre := zpre (as := .ref (adK i) :: as) F.2.2.2.2.2.2 hP hS
  have hrec := vk_recv (hx s F.2.2.2.2.2.2.2.2.2.1).1 hi hS
  rw [← hcl] at hrec
  exact zrun (va_runV (nL := M.2.2.1) (rest := rest) ⟨F.1, F.2.1, F.2.2.1, F.2.2.2.1, ht⟩ hC (cwV n ht g.1 rfl rfl rfl ⟨rfl, g.2.1⟩ (zfit hR g.2.2)) ⟨hpre.1, hrec, hpre.2⟩ rfl hn hl.1 rfl (lv_room hrest) d ⟨Nat.le_refl 0, Nat.le_refl 0⟩) hS (fun r S' H1 locs1 hp hP1 hS1 => kk r S' hp p e s m args below meth c H1 locs1 ls F hP1 hS1 hl)
theorem zcTf {i : Nat} (hx : zHS x adK adV fa) (hi : i < 6) (g : zLkV M.1.cls idx M' n) (hcl : M'.1.cls = "java/lang/String") (d : decode M.2.1 pc = .ok (.invokevirtual idx, 3)) (hC : zF x true M' (.ref (adK i) :: as) S (some v) S') (hn : as.length = n) (hR : M'.2.2.2.2 < M.2.2.2.2) (hrest : (rest.map fun v => v.category).sum ≤ 8) (kk : zZ x true M post (pc + 3) lv (v :: rest) S') (hst : st = as.reverse ++ .ref (adK i) :: rest) : zZ x true M post pc lv st S :=
  zcT hx hi g hcl d hC hn hR hrest (fun r T h => by rw [h.1, h.2]; exact kk) hst
theorem hw_min1 : GoodIn wsL_law [.methodLink RJ1 38 Lib.Math.min.name, .static Lib.Math.min.name, .initialized "java/lang/Math", .code Lib.Math.min.name Lib.Math.min.code 2 (some .int)] := goodIn_r _ [214, 215, 212, 216] (by decide +kernel) (by decide +kernel)
theorem hw_max1 : GoodIn wsL_law [.methodLink RJ1 92 Lib.Math.max.name, .static Lib.Math.max.name, .initialized "java/lang/Math", .code Lib.Math.max.name Lib.Math.max.code 2 (some .int)] := goodIn_r _ [210, 211, 212, 213] (by decide +kernel) (by decide +kernel)
theorem zmmin1 {u v : Int32} (hM : M.1.cls = RJ1) (d : decode M.2.1 pc = .ok (.invokestatic 38, 3)) (hlev : 1 ≤ M.2.2.2.2) (hrest : (rest.map fun v => v.category).sum ≤ 20) (kk : zZ x true M post (pc + 3) lv (.int (if v < u then v else u) :: rest) S) : zZ x true M post pc lv (.int v :: .int u :: rest) S := by
  intro p e s m args below meth c H locs ls F hP hS hl
  have ht : ∀ w ∈ wsL_law, w.before args s = true := fun w h => F.2.2.2.2.2.2.2.1 w h _
  have g := fun w h => ht w (hw_min1 w h).1
  refine va_mmin F.1 F.2.1 (by rw [F.2.2.1]; exact hl.1.symm) F.2.2.2.1 (by rw [hM]; exact g _ (by simp)) (g _ (by simp)) (g _ (by simp)) (g _ (by simp)) hlev (by show _ + 13 ≤ 38 * M.2.2.2.2; omega) (Nat.le_refl 0) (Nat.le_refl 0) d (kk p e s m args below meth c H locs ls F hP hS hl)
theorem zmmax1 {u v : Int32} (hM : M.1.cls = RJ1) (d : decode M.2.1 pc = .ok (.invokestatic 92, 3)) (hlev : 1 ≤ M.2.2.2.2) (hrest : (rest.map fun v => v.category).sum ≤ 20) (kk : zZ x true M post (pc + 3) lv (.int (if u < v then v else u) :: rest) S) : zZ x true M post pc lv (.int v :: .int u :: rest) S := by
  intro p e s m args below meth c H locs ls F hP hS hl
  have ht : ∀ w ∈ wsL_law, w.before args s = true := fun w h => F.2.2.2.2.2.2.2.1 w h _
  have g := fun w h => ht w (hw_max1 w h).1
  refine va_mmax F.1 F.2.1 (by rw [F.2.2.1]; exact hl.1.symm) F.2.2.2.1 (by rw [hM]; exact g _ (by simp)) (g _ (by simp)) (g _ (by simp)) (g _ (by simp)) hlev (by show _ + 13 ≤ 38 * M.2.2.2.2; omega) (Nat.le_refl 0) (Nat.le_refl 0) d (kk p e s m args below meth c H locs ls F hP hS hl)

def mJ0_coder : zM := (yJ0_coder_7d493, cJ0_coder_7d493, 1, (some .byte), 0)
def mJ0_length : zM := (yJ0_length_8abf5, cJ0_length_8abf5, 1, (some .int), 1)
def mJ0_isEmpty : zM := (yJ0_isEmpty_aae02, cJ0_isEmpty_aae02, 1, (some .boolean), 0)
def mJ0_isLatin1 : zM := (yJ0_isLatin1_aae02, cJ0_isLatin1_aae02, 1, (some .boolean), 0)
def mJ3_checkIndex : zM := (yJ3_checkIndex_8e157, cJ3_checkIndex_8e157, 3, (some .int), 0)
def mJ0_checkIndex : zM := (yJ0_checkIndex_df160, cJ0_checkIndex_df160, 2, none, 1)
def mJ1_charAt : zM := (yJ1_charAt_3b067, cJ1_charAt_3b067, 2, (some .char), 2)
def mJ0_charAt : zM := (yJ0_charAt_5068e, cJ0_charAt_5068e, 2, (some .char), 3)
def mJ1_canEncode : zM := (yJ1_canEncode_9a6ad, cJ1_canEncode_9a6ad, 1, (some .boolean), 0)
def mJ1_indexOfChar : zM := (yJ1_indexOfChar_4cfef, cJ1_indexOfChar_4cfef, 6, (some .int), 0)
def mJ1_indexOf : zM := (yJ1_indexOf_4cfef, cJ1_indexOf_4cfef, 4, (some .int), 1)
def mJ0_indexOf2 : zM := (yJ0_indexOf_7cf53, cJ0_indexOf_7cf53, 3, (some .int), 2)
def mJ0_indexOf1 : zM := (yJ0_indexOf_0f7a4, cJ0_indexOf_0f7a4, 2, (some .int), 3)
theorem gj_len : zLkV RX6 31 mJ0_length 0 := ⟨goodIn_r _ [143, 144, 145, 146, 147] (by decide +kernel) (by decide +kernel), by unfold zNm; decide +kernel⟩
theorem gj_len2 : zLkV RJ0 505 mJ0_length 0 := ⟨goodIn_r _ [206, 144, 145, 146, 147] (by decide +kernel) (by decide +kernel), by unfold zNm; decide +kernel⟩
theorem gj_coder : zLkV RJ0 335 mJ0_coder 0 := ⟨goodIn_r _ [149, 150, 151, 146, 152] (by decide +kernel) (by decide +kernel), by unfold zNm; decide +kernel⟩
theorem gj_charAt : zLkV RX6 38 mJ0_charAt 1 := ⟨goodIn_r _ [155, 156, 157, 146, 158] (by decide +kernel) (by decide +kernel), by unfold zNm; decide +kernel⟩
theorem gj_lat : zLkV RJ0 492 mJ0_isLatin1 0 := ⟨goodIn_r _ [159, 160, 161, 146, 162] (by decide +kernel) (by decide +kernel), by unfold zNm; decide +kernel⟩
theorem gj_ch1 : zLkS RJ0 495 mJ1_charAt 2 := ⟨goodIn_r _ [163, 164, 165, 166] (by decide +kernel) (by decide +kernel), by unfold zNm; decide +kernel⟩
theorem gj_ci0 : zLkS RJ1 9 mJ0_checkIndex 2 := ⟨goodIn_r _ [167, 168, 146, 169] (by decide +kernel) (by decide +kernel), by unfold zNm; decide +kernel⟩
theorem gj_ci3 : zLkS RJ0 1059 mJ3_checkIndex 3 := ⟨goodIn_r _ [171, 172, 173, 174] (by decide +kernel) (by decide +kernel), by unfold zNm; decide +kernel⟩
theorem gj_ix1 : zLkV RX6 64 mJ0_indexOf1 1 := ⟨goodIn_r _ [198, 199, 200, 146, 201] (by decide +kernel) (by decide +kernel), by unfold zNm; decide +kernel⟩
theorem gj_ix2 : zLkV RJ0 633 mJ0_indexOf2 2 := ⟨goodIn_r _ [202, 203, 204, 146, 205] (by decide +kernel) (by decide +kernel), by unfold zNm; decide +kernel⟩
theorem gj_ixl : zLkS RJ0 637 mJ1_indexOf 4 := ⟨goodIn_r _ [207, 208, 165, 209] (by decide +kernel) (by decide +kernel), by unfold zNm; decide +kernel⟩
theorem gj_can : zLkS RJ1 88 mJ1_canEncode 1 := ⟨goodIn_r _ [217, 218, 165, 219] (by decide +kernel) (by decide +kernel), by unfold zNm; decide +kernel⟩
theorem gj_ixc : zLkS RJ1 95 mJ1_indexOfChar 4 := ⟨goodIn_r _ [220, 221, 165, 222] (by decide +kernel) (by decide +kernel), by unfold zNm; decide +kernel⟩
theorem gj_emp : zLkV RX6 46 mJ0_isEmpty 0 := ⟨goodIn_r _ [262, 263, 264, 146, 265] (by decide +kernel) (by decide +kernel), by unfold zNm; decide +kernel⟩
theorem c_coder {i : Nat} (hx : zHS x adK adV fa) (hi : i < 6) : zF x true mJ0_coder [.ref (adK i)] S (some (.int 0)) S := by
  refine zC_of (by decide +kernel) (Nat.le_of_ble_eq_true rfl) ?_
  refine zcmpS hx rfl dJ0_coder_7d493_0 ?_
  refine zif_eq (tgt := 13) dJ0_coder_7d493_3 (by decide) (fun h => absurd h (by decide)) (fun _ => ?_)
  refine zaload_n dJ0_coder_7d493_6 rfl ?_
  refine zcodS hx hi rfl dJ0_coder_7d493_7 ?_
  refine zgoto (tgt := 14) dJ0_coder_7d493_10 (by decide) ?_
  exact zireturn dJ0_coder_7d493_14 rfl (by decide) ⟨rfl, rfl⟩
theorem sShr : ∀ i, i < 6 → nI (sLen.getD i 0) >>> ((0 : Int32) &&& 31) = nI (sLen.getD i 0) := by decide +kernel
theorem c_length {i : Nat} (hx : zHS x adK adV fa) (hi : i < 6) : zF x true mJ0_length [.ref (adK i)] S (some (.int (nI (sLen.getD i 0)))) S := by
  refine zC_of (by decide +kernel) (Nat.le_of_ble_eq_true rfl) ?_
  refine zaload_n dJ0_length_8abf5_0 rfl ?_
  refine zvalS hx hi rfl dJ0_length_8abf5_1 ?_
  refine zlenS hx hi dJ0_length_8abf5_4 ?_
  refine zaload_n dJ0_length_8abf5_5 rfl ?_
  refine zcTf hx hi gj_coder rfl dJ0_length_8abf5_6 (c_coder hx hi) rfl (by decide) (Nat.le_of_ble_eq_true rfl) ?_ rfl
  refine zishr dJ0_length_8abf5_9 ?_
  exact zireturn dJ0_length_8abf5_10 rfl rfl ⟨by rw [sShr i hi], rfl⟩
theorem c_isEmpty {i : Nat} (hx : zHS x adK adV fa) (hi : i < 6) : zF x true mJ0_isEmpty [.ref (adK i)] S (some (.int (bI (decide (sLen.getD i 0 = 0))))) S := by
  refine zC_of (by decide +kernel) (Nat.le_of_ble_eq_true rfl) ?_
  have hl : ∀ i, i < 6 → sLen.getD i 0 < 100 := by decide +kernel
  have hl := hl i hi
  refine zaload_n dJ0_isEmpty_aae02_0 rfl ?_
  refine zvalS hx hi rfl dJ0_isEmpty_aae02_1 ?_
  refine zlenS hx hi dJ0_isEmpty_aae02_4 ?_
  by_cases h0 : sLen.getD i 0 = 0
  · rw [decide_eq_true h0]
    refine zif_ne (tgt := 12) dJ0_isEmpty_aae02_5 (by decide) (fun h => absurd (by rw [h0]; rfl) h) (fun _ => ?_)
    refine ziconst (v := 1) dJ0_isEmpty_aae02_8 (by decide) ?_
    refine zgoto (tgt := 13) dJ0_isEmpty_aae02_9 (by decide) ?_
    exact zbret (q := true) dJ0_isEmpty_aae02_13 rfl rfl ⟨rfl, rfl⟩
  · rw [decide_eq_false h0]
    refine zif_ne (tgt := 12) dJ0_isEmpty_aae02_5 (by decide) (fun _ => ?_) (fun h => absurd h (nI_ne0 (by omega) (by omega)))
    refine ziconst (v := 0) dJ0_isEmpty_aae02_12 (by decide) ?_
    exact zbret (q := false) dJ0_isEmpty_aae02_13 rfl rfl ⟨rfl, rfl⟩
theorem c_isLatin1 {i : Nat} (hx : zHS x adK adV fa) (hi : i < 6) : zF x true mJ0_isLatin1 [.ref (adK i)] S (some (.int (bI true))) S := by
  refine zC_of (by decide +kernel) (Nat.le_of_ble_eq_true rfl) ?_
  refine zcmpS hx rfl dJ0_isLatin1_aae02_0 ?_
  refine zif_eq (tgt := 17) dJ0_isLatin1_aae02_3 (by decide) (fun h => absurd h (by decide)) (fun _ => ?_)
  refine zaload_n dJ0_isLatin1_aae02_6 rfl ?_
  refine zcodS hx hi rfl dJ0_isLatin1_aae02_7 ?_
  refine zif_ne (tgt := 17) dJ0_isLatin1_aae02_10 (by decide) (fun h => absurd rfl h) (fun _ => ?_)
  refine ziconst (v := 1) dJ0_isLatin1_aae02_13 (by decide) ?_
  refine zgoto (tgt := 18) dJ0_isLatin1_aae02_14 (by decide) ?_
  exact zbret (q := true) dJ0_isLatin1_aae02_18 rfl rfl ⟨rfl, rfl⟩
theorem c_ci3 {k l : Nat} (hk : k < l) (hl : l < 100) : zF x true mJ3_checkIndex [.int (nI k), .int (nI l), va_rf fa] S (some (.int (nI k))) S := by
  cases fa with
  | none =>
    refine zC_of (by decide +kernel) (Nat.le_of_ble_eq_true rfl) ?_
    refine ziload_n dJ3_checkIndex_8e157_0 rfl ?_
    refine zif_lt (tgt := 9) dJ3_checkIndex_8e157_1 (by decide) (fun h => absurd h (nI_pos (by omega))) (fun _ => ?_)
    refine ziload_n dJ3_checkIndex_8e157_4 rfl ?_
    refine ziload_n dJ3_checkIndex_8e157_5 rfl ?_
    refine zicmp_lt (tgt := 16) dJ3_checkIndex_8e157_6 (by decide) (fun _ => ?_) (fun h => absurd (nI_lt hk (by omega)) h)
    refine ziload_n dJ3_checkIndex_8e157_16 rfl ?_
    exact zireturn dJ3_checkIndex_8e157_17 rfl rfl ⟨rfl, rfl⟩
  | some fq =>
    refine zC_of (by decide +kernel) (Nat.le_of_ble_eq_true rfl) ?_
    refine ziload_n dJ3_checkIndex_8e157_0 rfl ?_
    refine zif_lt (tgt := 9) dJ3_checkIndex_8e157_1 (by decide) (fun h => absurd h (nI_pos (by omega))) (fun _ => ?_)
    refine ziload_n dJ3_checkIndex_8e157_4 rfl ?_
    refine ziload_n dJ3_checkIndex_8e157_5 rfl ?_
    refine zicmp_lt (tgt := 16) dJ3_checkIndex_8e157_6 (by decide) (fun _ => ?_) (fun h => absurd (nI_lt hk (by omega)) h)
    refine ziload_n dJ3_checkIndex_8e157_16 rfl ?_
    exact zireturn dJ3_checkIndex_8e157_17 rfl rfl ⟨rfl, rfl⟩
theorem c_ci0 {k l : Nat} (hx : zHS x adK adV fa) (hk : k < l) (hl : l < 100) : zF x true mJ0_checkIndex [.int (nI k), .int (nI l)] S none S := by
  refine zC_of (by decide +kernel) (Nat.le_of_ble_eq_true rfl) ?_
  refine ziload_n dJ0_checkIndex_df160_0 rfl ?_
  refine ziload_n dJ0_checkIndex_df160_1 rfl ?_
  refine zfmtS hx rfl dJ0_checkIndex_df160_2 ?_
  refine zcSf gj_ci3 dJ0_checkIndex_df160_5 (c_ci3 hk hl) rfl (by decide) (Nat.le_of_ble_eq_true rfl) ?_ rfl
  refine zpop dJ0_checkIndex_df160_8 rfl ?_
  exact zreturn dJ0_checkIndex_df160_9 rfl ⟨rfl, rfl⟩
theorem sLen_lt : ∀ i, i < 6 → sLen.getD i 0 < 100 := by decide +kernel
theorem sCh : ∀ i, i < 6 → ∀ k, k < sLen.getD i 0 → (((sByt.getD i []).getD k 0 &&& 255).toUInt32 % 65536).toInt32 = (sByt.getD i []).getD k 0 ∧ narrow .char (.int ((sByt.getD i []).getD k 0)) = .int ((sByt.getD i []).getD k 0) := by decide +kernel
theorem c_ch1 {i k : Nat} (hx : zHS x adK adV fa) (hi : i < 6) (hk : k < sLen.getD i 0) : zF x true mJ1_charAt [.ref (adV i), .int (nI k)] S (some (.int ((sByt.getD i []).getD k 0))) S := by
  have hl := sLen_lt i hi
  refine zC_of (by decide +kernel) (Nat.le_of_ble_eq_true rfl) ?_
  refine ziload_n dJ1_charAt_3b067_0 rfl ?_
  refine zaload_n dJ1_charAt_3b067_1 rfl ?_
  refine zlenS hx hi dJ1_charAt_3b067_2 ?_
  refine zcSv gj_ci0 dJ1_charAt_3b067_3 (c_ci0 hx hk hl) rfl (by decide) (Nat.le_of_ble_eq_true rfl) ?_ rfl
  refine zaload_n dJ1_charAt_3b067_6 rfl ?_
  refine ziload_n dJ1_charAt_3b067_7 rfl ?_
  refine zbytS hx hi hk (by omega) dJ1_charAt_3b067_8 ?_
  refine zsipush (v := 255) dJ1_charAt_3b067_9 (by decide) ?_
  refine ziand dJ1_charAt_3b067_12 ?_
  refine zi2c dJ1_charAt_3b067_13 ?_
  rw [(sCh i hi k hk).1]
  exact zireturn dJ1_charAt_3b067_14 rfl (sCh i hi k hk).2 ⟨rfl, rfl⟩
theorem c_charAt {i k : Nat} (hx : zHS x adK adV fa) (hi : i < 6) (hk : k < sLen.getD i 0) : zF x true mJ0_charAt [.ref (adK i), .int (nI k)] S (some (.int ((sByt.getD i []).getD k 0))) S := by
  refine zC_of (by decide +kernel) (Nat.le_of_ble_eq_true rfl) ?_
  refine zaload_n dJ0_charAt_5068e_0 rfl ?_
  refine zcTf hx hi gj_lat rfl dJ0_charAt_5068e_1 (c_isLatin1 hx hi) rfl (by decide) (Nat.le_of_ble_eq_true rfl) ?_ rfl
  refine zif_eq (tgt := 16) dJ0_charAt_5068e_4 (by decide) (fun h => absurd h (by decide)) (fun _ => ?_)
  refine zaload_n dJ0_charAt_5068e_7 rfl ?_
  refine zvalS hx hi rfl dJ0_charAt_5068e_8 ?_
  refine ziload_n dJ0_charAt_5068e_11 rfl ?_
  refine zcSf gj_ch1 dJ0_charAt_5068e_12 (c_ch1 hx hi hk) rfl (by decide) (Nat.le_of_ble_eq_true rfl) ?_ rfl
  exact zireturn dJ0_charAt_5068e_15 rfl (sCh i hi k hk).2 ⟨rfl, rfl⟩
theorem c_can {c : Nat} (hc : c < 256) : zF x true mJ1_canEncode [.int (nI c)] S (some (.int (bI true))) S := by
  refine zC_of (by decide +kernel) (Nat.le_of_ble_eq_true rfl) ?_
  refine ziload_n dJ1_canEncode_9a6ad_0 rfl ?_
  refine zif_lt (tgt := 15) dJ1_canEncode_9a6ad_1 (by decide) (fun h => absurd h (nI_pos (by omega))) (fun _ => ?_)
  refine ziload_n dJ1_canEncode_9a6ad_4 rfl ?_
  refine zsipush (v := nI 255) dJ1_canEncode_9a6ad_5 (by decide) ?_
  refine zicmp_gt (tgt := 15) dJ1_canEncode_9a6ad_8 (by decide) (fun h => absurd h (nI_nlt (by omega) (by omega))) (fun _ => ?_)
  refine ziconst (v := 1) dJ1_canEncode_9a6ad_11 (by decide) ?_
  refine zgoto (tgt := 16) dJ1_canEncode_9a6ad_12 (by decide) ?_
  exact zbret (q := true) dJ1_canEncode_9a6ad_16 rfl rfl ⟨rfl, rfl⟩
def ixF (q : Int32) : Nat → Nat → Int32
  | 0, _ => -1
  | k + 1, i => if (sByt.getD 1 []).getD i 0 = q then nI i else ixF q k (i + 1)
def kindN (c : Nat) : Int32 := if c = 112 then 0 else if c = 98 then 1 else if c = 109 then 2 else if c = 107 then 3 else if c = 100 then 4 else if c = 103 then 5 else -1
theorem ix_all : ((List.range 256).all (fun c => decide (ixF (nI c).toInt8.toInt32 6 0 = kindN c) && decide (((nI c).toUInt32 % 65536).toInt32 = nI c))) = true := by decide +kernel
theorem ix_c {c : Nat} (hc : c < 256) : ixF (nI c).toInt8.toInt32 6 0 = kindN c ∧ ((nI c).toUInt32 % 65536).toInt32 = nI c := by
  have h := (Bool.and_eq_true _ _).mp (List.all_eq_true.mp ix_all c (List.mem_range.mpr hc))
  exact ⟨of_decide_eq_true h.1, of_decide_eq_true h.2⟩
theorem l_ixc {c q : Int32} (hx : zHS x adK adV fa) : ∀ (k i : Nat), i + k = 6 → zZ x true mJ1_indexOfChar (fun r T => r = some (.int (ixF q k i)) ∧ T = S) 7 [(0, .ref (adV 1)), (1, .int c), (2, .int 0), (3, .int (nI 6)), (4, .int q), (5, .int (nI i))] [] S := by
  intro k
  induction k with
  | zero =>
    intro i hi
    refine ziload dJ1_indexOfChar_4cfef_7 rfl ?_
    refine ziload_n dJ1_indexOfChar_4cfef_9 rfl ?_
    refine zicmp_ge (tgt := 31) dJ1_indexOfChar_4cfef_10 (by decide) (fun _ => ?_) (fun h => absurd (nI_le (by omega) (by omega)) h)
    refine ziconst (v := -1) dJ1_indexOfChar_4cfef_31 (by decide) ?_
    exact zireturn dJ1_indexOfChar_4cfef_32 rfl rfl ⟨rfl, rfl⟩
  | succ k ih =>
    intro i hi
    refine ziload dJ1_indexOfChar_4cfef_7 rfl ?_
    refine ziload_n dJ1_indexOfChar_4cfef_9 rfl ?_
    refine zicmp_ge (tgt := 31) dJ1_indexOfChar_4cfef_10 (by decide) (fun h => absurd h (nI_ge (by omega) (by omega))) (fun _ => ?_)
    refine zaload_n dJ1_indexOfChar_4cfef_13 rfl ?_
    refine ziload dJ1_indexOfChar_4cfef_14 rfl ?_
    refine zbytS hx (i := 1) (by decide) (show i < 6 by omega) (by omega) dJ1_indexOfChar_4cfef_16 ?_
    refine ziload dJ1_indexOfChar_4cfef_17 rfl ?_
    by_cases hq : (sByt.getD 1 []).getD i 0 = q
    · rw [ixF, if_pos hq]
      refine zicmp_ne (tgt := 25) dJ1_indexOfChar_4cfef_19 (by decide) (fun h => absurd hq h) (fun _ => ?_)
      refine ziload dJ1_indexOfChar_4cfef_22 rfl ?_
      exact zireturn dJ1_indexOfChar_4cfef_24 rfl rfl ⟨rfl, rfl⟩
    · rw [ixF, if_neg hq]
      refine zicmp_ne (tgt := 25) dJ1_indexOfChar_4cfef_19 (by decide) (fun _ => ?_) (fun h => absurd h hq)
      refine ziinc dJ1_indexOfChar_4cfef_25 rfl rfl (by decide) rfl ?_
      refine zgoto (tgt := 7) dJ1_indexOfChar_4cfef_28 (by decide) ?_
      refine zlvs (lv' := [(0, .ref (adV 1)), (1, .int c), (2, .int 0), (3, .int (nI 6)), (4, .int q), (5, .int (nI (i + 1)))]) ⟨rfl, rfl, rfl, rfl, rfl, by rw [nI_succ i]; rfl, trivial⟩ ?_
      exact ih (i + 1) (by omega)
theorem c_ixc {c : Nat} (hx : zHS x adK adV fa) (hc : c < 256) : zF x true mJ1_indexOfChar [.ref (adV 1), .int (nI c), .int 0, .int (nI 6)] S (some (.int (kindN c))) S := by
  rw [← (ix_c hc).1]
  refine zC_of (by decide +kernel) (Nat.le_of_ble_eq_true rfl) ?_
  refine ziload_n dJ1_indexOfChar_4cfef_0 rfl ?_
  refine zi2b dJ1_indexOfChar_4cfef_1 ?_
  refine zistore dJ1_indexOfChar_4cfef_2 (by decide) rfl ?_
  refine ziload_n dJ1_indexOfChar_4cfef_4 rfl ?_
  refine zistore dJ1_indexOfChar_4cfef_5 (by decide) rfl ?_
  refine zlvs (lv' := [(0, .ref (adV 1)), (1, .int (nI c)), (2, .int 0), (3, .int (nI 6)), (4, .int (nI c).toInt8.toInt32), (5, .int (nI 0))]) ⟨rfl, rfl, rfl, rfl, rfl, rfl, trivial⟩ ?_
  exact l_ixc hx 6 0 (by omega)
theorem c_ixl {c : Nat} (hx : zHS x adK adV fa) (hc : c < 256) : zF x true mJ1_indexOf [.ref (adV 1), .int (nI c), .int 0, .int (nI 6)] S (some (.int (kindN c))) S := by
  refine zC_of (by decide +kernel) (Nat.le_of_ble_eq_true rfl) ?_
  refine ziload_n dJ1_indexOf_4cfef_0 rfl ?_
  refine zcSf gj_can dJ1_indexOf_4cfef_1 (c_can hc) rfl (by decide) (Nat.le_of_ble_eq_true rfl) ?_ rfl
  refine zif_ne (tgt := 9) dJ1_indexOf_4cfef_4 (by decide) (fun _ => ?_) (fun h => absurd h (by decide))
  refine ziload_n dJ1_indexOf_4cfef_9 rfl ?_
  refine ziconst (v := 0) dJ1_indexOf_4cfef_10 (by decide) ?_
  refine zmmax1 rfl dJ1_indexOf_4cfef_11 (by decide) (Nat.le_of_ble_eq_true rfl) ?_
  rw [if_neg (by decide)]
  refine zistore_n dJ1_indexOf_4cfef_14 (by decide) rfl ?_
  refine ziload_n dJ1_indexOf_4cfef_15 rfl ?_
  refine zaload_n dJ1_indexOf_4cfef_16 rfl ?_
  refine zlenS hx (i := 1) (by decide) dJ1_indexOf_4cfef_17 ?_
  refine zmmin1 rfl dJ1_indexOf_4cfef_18 (by decide) (Nat.le_of_ble_eq_true rfl) ?_
  rw [if_neg (by decide)]
  refine zistore_n dJ1_indexOf_4cfef_21 (by decide) rfl ?_
  refine ziload_n dJ1_indexOf_4cfef_22 rfl ?_
  refine ziload_n dJ1_indexOf_4cfef_23 rfl ?_
  refine zicmp_lt (tgt := 29) dJ1_indexOf_4cfef_24 (by decide) (fun _ => ?_) (fun h => absurd (by decide) h)
  refine zaload_n dJ1_indexOf_4cfef_29 rfl ?_
  refine ziload_n dJ1_indexOf_4cfef_30 rfl ?_
  refine ziload_n dJ1_indexOf_4cfef_31 rfl ?_
  refine ziload_n dJ1_indexOf_4cfef_32 rfl ?_
  refine zcSf gj_ixc dJ1_indexOf_4cfef_33 (c_ixc hx hc) rfl (by decide) (Nat.le_of_ble_eq_true rfl) ?_ rfl
  exact zireturn dJ1_indexOf_4cfef_36 rfl rfl ⟨rfl, rfl⟩
theorem c_ix2 {c : Nat} (hx : zHS x adK adV fa) (hc : c < 256) : zF x true mJ0_indexOf2 [.ref (adK 1), .int (nI c), .int 0] S (some (.int (kindN c))) S := by
  refine zC_of (by decide +kernel) (Nat.le_of_ble_eq_true rfl) ?_
  refine zaload_n dJ0_indexOf_7cf53_0 rfl ?_
  refine zcTf hx (i := 1) (by decide) gj_lat rfl dJ0_indexOf_7cf53_1 (c_isLatin1 hx (by decide)) rfl (by decide) (Nat.le_of_ble_eq_true rfl) ?_ rfl
  refine zif_eq (tgt := 23) dJ0_indexOf_7cf53_4 (by decide) (fun h => absurd h (by decide)) (fun _ => ?_)
  refine zaload_n dJ0_indexOf_7cf53_7 rfl ?_
  refine zvalS hx (i := 1) (by decide) rfl dJ0_indexOf_7cf53_8 ?_
  refine ziload_n dJ0_indexOf_7cf53_11 rfl ?_
  refine ziload_n dJ0_indexOf_7cf53_12 rfl ?_
  refine zaload_n dJ0_indexOf_7cf53_13 rfl ?_
  refine zcTf hx (i := 1) (by decide) gj_len2 rfl dJ0_indexOf_7cf53_14 (c_length hx (by decide)) rfl (by decide) (Nat.le_of_ble_eq_true rfl) ?_ rfl
  refine zcSf gj_ixl dJ0_indexOf_7cf53_17 (c_ixl hx hc) rfl (by decide) (Nat.le_of_ble_eq_true rfl) ?_ rfl
  refine zgoto (tgt := 36) dJ0_indexOf_7cf53_20 (by decide) ?_
  exact zireturn dJ0_indexOf_7cf53_36 rfl rfl ⟨rfl, rfl⟩
theorem c_ix1 {c : Nat} (hx : zHS x adK adV fa) (hc : c < 256) : zF x true mJ0_indexOf1 [.ref (adK 1), .int (nI c)] S (some (.int (kindN c))) S := by
  refine zC_of (by decide +kernel) (Nat.le_of_ble_eq_true rfl) ?_
  refine zaload_n dJ0_indexOf_0f7a4_0 rfl ?_
  refine ziload_n dJ0_indexOf_0f7a4_1 rfl ?_
  refine ziconst (v := 0) dJ0_indexOf_0f7a4_2 (by decide) ?_
  refine zcTf hx (i := 1) (by decide) gj_ix2 rfl dJ0_indexOf_0f7a4_3 (c_ix2 hx hc) rfl (by decide) (Nat.le_of_ble_eq_true rfl) ?_ rfl
  exact zireturn dJ0_indexOf_0f7a4_6 rfl rfl ⟨rfl, rfl⟩
theorem c_X6_kindOf {c : Nat} (hx : zHS x adK adV fa) (hc : c < 256) : zF x true mX6_kindOf [.int (nI c)] S (some (.int (kindN c))) S := by
  refine zC_of (by decide +kernel) (Nat.le_of_ble_eq_true rfl) ?_
  refine zldcS hx (tx := "pbmkdg") (q := adK 1) (fun U h => h.2.1.2.1) dX6_kindOf_0 ?_
  refine ziload_n dX6_kindOf_2 rfl ?_
  refine zi2c dX6_kindOf_3 ?_
  rw [(ix_c hc).2]
  refine zcTf hx (i := 1) (by decide) gj_ix1 rfl dX6_kindOf_4 (c_ix1 hx hc) rfl (by decide) (Nat.le_of_ble_eq_true rfl) ?_ rfl
  exact zireturn dX6_kindOf_7 rfl rfl ⟨rfl, rfl⟩
end STR
