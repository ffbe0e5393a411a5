/-! The law: what the class answers, the reference answers too -/
theorem lg_self (u : Int64) : lg_cmp u u = 0 := by simp [lg_cmp]
theorem gl_13 : zLkV RL 13 mX8_letter 1 := ⟨goodIn_r _ [94, 95, 96, 2, 97] (by decide +kernel) (by decide +kernel), by unfold zNm; decide +kernel⟩
theorem gl_17 : zLkV RL 17 mX9_letter 1 := ⟨goodIn_r _ [118, 119, 120, 5, 121] (by decide +kernel) (by decide +kernel), by unfold zNm; decide +kernel⟩
theorem gl_18 : zLkV RL 18 mX8_town 0 := ⟨goodIn_r _ [127, 128, 129, 2, 130] (by decide +kernel) (by decide +kernel), by unfold zNm; decide +kernel⟩
theorem gl_22 : zLkV RL 22 mX9_town 0 := ⟨goodIn_r _ [401, 402, 403, 5, 404] (by decide +kernel) (by decide +kernel), by unfold zNm; decide +kernel⟩
theorem gl_23 : zLkV RL 23 mX8_person 2 := ⟨goodIn_r _ [486, 487, 488, 2, 489] (by decide +kernel) (by decide +kernel), by unfold zNm; decide +kernel⟩
theorem gl_27 : zLkV RL 27 mX9_person 2 := ⟨goodIn_r _ [498, 499, 500, 5, 501] (by decide +kernel) (by decide +kernel), by unfold zNm; decide +kernel⟩
theorem gl_28 : zLkV RL 28 mX8_face 2 := ⟨goodIn_r _ [502, 503, 504, 2, 505] (by decide +kernel) (by decide +kernel), by unfold zNm; decide +kernel⟩
theorem gl_31 : zLkV RL 31 mX9_face 2 := ⟨goodIn_r _ [510, 511, 512, 5, 513] (by decide +kernel) (by decide +kernel), by unfold zNm; decide +kernel⟩
theorem gl_32 : zLkV RL 32 mX8_worth 1 := ⟨goodIn_r _ [517, 518, 519, 2, 520] (by decide +kernel) (by decide +kernel), by unfold zNm; decide +kernel⟩
theorem gl_35 : zLkV RL 35 mX9_worth 1 := ⟨goodIn_r _ [530, 531, 532, 5, 533] (by decide +kernel) (by decide +kernel), by unfold zNm; decide +kernel⟩
theorem gl_36 : zLkV RL 36 mX8_lends 2 := ⟨goodIn_r _ [542, 543, 544, 2, 545] (by decide +kernel) (by decide +kernel), by unfold zNm; decide +kernel⟩
theorem gl_39 : zLkV RL 39 mX9_lends 2 := ⟨goodIn_r _ [556, 557, 558, 5, 559] (by decide +kernel) (by decide +kernel), by unfold zNm; decide +kernel⟩
theorem gl_40 : zLkV RL 40 mX8_back 1 := ⟨goodIn_r _ [563, 564, 565, 2, 566] (by decide +kernel) (by decide +kernel), by unfold zNm; decide +kernel⟩
theorem gl_43 : zLkV RL 43 mX9_back 1 := ⟨goodIn_r _ [569, 570, 571, 5, 572] (by decide +kernel) (by decide +kernel), by unfold zNm; decide +kernel⟩
theorem gl_44 : zLkV RL 44 mX8_learns 2 := ⟨goodIn_r _ [573, 574, 575, 2, 576] (by decide +kernel) (by decide +kernel), by unfold zNm; decide +kernel⟩
theorem gl_47 : zLkV RL 47 mX9_learns 2 := ⟨goodIn_r _ [582, 583, 584, 5, 585] (by decide +kernel) (by decide +kernel), by unfold zNm; decide +kernel⟩
theorem gl_48 : zLkV RL 48 mX8_becomes 3 := ⟨goodIn_r _ [586, 587, 588, 2, 589] (by decide +kernel) (by decide +kernel), by unfold zNm; decide +kernel⟩
theorem gl_52 : zLkV RL 52 mX9_becomes 3 := ⟨goodIn_r _ [593, 594, 595, 5, 596] (by decide +kernel) (by decide +kernel), by unfold zNm; decide +kernel⟩
theorem gl_53 : zLkV RL 53 mX8_turn 3 := ⟨goodIn_r _ [600, 601, 602, 2, 603] (by decide +kernel) (by decide +kernel), by unfold zNm; decide +kernel⟩
theorem gl_56 : zLkV RL 56 mX9_turn 3 := ⟨goodIn_r _ [604, 605, 606, 5, 607] (by decide +kernel) (by decide +kernel), by unfold zNm; decide +kernel⟩
theorem gl_57 : zLkV RL 57 mX8_months 1 := ⟨goodIn_r _ [608, 609, 610, 2, 611] (by decide +kernel) (by decide +kernel), by unfold zNm; decide +kernel⟩
theorem gl_60 : zLkV RL 60 mX9_months 1 := ⟨goodIn_r _ [613, 614, 615, 5, 616] (by decide +kernel) (by decide +kernel), by unfold zNm; decide +kernel⟩
theorem gl_61 : zLkV RL 61 mX8_faceThen 3 := ⟨goodIn_r _ [617, 618, 619, 2, 620] (by decide +kernel) (by decide +kernel), by unfold zNm; decide +kernel⟩
theorem gl_64 : zLkV RL 64 mX9_faceThen 3 := ⟨goodIn_r _ [625, 626, 627, 5, 628] (by decide +kernel) (by decide +kernel), by unfold zNm; decide +kernel⟩
theorem gl_65 : zLkV RL 65 mX8_wornThen 2 := ⟨goodIn_r _ [629, 630, 631, 2, 632] (by decide +kernel) (by decide +kernel), by unfold zNm; decide +kernel⟩
theorem gl_68 : zLkV RL 68 mX9_wornThen 2 := ⟨goodIn_r _ [633, 634, 635, 5, 636] (by decide +kernel) (by decide +kernel), by unfold zNm; decide +kernel⟩
theorem gl_69 : zLkV RL 69 mX8_first 1 := ⟨goodIn_r _ [637, 638, 639, 2, 640] (by decide +kernel) (by decide +kernel), by unfold zNm; decide +kernel⟩
theorem gl_72 : zLkV RL 72 mX9_first 1 := ⟨goodIn_r _ [657, 658, 659, 5, 660] (by decide +kernel) (by decide +kernel), by unfold zNm; decide +kernel⟩
theorem gl_73 : zLkV RL 73 mX8_meets 2 := ⟨goodIn_r _ [664, 665, 666, 2, 667] (by decide +kernel) (by decide +kernel), by unfold zNm; decide +kernel⟩
theorem gl_76 : zLkV RL 76 mX9_meets 2 := ⟨goodIn_r _ [673, 674, 675, 5, 676] (by decide +kernel) (by decide +kernel), by unfold zNm; decide +kernel⟩
theorem gl_77 : zLkV RL 77 mX8_deceived 2 := ⟨goodIn_r _ [681, 682, 683, 2, 684] (by decide +kernel) (by decide +kernel), by unfold zNm; decide +kernel⟩
theorem gl_80 : zLkV RL 80 mX9_deceived 2 := ⟨goodIn_r _ [686, 687, 688, 5, 689] (by decide +kernel) (by decide +kernel), by unfold zNm; decide +kernel⟩
theorem gl_81 : zLkV RL 81 mX8_famous 1 := ⟨goodIn_r _ [690, 691, 692, 2, 693] (by decide +kernel) (by decide +kernel), by unfold zNm; decide +kernel⟩
theorem gl_84 : zLkV RL 84 mX9_famous 1 := ⟨goodIn_r _ [694, 695, 696, 5, 697] (by decide +kernel) (by decide +kernel), by unfold zNm; decide +kernel⟩
theorem gl_85 : zLkV RL 85 mX8_lend 3 := ⟨goodIn_r _ [698, 699, 700, 2, 701] (by decide +kernel) (by decide +kernel), by unfold zNm; decide +kernel⟩
theorem gl_88 : zLkV RL 88 mX9_lend 3 := ⟨goodIn_r _ [710, 711, 712, 5, 713] (by decide +kernel) (by decide +kernel), by unfold zNm; decide +kernel⟩
theorem gl_89 : zLkV RL 89 mX8_take 2 := ⟨goodIn_r _ [729, 730, 731, 2, 732] (by decide +kernel) (by decide +kernel), by unfold zNm; decide +kernel⟩
theorem gl_92 : zLkV RL 92 mX9_take 2 := ⟨goodIn_r _ [733, 734, 735, 5, 736] (by decide +kernel) (by decide +kernel), by unfold zNm; decide +kernel⟩
theorem gl_93 : zLkV RL 93 mX8_keep 1 := ⟨goodIn_r _ [737, 738, 739, 2, 740] (by decide +kernel) (by decide +kernel), by unfold zNm; decide +kernel⟩
theorem gl_96 : zLkV RL 96 mX9_keep 1 := ⟨goodIn_r _ [757, 758, 759, 5, 760] (by decide +kernel) (by decide +kernel), by unfold zNm; decide +kernel⟩
theorem gl_97 : zLkV RL 97 mX8_chained 1 := ⟨goodIn_r _ [761, 762, 763, 2, 764] (by decide +kernel) (by decide +kernel), by unfold zNm; decide +kernel⟩
theorem gl_100 : zLkV RL 100 mX9_chained 1 := ⟨goodIn_r _ [777, 778, 779, 5, 780] (by decide +kernel) (by decide +kernel), by unfold zNm; decide +kernel⟩
theorem gl_101 : zLkV RL 101 mX8_lot 1 := ⟨goodIn_r _ [784, 785, 786, 2, 787] (by decide +kernel) (by decide +kernel), by unfold zNm; decide +kernel⟩
theorem gl_104 : zLkV RL 104 mX9_lot 1 := ⟨goodIn_r _ [796, 797, 798, 5, 799] (by decide +kernel) (by decide +kernel), by unfold zNm; decide +kernel⟩
theorem gl_105 : zLkV RL 105 mX8_fewest 3 := ⟨goodIn_r _ [805, 806, 807, 2, 808] (by decide +kernel) (by decide +kernel), by unfold zNm; decide +kernel⟩
theorem gl_108 : zLkV RL 108 mX9_fewest 3 := ⟨goodIn_r _ [813, 814, 815, 5, 816] (by decide +kernel) (by decide +kernel), by unfold zNm; decide +kernel⟩
theorem gl_109 : zLkV RL 109 mX8_who 1 := ⟨goodIn_r _ [829, 830, 831, 2, 832] (by decide +kernel) (by decide +kernel), by unfold zNm; decide +kernel⟩
theorem gl_112 : zLkV RL 112 mX9_who 1 := ⟨goodIn_r _ [842, 843, 844, 5, 845] (by decide +kernel) (by decide +kernel), by unfold zNm; decide +kernel⟩
theorem gl_113 : zLkV RL 113 mX8_widow 2 := ⟨goodIn_r _ [847, 848, 849, 2, 850] (by decide +kernel) (by decide +kernel), by unfold zNm; decide +kernel⟩
theorem gl_116 : zLkV RL 116 mX9_widow 2 := ⟨goodIn_r _ [852, 853, 854, 5, 855] (by decide +kernel) (by decide +kernel), by unfold zNm; decide +kernel⟩
theorem gl_117 : zLkV RL 117 mX8_twins 1 := ⟨goodIn_r _ [856, 857, 858, 2, 859] (by decide +kernel) (by decide +kernel), by unfold zNm; decide +kernel⟩
theorem gl_120 : zLkV RL 120 mX9_twins 1 := ⟨goodIn_r _ [864, 865, 866, 5, 867] (by decide +kernel) (by decide +kernel), by unfold zNm; decide +kernel⟩
theorem gl_121 : zLkV RL 121 mX8_two 3 := ⟨goodIn_r _ [868, 869, 870, 2, 871] (by decide +kernel) (by decide +kernel), by unfold zNm; decide +kernel⟩
theorem gl_124 : zLkV RL 124 mX9_two 3 := ⟨goodIn_r _ [876, 877, 878, 5, 879] (by decide +kernel) (by decide +kernel), by unfold zNm; decide +kernel⟩
theorem gl_125 : zLkV RL 125 mX8_quarrel 5 := ⟨goodIn_r _ [884, 885, 886, 2, 887] (by decide +kernel) (by decide +kernel), by unfold zNm; decide +kernel⟩
theorem gl_129 : zLkV RL 129 mX9_quarrel 5 := ⟨goodIn_r _ [905, 906, 907, 5, 908] (by decide +kernel) (by decide +kernel), by unfold zNm; decide +kernel⟩
theorem gl_130 : zLkV RL 130 mX8_mean 1 := ⟨goodIn_r _ [920, 921, 922, 2, 923] (by decide +kernel) (by decide +kernel), by unfold zNm; decide +kernel⟩
theorem gl_134 : zLkV RL 134 mX9_mean 1 := ⟨goodIn_r _ [925, 926, 927, 5, 928] (by decide +kernel) (by decide +kernel), by unfold zNm; decide +kernel⟩
theorem gl_135 : zLkV RL 135 mX8_whatIs 2 := ⟨goodIn_r _ [932, 933, 934, 2, 935] (by decide +kernel) (by decide +kernel), by unfold zNm; decide +kernel⟩
theorem gl_138 : zLkV RL 138 mX9_whatIs 2 := ⟨goodIn_r _ [940, 941, 942, 5, 943] (by decide +kernel) (by decide +kernel), by unfold zNm; decide +kernel⟩
theorem gl_139 : zLkV RL 139 mX8_row 1 := ⟨goodIn_r _ [944, 945, 946, 2, 947] (by decide +kernel) (by decide +kernel), by unfold zNm; decide +kernel⟩
theorem gl_142 : zLkV RL 142 mX9_row 1 := ⟨goodIn_r _ [948, 949, 950, 5, 951] (by decide +kernel) (by decide +kernel), by unfold zNm; decide +kernel⟩
theorem gl_143 : zLkV RL 143 mX8_judge 0 := ⟨goodIn_r _ [952, 953, 954, 2, 955] (by decide +kernel) (by decide +kernel), by unfold zNm; decide +kernel⟩
theorem gl_146 : zLkV RL 146 mX9_judge 0 := ⟨goodIn_r _ [956, 957, 958, 5, 959] (by decide +kernel) (by decide +kernel), by unfold zNm; decide +kernel⟩
theorem gl_147 : zLkV RL 147 mX8_clear 0 := ⟨goodIn_r _ [960, 961, 962, 2, 963] (by decide +kernel) (by decide +kernel), by unfold zNm; decide +kernel⟩
theorem gl_150 : zLkV RL 150 mX9_clear 0 := ⟨goodIn_r _ [964, 965, 966, 5, 967] (by decide +kernel) (by decide +kernel), by unfold zNm; decide +kernel⟩
theorem gl_151 : zLkV RL 151 mX8_lots 3 := ⟨goodIn_r _ [968, 969, 970, 2, 971] (by decide +kernel) (by decide +kernel), by unfold zNm; decide +kernel⟩
theorem gl_154 : zLkV RL 154 mX9_lots 3 := ⟨goodIn_r _ [986, 987, 988, 5, 989] (by decide +kernel) (by decide +kernel), by unfold zNm; decide +kernel⟩
theorem gl_155 : zLkV RL 155 mX8_image 0 := ⟨goodIn_r _ [998, 999, 1000, 2, 1001] (by decide +kernel) (by decide +kernel), by unfold zNm; decide +kernel⟩
theorem gl_158 : zLkV RL 158 mX9_image 0 := ⟨goodIn_r _ [1002, 1003, 1004, 5, 1005] (by decide +kernel) (by decide +kernel), by unfold zNm; decide +kernel⟩
theorem gl_159 : zLkV RL 159 mX8_on 0 := ⟨goodIn_r _ [1007, 1008, 1009, 2, 1010] (by decide +kernel) (by decide +kernel), by unfold zNm; decide +kernel⟩
theorem gl_162 : zLkV RL 162 mX9_on 0 := ⟨goodIn_r _ [1011, 1012, 1013, 5, 1014] (by decide +kernel) (by decide +kernel), by unfold zNm; decide +kernel⟩
theorem gl_163 : zLkV RL 163 mX8_count 1 := ⟨goodIn_r _ [1015, 1016, 1017, 2, 1018] (by decide +kernel) (by decide +kernel), by unfold zNm; decide +kernel⟩
theorem gl_166 : zLkV RL 166 mX9_count 1 := ⟨goodIn_r _ [1019, 1020, 1021, 5, 1022] (by decide +kernel) (by decide +kernel), by unfold zNm; decide +kernel⟩
section LAW
variable {v : vCx} {b L i : Nat} {xs : Nat → Int32} {SC SM : zSt} {σ : Sig}
/-- the law's locals in its loop -/
def vlv (v : vCx) (b i : Nat) : List (Nat × Value) := [(3, .int (nI i)), (2, .ref (zad (vM v) 0)), (1, .ref (zad (vC v) 0)), (0, .ref b)]
set_option maxRecDepth 100000 in
set_option maxHeartbeats 4000000 in
theorem law_letter (hL : L ≤ 3072) (hi : i + 6 ≤ L) (hW : WS σ) (hC : RepC σ SC) (hM : RepM σ SM) (k : ∀ (τ : Sig) (SC' SM' : zSt), WS τ → RepC τ SC' → RepM τ SM' → vZ v b L xs 1279 (vlv v b i) [] SC' SM') : vZ v b L xs 196 (vlv v b i) [] SC SM := by
  refine valoadn dL_law_196 rfl ?_
  refine vsc5 (k := 1) hL hi (by decide) (by decide) dL_law_197 dL_law_198 dL_law_199 dL_law_200 dL_law_201 rfl rfl ?_
  refine vaskC (as := [.int (xs (i + 1))]) (rest := []) (c_X8_letter hC hW _) dL_law_202 ob_X gl_13 rfl (Nat.le_of_ble_eq_true rfl) (Nat.le_of_ble_eq_true rfl) (fun r S1 h => ?_) rfl
  obtain ⟨h1, h2⟩ := h
  refine valoadn dL_law_205 rfl ?_
  refine vsc5 (k := 1) hL hi (by decide) (by decide) dL_law_206 dL_law_207 dL_law_208 dL_law_209 dL_law_210 rfl rfl ?_
  refine vaskM (as := [.int (xs (i + 1))]) (rest := [.int r]) (c_X9_letter hM hW _) dL_law_211 ob_Mo gl_17 rfl (Nat.le_of_ble_eq_true rfl) (Nat.le_of_ble_eq_true rfl) (fun r2 S2 g => ?_) rfl
  obtain ⟨g1, g2⟩ := g
  refine vicmp_eq (tgt := 1279) dL_law_214 (by decide) (by rw [h1, g1]) ?_
  exact k _ S1 S2 (w_letter hW _) h2 g2
set_option maxRecDepth 100000 in
set_option maxHeartbeats 4000000 in
theorem law_town {adK adV : Nat → Nat} {fa : Option Nat} (hx : zHS (vC v) adK adV fa) (hL : L ≤ 3072) (hi : i + 6 ≤ L) (hW : WS σ) (hC : RepC σ SC) (hM : RepM σ SM) (k : ∀ (τ : Sig) (SC' SM' : zSt), WS τ → RepC τ SC' → RepM τ SM' → vZ v b L xs 1279 (vlv v b i) [] SC' SM') : vZ v b L xs 219 (vlv v b i) [] SC SM := by
  refine valoadn dL_law_219 rfl ?_
  refine vaskC (as := []) (rest := []) (c_X8_town hx hC hW ) dL_law_220 ob_X gl_18 rfl (Nat.le_of_ble_eq_true rfl) (Nat.le_of_ble_eq_true rfl) (fun r S1 h => ?_) rfl
  obtain ⟨h1, h2⟩ := h
  refine valoadn dL_law_223 rfl ?_
  refine vaskM (as := []) (rest := [.int r]) (c_X9_town hM hW ) dL_law_224 ob_Mo gl_22 rfl (Nat.le_of_ble_eq_true rfl) (Nat.le_of_ble_eq_true rfl) (fun r2 S2 g => ?_) rfl
  obtain ⟨g1, g2⟩ := g
  refine vicmp_eq (tgt := 1279) dL_law_227 (by decide) (by rw [h1, g1]) ?_
  exact k _ S1 S2 (w_town hW) h2 g2
set_option maxRecDepth 100000 in
set_option maxHeartbeats 4000000 in
theorem law_person (hL : L ≤ 3072) (hi : i + 6 ≤ L) (hW : WS σ) (hC : RepC σ SC) (hM : RepM σ SM) (k : ∀ (τ : Sig) (SC' SM' : zSt), WS τ → RepC τ SC' → RepM τ SM' → vZ v b L xs 1279 (vlv v b i) [] SC' SM') : vZ v b L xs 232 (vlv v b i) [] SC SM := by
  refine valoadn dL_law_232 rfl ?_
  refine vsc5 (k := 1) hL hi (by decide) (by decide) dL_law_233 dL_law_234 dL_law_235 dL_law_236 dL_law_237 rfl rfl ?_
  refine vsc5 (k := 2) hL hi (by decide) (by decide) dL_law_238 dL_law_239 dL_law_240 dL_law_241 dL_law_242 rfl rfl ?_
  refine vaskC (as := [.int (xs (i + 1)), .int (xs (i + 2))]) (rest := []) (c_X8_person hC hW _ _) dL_law_243 ob_X gl_23 rfl (Nat.le_of_ble_eq_true rfl) (Nat.le_of_ble_eq_true rfl) (fun r S1 h => ?_) rfl
  obtain ⟨h1, h2⟩ := h
  refine valoadn dL_law_246 rfl ?_
  refine vsc5 (k := 1) hL hi (by decide) (by decide) dL_law_247 dL_law_248 dL_law_249 dL_law_250 dL_law_251 rfl rfl ?_
  refine vsc5 (k := 2) hL hi (by decide) (by decide) dL_law_252 dL_law_253 dL_law_254 dL_law_255 dL_law_256 rfl rfl ?_
  refine vaskM (as := [.int (xs (i + 1)), .int (xs (i + 2))]) (rest := [.int r]) (c_X9_person hM hW _ _) dL_law_257 ob_Mo gl_27 rfl (Nat.le_of_ble_eq_true rfl) (Nat.le_of_ble_eq_true rfl) (fun r2 S2 g => ?_) rfl
  obtain ⟨g1, g2⟩ := g
  refine vicmp_eq (tgt := 1279) dL_law_260 (by decide) (by rw [h1, g1]) ?_
  exact k _ S1 S2 (w_same hW) h2 g2
set_option maxRecDepth 100000 in
set_option maxHeartbeats 4000000 in
theorem law_face (hL : L ≤ 3072) (hi : i + 6 ≤ L) (hW : WS σ) (hC : RepC σ SC) (hM : RepM σ SM) (k : ∀ (τ : Sig) (SC' SM' : zSt), WS τ → RepC τ SC' → RepM τ SM' → vZ v b L xs 1279 (vlv v b i) [] SC' SM') : vZ v b L xs 265 (vlv v b i) [] SC SM := by
  refine valoadn dL_law_265 rfl ?_
  refine vsc5 (k := 1) hL hi (by decide) (by decide) dL_law_266 dL_law_267 dL_law_268 dL_law_269 dL_law_270 rfl rfl ?_
  refine vsc5 (k := 2) hL hi (by decide) (by decide) dL_law_271 dL_law_272 dL_law_273 dL_law_274 dL_law_275 rfl rfl ?_
  refine vaskC (as := [.int (xs (i + 1)), .int (xs (i + 2))]) (rest := []) (c_X8_face hC hW _ _) dL_law_276 ob_X gl_28 rfl (Nat.le_of_ble_eq_true rfl) (Nat.le_of_ble_eq_true rfl) (fun r S1 h => ?_) rfl
  obtain ⟨h1, h2⟩ := h
  refine valoadn dL_law_279 rfl ?_
  refine vsc5 (k := 1) hL hi (by decide) (by decide) dL_law_280 dL_law_281 dL_law_282 dL_law_283 dL_law_284 rfl rfl ?_
  refine vsc5 (k := 2) hL hi (by decide) (by decide) dL_law_285 dL_law_286 dL_law_287 dL_law_288 dL_law_289 rfl rfl ?_
  refine vaskM (as := [.int (xs (i + 1)), .int (xs (i + 2))]) (rest := [.int r]) (c_X9_face hM hW _ _) dL_law_290 ob_Mo gl_31 rfl (Nat.le_of_ble_eq_true rfl) (Nat.le_of_ble_eq_true rfl) (fun r2 S2 g => ?_) rfl
  obtain ⟨g1, g2⟩ := g
  refine vicmp_eq (tgt := 1279) dL_law_293 (by decide) (by rw [h1, g1]) ?_
  exact k _ S1 S2 (w_same hW) h2 g2
set_option maxRecDepth 100000 in
set_option maxHeartbeats 4000000 in
theorem law_worth (hL : L ≤ 3072) (hi : i + 6 ≤ L) (hW : WS σ) (hC : RepC σ SC) (hM : RepM σ SM) (k : ∀ (τ : Sig) (SC' SM' : zSt), WS τ → RepC τ SC' → RepM τ SM' → vZ v b L xs 1279 (vlv v b i) [] SC' SM') : vZ v b L xs 298 (vlv v b i) [] SC SM := by
  refine valoadn dL_law_298 rfl ?_
  refine vsc5 (k := 1) hL hi (by decide) (by decide) dL_law_299 dL_law_300 dL_law_301 dL_law_302 dL_law_303 rfl rfl ?_
  refine vaskC (as := [.int (xs (i + 1))]) (rest := []) (c_X8_worth hC hW _) dL_law_304 ob_X gl_32 rfl (Nat.le_of_ble_eq_true rfl) (Nat.le_of_ble_eq_true rfl) (fun r S1 h => ?_) rfl
  obtain ⟨h1, h2⟩ := h
  refine valoadn dL_law_307 rfl ?_
  refine vsc5 (k := 1) hL hi (by decide) (by decide) dL_law_308 dL_law_309 dL_law_310 dL_law_311 dL_law_312 rfl rfl ?_
  refine vaskM (as := [.int (xs (i + 1))]) (rest := [.int r]) (c_X9_worth hM hW _) dL_law_313 ob_Mo gl_35 rfl (Nat.le_of_ble_eq_true rfl) (Nat.le_of_ble_eq_true rfl) (fun r2 S2 g => ?_) rfl
  obtain ⟨g1, g2⟩ := g
  refine vicmp_eq (tgt := 1279) dL_law_316 (by decide) (by rw [h1, g1]) ?_
  exact k _ S1 S2 (w_same hW) h2 g2
set_option maxRecDepth 100000 in
set_option maxHeartbeats 4000000 in
theorem law_lends (hL : L ≤ 3072) (hi : i + 6 ≤ L) (hW : WS σ) (hC : RepC σ SC) (hM : RepM σ SM) (k : ∀ (τ : Sig) (SC' SM' : zSt), WS τ → RepC τ SC' → RepM τ SM' → vZ v b L xs 1279 (vlv v b i) [] SC' SM') : vZ v b L xs 321 (vlv v b i) [] SC SM := by
  refine valoadn dL_law_321 rfl ?_
  refine vsc5 (k := 1) hL hi (by decide) (by decide) dL_law_322 dL_law_323 dL_law_324 dL_law_325 dL_law_326 rfl rfl ?_
  refine vsc5 (k := 2) hL hi (by decide) (by decide) dL_law_327 dL_law_328 dL_law_329 dL_law_330 dL_law_331 rfl rfl ?_
  refine vaskC (as := [.int (xs (i + 1)), .int (xs (i + 2))]) (rest := []) (c_X8_lends hC hW _ _) dL_law_332 ob_X gl_36 rfl (Nat.le_of_ble_eq_true rfl) (Nat.le_of_ble_eq_true rfl) (fun r S1 h => ?_) rfl
  obtain ⟨h1, h2⟩ := h
  refine valoadn dL_law_335 rfl ?_
  refine vsc5 (k := 1) hL hi (by decide) (by decide) dL_law_336 dL_law_337 dL_law_338 dL_law_339 dL_law_340 rfl rfl ?_
  refine vsc5 (k := 2) hL hi (by decide) (by decide) dL_law_341 dL_law_342 dL_law_343 dL_law_344 dL_law_345 rfl rfl ?_
  refine vaskM (as := [.int (xs (i + 1)), .int (xs (i + 2))]) (rest := [.int r]) (c_X9_lends hM hW _ _) dL_law_346 ob_Mo gl_39 rfl (Nat.le_of_ble_eq_true rfl) (Nat.le_of_ble_eq_true rfl) (fun r2 S2 g => ?_) rfl
  obtain ⟨g1, g2⟩ := g
  refine vicmp_eq (tgt := 1279) dL_law_349 (by decide) (by rw [h1, g1]) ?_
  exact k _ S1 S2 (w_lends hW _ _) h2 g2
set_option maxRecDepth 100000 in
set_option maxHeartbeats 4000000 in
theorem law_back (hL : L ≤ 3072) (hi : i + 6 ≤ L) (hW : WS σ) (hC : RepC σ SC) (hM : RepM σ SM) (k : ∀ (τ : Sig) (SC' SM' : zSt), WS τ → RepC τ SC' → RepM τ SM' → vZ v b L xs 1279 (vlv v b i) [] SC' SM') : vZ v b L xs 354 (vlv v b i) [] SC SM := by
  refine valoadn dL_law_354 rfl ?_
  refine vsc5 (k := 1) hL hi (by decide) (by decide) dL_law_355 dL_law_356 dL_law_357 dL_law_358 dL_law_359 rfl rfl ?_
  refine vaskC (as := [.int (xs (i + 1))]) (rest := []) (c_X8_back hC hW _) dL_law_360 ob_X gl_40 rfl (Nat.le_of_ble_eq_true rfl) (Nat.le_of_ble_eq_true rfl) (fun r S1 h => ?_) rfl
  obtain ⟨h1, h2⟩ := h
  refine valoadn dL_law_363 rfl ?_
  refine vsc5 (k := 1) hL hi (by decide) (by decide) dL_law_364 dL_law_365 dL_law_366 dL_law_367 dL_law_368 rfl rfl ?_
  refine vaskM (as := [.int (xs (i + 1))]) (rest := [.int r]) (c_X9_back hM hW _) dL_law_369 ob_Mo gl_43 rfl (Nat.le_of_ble_eq_true rfl) (Nat.le_of_ble_eq_true rfl) (fun r2 S2 g => ?_) rfl
  obtain ⟨g1, g2⟩ := g
  refine vicmp_eq (tgt := 1279) dL_law_372 (by decide) (by rw [h1, g1]) ?_
  exact k _ S1 S2 (w_back hW _) h2 g2
set_option maxRecDepth 100000 in
set_option maxHeartbeats 4000000 in
theorem law_learns (hL : L ≤ 3072) (hi : i + 6 ≤ L) (hW : WS σ) (hC : RepC σ SC) (hM : RepM σ SM) (k : ∀ (τ : Sig) (SC' SM' : zSt), WS τ → RepC τ SC' → RepM τ SM' → vZ v b L xs 1279 (vlv v b i) [] SC' SM') : vZ v b L xs 377 (vlv v b i) [] SC SM := by
  refine valoadn dL_law_377 rfl ?_
  refine vsc5 (k := 1) hL hi (by decide) (by decide) dL_law_378 dL_law_379 dL_law_380 dL_law_381 dL_law_382 rfl rfl ?_
  refine vsc5 (k := 2) hL hi (by decide) (by decide) dL_law_383 dL_law_384 dL_law_385 dL_law_386 dL_law_387 rfl rfl ?_
  refine vaskC (as := [.int (xs (i + 1)), .int (xs (i + 2))]) (rest := []) (c_X8_learns hC hW _ _) dL_law_388 ob_X gl_44 rfl (Nat.le_of_ble_eq_true rfl) (Nat.le_of_ble_eq_true rfl) (fun r S1 h => ?_) rfl
  obtain ⟨h1, h2⟩ := h
  refine valoadn dL_law_391 rfl ?_
  refine vsc5 (k := 1) hL hi (by decide) (by decide) dL_law_392 dL_law_393 dL_law_394 dL_law_395 dL_law_396 rfl rfl ?_
  refine vsc5 (k := 2) hL hi (by decide) (by decide) dL_law_397 dL_law_398 dL_law_399 dL_law_400 dL_law_401 rfl rfl ?_
  refine vaskM (as := [.int (xs (i + 1)), .int (xs (i + 2))]) (rest := [.int r]) (c_X9_learns hM hW _ _) dL_law_402 ob_Mo gl_47 rfl (Nat.le_of_ble_eq_true rfl) (Nat.le_of_ble_eq_true rfl) (fun r2 S2 g => ?_) rfl
  obtain ⟨g1, g2⟩ := g
  refine vicmp_eq (tgt := 1279) dL_law_405 (by decide) (by rw [h1, g1]) ?_
  exact k _ S1 S2 (w_learns hW _ _) h2 g2
set_option maxRecDepth 100000 in
set_option maxHeartbeats 4000000 in
theorem law_becomes (hL : L ≤ 3072) (hi : i + 6 ≤ L) (hW : WS σ) (hC : RepC σ SC) (hM : RepM σ SM) (k : ∀ (τ : Sig) (SC' SM' : zSt), WS τ → RepC τ SC' → RepM τ SM' → vZ v b L xs 1279 (vlv v b i) [] SC' SM') : vZ v b L xs 410 (vlv v b i) [] SC SM := by
  refine valoadn dL_law_410 rfl ?_
  refine vsc5 (k := 1) hL hi (by decide) (by decide) dL_law_411 dL_law_412 dL_law_413 dL_law_414 dL_law_415 rfl rfl ?_
  refine vsc5 (k := 2) hL hi (by decide) (by decide) dL_law_416 dL_law_417 dL_law_418 dL_law_419 dL_law_420 rfl rfl ?_
  refine vsc5 (k := 3) hL hi (by decide) (by decide) dL_law_421 dL_law_422 dL_law_423 dL_law_424 dL_law_425 rfl rfl ?_
  refine vaskC (as := [.int (xs (i + 1)), .int (xs (i + 2)), .int (xs (i + 3))]) (rest := []) (c_X8_becomes hC hW _ _ _) dL_law_426 ob_X gl_48 rfl (Nat.le_of_ble_eq_true rfl) (Nat.le_of_ble_eq_true rfl) (fun r S1 h => ?_) rfl
  obtain ⟨h1, h2⟩ := h
  refine valoadn dL_law_429 rfl ?_
  refine vsc5 (k := 1) hL hi (by decide) (by decide) dL_law_430 dL_law_431 dL_law_432 dL_law_433 dL_law_434 rfl rfl ?_
  refine vsc5 (k := 2) hL hi (by decide) (by decide) dL_law_435 dL_law_436 dL_law_437 dL_law_438 dL_law_439 rfl rfl ?_
  refine vsc5 (k := 3) hL hi (by decide) (by decide) dL_law_440 dL_law_441 dL_law_442 dL_law_443 dL_law_444 rfl rfl ?_
  refine vaskM (as := [.int (xs (i + 1)), .int (xs (i + 2)), .int (xs (i + 3))]) (rest := [.int r]) (c_X9_becomes hM hW _ _ _) dL_law_445 ob_Mo gl_52 rfl (Nat.le_of_ble_eq_true rfl) (Nat.le_of_ble_eq_true rfl) (fun r2 S2 g => ?_) rfl
  obtain ⟨g1, g2⟩ := g
  refine vicmp_eq (tgt := 1279) dL_law_448 (by decide) (by rw [h1, g1]) ?_
  exact k _ S1 S2 (w_becomes hW _ _ _) h2 g2
set_option maxRecDepth 100000 in
set_option maxHeartbeats 4000000 in
theorem law_turn (hL : L ≤ 3072) (hi : i + 6 ≤ L) (hW : WS σ) (hC : RepC σ SC) (hM : RepM σ SM) (k : ∀ (τ : Sig) (SC' SM' : zSt), WS τ → RepC τ SC' → RepM τ SM' → vZ v b L xs 1279 (vlv v b i) [] SC' SM') : vZ v b L xs 453 (vlv v b i) [] SC SM := by
  refine valoadn dL_law_453 rfl ?_
  refine vsc5 (k := 1) hL hi (by decide) (by decide) dL_law_454 dL_law_455 dL_law_456 dL_law_457 dL_law_458 rfl rfl ?_
  refine vsc5 (k := 2) hL hi (by decide) (by decide) dL_law_459 dL_law_460 dL_law_461 dL_law_462 dL_law_463 rfl rfl ?_
  refine vsc5 (k := 3) hL hi (by decide) (by decide) dL_law_464 dL_law_465 dL_law_466 dL_law_467 dL_law_468 rfl rfl ?_
  refine vaskC (as := [.int (xs (i + 1)), .int (xs (i + 2)), .int (xs (i + 3))]) (rest := []) (c_X8_turn hC hW _ _ _) dL_law_469 ob_X gl_53 rfl (Nat.le_of_ble_eq_true rfl) (Nat.le_of_ble_eq_true rfl) (fun r S1 h => ?_) rfl
  obtain ⟨h1, h2⟩ := h
  refine valoadn dL_law_472 rfl ?_
  refine vsc5 (k := 1) hL hi (by decide) (by decide) dL_law_473 dL_law_474 dL_law_475 dL_law_476 dL_law_477 rfl rfl ?_
  refine vsc5 (k := 2) hL hi (by decide) (by decide) dL_law_478 dL_law_479 dL_law_480 dL_law_481 dL_law_482 rfl rfl ?_
  refine vsc5 (k := 3) hL hi (by decide) (by decide) dL_law_483 dL_law_484 dL_law_485 dL_law_486 dL_law_487 rfl rfl ?_
  refine vaskM (as := [.int (xs (i + 1)), .int (xs (i + 2)), .int (xs (i + 3))]) (rest := [.int r]) (c_X9_turn hM hW _ _ _) dL_law_488 ob_Mo gl_56 rfl (Nat.le_of_ble_eq_true rfl) (Nat.le_of_ble_eq_true rfl) (fun r2 S2 g => ?_) rfl
  obtain ⟨g1, g2⟩ := g
  refine vicmp_eq (tgt := 1279) dL_law_491 (by decide) (by rw [h1, g1]) ?_
  exact k _ S1 S2 (w_turn hW _ _ _) h2 g2
set_option maxRecDepth 100000 in
set_option maxHeartbeats 4000000 in
theorem law_months (hL : L ≤ 3072) (hi : i + 6 ≤ L) (hW : WS σ) (hC : RepC σ SC) (hM : RepM σ SM) (k : ∀ (τ : Sig) (SC' SM' : zSt), WS τ → RepC τ SC' → RepM τ SM' → vZ v b L xs 1279 (vlv v b i) [] SC' SM') : vZ v b L xs 496 (vlv v b i) [] SC SM := by
  refine valoadn dL_law_496 rfl ?_
  refine vsc5 (k := 1) hL hi (by decide) (by decide) dL_law_497 dL_law_498 dL_law_499 dL_law_500 dL_law_501 rfl rfl ?_
  refine vaskC (as := [.int (xs (i + 1))]) (rest := []) (c_X8_months hC hW _) dL_law_502 ob_X gl_57 rfl (Nat.le_of_ble_eq_true rfl) (Nat.le_of_ble_eq_true rfl) (fun r S1 h => ?_) rfl
  obtain ⟨h1, h2⟩ := h
  refine valoadn dL_law_505 rfl ?_
  refine vsc5 (k := 1) hL hi (by decide) (by decide) dL_law_506 dL_law_507 dL_law_508 dL_law_509 dL_law_510 rfl rfl ?_
  refine vaskM (as := [.int (xs (i + 1))]) (rest := [.int r]) (c_X9_months hM hW _) dL_law_511 ob_Mo gl_60 rfl (Nat.le_of_ble_eq_true rfl) (Nat.le_of_ble_eq_true rfl) (fun r2 S2 g => ?_) rfl
  obtain ⟨g1, g2⟩ := g
  refine vicmp_eq (tgt := 1279) dL_law_514 (by decide) (by rw [h1, g1]) ?_
  exact k _ S1 S2 (w_months hW _) h2 g2
set_option maxRecDepth 100000 in
set_option maxHeartbeats 4000000 in
theorem law_faceThen (hL : L ≤ 3072) (hi : i + 6 ≤ L) (hW : WS σ) (hC : RepC σ SC) (hM : RepM σ SM) (k : ∀ (τ : Sig) (SC' SM' : zSt), WS τ → RepC τ SC' → RepM τ SM' → vZ v b L xs 1279 (vlv v b i) [] SC' SM') : vZ v b L xs 519 (vlv v b i) [] SC SM := by
  refine valoadn dL_law_519 rfl ?_
  refine vsc5 (k := 1) hL hi (by decide) (by decide) dL_law_520 dL_law_521 dL_law_522 dL_law_523 dL_law_524 rfl rfl ?_
  refine vsc5 (k := 2) hL hi (by decide) (by decide) dL_law_525 dL_law_526 dL_law_527 dL_law_528 dL_law_529 rfl rfl ?_
  refine vsc5 (k := 3) hL hi (by decide) (by decide) dL_law_530 dL_law_531 dL_law_532 dL_law_533 dL_law_534 rfl rfl ?_
  refine vaskC (as := [.int (xs (i + 1)), .int (xs (i + 2)), .int (xs (i + 3))]) (rest := []) (c_X8_faceThen hC hW _ _ _) dL_law_535 ob_X gl_61 rfl (Nat.le_of_ble_eq_true rfl) (Nat.le_of_ble_eq_true rfl) (fun r S1 h => ?_) rfl
  obtain ⟨h1, h2⟩ := h
  refine valoadn dL_law_538 rfl ?_
  refine vsc5 (k := 1) hL hi (by decide) (by decide) dL_law_539 dL_law_540 dL_law_541 dL_law_542 dL_law_543 rfl rfl ?_
  refine vsc5 (k := 2) hL hi (by decide) (by decide) dL_law_544 dL_law_545 dL_law_546 dL_law_547 dL_law_548 rfl rfl ?_
  refine vsc5 (k := 3) hL hi (by decide) (by decide) dL_law_549 dL_law_550 dL_law_551 dL_law_552 dL_law_553 rfl rfl ?_
  refine vaskM (as := [.int (xs (i + 1)), .int (xs (i + 2)), .int (xs (i + 3))]) (rest := [.int r]) (c_X9_faceThen hM hW _ _ _) dL_law_554 ob_Mo gl_64 rfl (Nat.le_of_ble_eq_true rfl) (Nat.le_of_ble_eq_true rfl) (fun r2 S2 g => ?_) rfl
  obtain ⟨g1, g2⟩ := g
  refine vicmp_eq (tgt := 1279) dL_law_557 (by decide) (by rw [h1, g1]) ?_
  exact k _ S1 S2 (w_same hW) h2 g2
set_option maxRecDepth 100000 in
set_option maxHeartbeats 4000000 in
theorem law_wornThen (hL : L ≤ 3072) (hi : i + 6 ≤ L) (hW : WS σ) (hC : RepC σ SC) (hM : RepM σ SM) (k : ∀ (τ : Sig) (SC' SM' : zSt), WS τ → RepC τ SC' → RepM τ SM' → vZ v b L xs 1279 (vlv v b i) [] SC' SM') : vZ v b L xs 562 (vlv v b i) [] SC SM := by
  refine valoadn dL_law_562 rfl ?_
  refine vsc5 (k := 1) hL hi (by decide) (by decide) dL_law_563 dL_law_564 dL_law_565 dL_law_566 dL_law_567 rfl rfl ?_
  refine vsc5 (k := 2) hL hi (by decide) (by decide) dL_law_568 dL_law_569 dL_law_570 dL_law_571 dL_law_572 rfl rfl ?_
  refine vaskC (as := [.int (xs (i + 1)), .int (xs (i + 2))]) (rest := []) (c_X8_wornThen hC hW _ _) dL_law_573 ob_X gl_65 rfl (Nat.le_of_ble_eq_true rfl) (Nat.le_of_ble_eq_true rfl) (fun r S1 h => ?_) rfl
  obtain ⟨h1, h2⟩ := h
  refine valoadn dL_law_576 rfl ?_
  refine vsc5 (k := 1) hL hi (by decide) (by decide) dL_law_577 dL_law_578 dL_law_579 dL_law_580 dL_law_581 rfl rfl ?_
  refine vsc5 (k := 2) hL hi (by decide) (by decide) dL_law_582 dL_law_583 dL_law_584 dL_law_585 dL_law_586 rfl rfl ?_
  refine vaskM (as := [.int (xs (i + 1)), .int (xs (i + 2))]) (rest := [.int r]) (c_X9_wornThen hM hW _ _) dL_law_587 ob_Mo gl_68 rfl (Nat.le_of_ble_eq_true rfl) (Nat.le_of_ble_eq_true rfl) (fun r2 S2 g => ?_) rfl
  obtain ⟨g1, g2⟩ := g
  refine vicmp_eq (tgt := 1279) dL_law_590 (by decide) (by rw [h1, g1]) ?_
  exact k _ S1 S2 (w_same hW) h2 g2
set_option maxRecDepth 100000 in
set_option maxHeartbeats 4000000 in
theorem law_first (hL : L ≤ 3072) (hi : i + 6 ≤ L) (hW : WS σ) (hC : RepC σ SC) (hM : RepM σ SM) (k : ∀ (τ : Sig) (SC' SM' : zSt), WS τ → RepC τ SC' → RepM τ SM' → vZ v b L xs 1279 (vlv v b i) [] SC' SM') : vZ v b L xs 595 (vlv v b i) [] SC SM := by
  refine valoadn dL_law_595 rfl ?_
  refine vsc5 (k := 1) hL hi (by decide) (by decide) dL_law_596 dL_law_597 dL_law_598 dL_law_599 dL_law_600 rfl rfl ?_
  refine vaskC (as := [.int (xs (i + 1))]) (rest := []) (c_X8_first hC hW _) dL_law_601 ob_X gl_69 rfl (Nat.le_of_ble_eq_true rfl) (Nat.le_of_ble_eq_true rfl) (fun r S1 h => ?_) rfl
  obtain ⟨h1, h2⟩ := h
  refine valoadn dL_law_604 rfl ?_
  refine vsc5 (k := 1) hL hi (by decide) (by decide) dL_law_605 dL_law_606 dL_law_607 dL_law_608 dL_law_609 rfl rfl ?_
  refine vaskM (as := [.int (xs (i + 1))]) (rest := [.int r]) (c_X9_first hM hW _) dL_law_610 ob_Mo gl_72 rfl (Nat.le_of_ble_eq_true rfl) (Nat.le_of_ble_eq_true rfl) (fun r2 S2 g => ?_) rfl
  obtain ⟨g1, g2⟩ := g
  refine vicmp_eq (tgt := 1279) dL_law_613 (by decide) (by rw [h1, g1]) ?_
  exact k _ S1 S2 (w_same hW) h2 g2
set_option maxRecDepth 100000 in
set_option maxHeartbeats 4000000 in
theorem law_meets (hL : L ≤ 3072) (hi : i + 6 ≤ L) (hW : WS σ) (hC : RepC σ SC) (hM : RepM σ SM) (k : ∀ (τ : Sig) (SC' SM' : zSt), WS τ → RepC τ SC' → RepM τ SM' → vZ v b L xs 1279 (vlv v b i) [] SC' SM') : vZ v b L xs 618 (vlv v b i) [] SC SM := by
  refine valoadn dL_law_618 rfl ?_
  refine vsc5 (k := 1) hL hi (by decide) (by decide) dL_law_619 dL_law_620 dL_law_621 dL_law_622 dL_law_623 rfl rfl ?_
  refine vsc5 (k := 2) hL hi (by decide) (by decide) dL_law_624 dL_law_625 dL_law_626 dL_law_627 dL_law_628 rfl rfl ?_
  refine vaskC (as := [.int (xs (i + 1)), .int (xs (i + 2))]) (rest := []) (c_X8_meets hC hW _ _) dL_law_629 ob_X gl_73 rfl (Nat.le_of_ble_eq_true rfl) (Nat.le_of_ble_eq_true rfl) (fun r S1 h => ?_) rfl
  obtain ⟨h1, h2⟩ := h
  refine valoadn dL_law_632 rfl ?_
  refine vsc5 (k := 1) hL hi (by decide) (by decide) dL_law_633 dL_law_634 dL_law_635 dL_law_636 dL_law_637 rfl rfl ?_
  refine vsc5 (k := 2) hL hi (by decide) (by decide) dL_law_638 dL_law_639 dL_law_640 dL_law_641 dL_law_642 rfl rfl ?_
  refine vaskM (as := [.int (xs (i + 1)), .int (xs (i + 2))]) (rest := [.int r]) (c_X9_meets hM hW _ _) dL_law_643 ob_Mo gl_76 rfl (Nat.le_of_ble_eq_true rfl) (Nat.le_of_ble_eq_true rfl) (fun r2 S2 g => ?_) rfl
  obtain ⟨g1, g2⟩ := g
  refine vicmp_eq (tgt := 1279) dL_law_646 (by decide) (by rw [h1, g1]) ?_
  exact k _ S1 S2 (w_same hW) h2 g2
set_option maxRecDepth 100000 in
set_option maxHeartbeats 4000000 in
theorem law_deceived (hL : L ≤ 3072) (hi : i + 6 ≤ L) (hW : WS σ) (hC : RepC σ SC) (hM : RepM σ SM) (k : ∀ (τ : Sig) (SC' SM' : zSt), WS τ → RepC τ SC' → RepM τ SM' → vZ v b L xs 1279 (vlv v b i) [] SC' SM') : vZ v b L xs 651 (vlv v b i) [] SC SM := by
  refine valoadn dL_law_651 rfl ?_
  refine vsc5 (k := 1) hL hi (by decide) (by decide) dL_law_652 dL_law_653 dL_law_654 dL_law_655 dL_law_656 rfl rfl ?_
  refine vsc5 (k := 2) hL hi (by decide) (by decide) dL_law_657 dL_law_658 dL_law_659 dL_law_660 dL_law_661 rfl rfl ?_
  refine vaskC (as := [.int (xs (i + 1)), .int (xs (i + 2))]) (rest := []) (c_X8_deceived hC hW _ _) dL_law_662 ob_X gl_77 rfl (Nat.le_of_ble_eq_true rfl) (Nat.le_of_ble_eq_true rfl) (fun r S1 h => ?_) rfl
  obtain ⟨h1, h2⟩ := h
  refine valoadn dL_law_665 rfl ?_
  refine vsc5 (k := 1) hL hi (by decide) (by decide) dL_law_666 dL_law_667 dL_law_668 dL_law_669 dL_law_670 rfl rfl ?_
  refine vsc5 (k := 2) hL hi (by decide) (by decide) dL_law_671 dL_law_672 dL_law_673 dL_law_674 dL_law_675 rfl rfl ?_
  refine vaskM (as := [.int (xs (i + 1)), .int (xs (i + 2))]) (rest := [.int r]) (c_X9_deceived hM hW _ _) dL_law_676 ob_Mo gl_80 rfl (Nat.le_of_ble_eq_true rfl) (Nat.le_of_ble_eq_true rfl) (fun r2 S2 g => ?_) rfl
  obtain ⟨g1, g2⟩ := g
  refine vicmp_eq (tgt := 1279) dL_law_679 (by decide) (by rw [h1, g1]) ?_
  exact k _ S1 S2 (w_same hW) h2 g2
set_option maxRecDepth 100000 in
set_option maxHeartbeats 4000000 in
theorem law_famous (hL : L ≤ 3072) (hi : i + 6 ≤ L) (hW : WS σ) (hC : RepC σ SC) (hM : RepM σ SM) (k : ∀ (τ : Sig) (SC' SM' : zSt), WS τ → RepC τ SC' → RepM τ SM' → vZ v b L xs 1279 (vlv v b i) [] SC' SM') : vZ v b L xs 684 (vlv v b i) [] SC SM := by
  refine valoadn dL_law_684 rfl ?_
  refine vsc5 (k := 1) hL hi (by decide) (by decide) dL_law_685 dL_law_686 dL_law_687 dL_law_688 dL_law_689 rfl rfl ?_
  refine vaskC (as := [.int (xs (i + 1))]) (rest := []) (c_X8_famous hC hW _) dL_law_690 ob_X gl_81 rfl (Nat.le_of_ble_eq_true rfl) (Nat.le_of_ble_eq_true rfl) (fun r S1 h => ?_) rfl
  obtain ⟨h1, h2⟩ := h
  refine valoadn dL_law_693 rfl ?_
  refine vsc5 (k := 1) hL hi (by decide) (by decide) dL_law_694 dL_law_695 dL_law_696 dL_law_697 dL_law_698 rfl rfl ?_
  refine vaskM (as := [.int (xs (i + 1))]) (rest := [.int r]) (c_X9_famous hM hW _) dL_law_699 ob_Mo gl_84 rfl (Nat.le_of_ble_eq_true rfl) (Nat.le_of_ble_eq_true rfl) (fun r2 S2 g => ?_) rfl
  obtain ⟨g1, g2⟩ := g
  refine vicmp_eq (tgt := 1279) dL_law_702 (by decide) (by rw [h1, g1]) ?_
  exact k _ S1 S2 (w_same hW) h2 g2
set_option maxRecDepth 100000 in
set_option maxHeartbeats 4000000 in
theorem law_lend (hL : L ≤ 3072) (hi : i + 6 ≤ L) (hW : WS σ) (hC : RepC σ SC) (hM : RepM σ SM) (k : ∀ (τ : Sig) (SC' SM' : zSt), WS τ → RepC τ SC' → RepM τ SM' → vZ v b L xs 1279 (vlv v b i) [] SC' SM') : vZ v b L xs 707 (vlv v b i) [] SC SM := by
  refine valoadn dL_law_707 rfl ?_
  refine vsc5 (k := 1) hL hi (by decide) (by decide) dL_law_708 dL_law_709 dL_law_710 dL_law_711 dL_law_712 rfl rfl ?_
  refine vsc5 (k := 2) hL hi (by decide) (by decide) dL_law_713 dL_law_714 dL_law_715 dL_law_716 dL_law_717 rfl rfl ?_
  refine vsc5 (k := 3) hL hi (by decide) (by decide) dL_law_718 dL_law_719 dL_law_720 dL_law_721 dL_law_722 rfl rfl ?_
  refine vaskC (as := [.int (xs (i + 1)), .int (xs (i + 2)), .int (xs (i + 3))]) (rest := []) (c_X8_lend hC hW _ _ _) dL_law_723 ob_X gl_85 rfl (Nat.le_of_ble_eq_true rfl) (Nat.le_of_ble_eq_true rfl) (fun r S1 h => ?_) rfl
  obtain ⟨h1, h2⟩ := h
  refine valoadn dL_law_726 rfl ?_
  refine vsc5 (k := 1) hL hi (by decide) (by decide) dL_law_727 dL_law_728 dL_law_729 dL_law_730 dL_law_731 rfl rfl ?_
  refine vsc5 (k := 2) hL hi (by decide) (by decide) dL_law_732 dL_law_733 dL_law_734 dL_law_735 dL_law_736 rfl rfl ?_
  refine vsc5 (k := 3) hL hi (by decide) (by decide) dL_law_737 dL_law_738 dL_law_739 dL_law_740 dL_law_741 rfl rfl ?_
  refine vaskM (as := [.int (xs (i + 1)), .int (xs (i + 2)), .int (xs (i + 3))]) (rest := [.int r]) (c_X9_lend hM hW _ _ _) dL_law_742 ob_Mo gl_88 rfl (Nat.le_of_ble_eq_true rfl) (Nat.le_of_ble_eq_true rfl) (fun r2 S2 g => ?_) rfl
  obtain ⟨g1, g2⟩ := g
  refine vicmp_eq (tgt := 1279) dL_law_745 (by decide) (by rw [h1, g1]) ?_
  exact k _ S1 S2 (w_same hW) h2 g2
set_option maxRecDepth 100000 in
set_option maxHeartbeats 4000000 in
theorem law_take (hL : L ≤ 3072) (hi : i + 6 ≤ L) (hW : WS σ) (hC : RepC σ SC) (hM : RepM σ SM) (k : ∀ (τ : Sig) (SC' SM' : zSt), WS τ → RepC τ SC' → RepM τ SM' → vZ v b L xs 1279 (vlv v b i) [] SC' SM') : vZ v b L xs 750 (vlv v b i) [] SC SM := by
  refine valoadn dL_law_750 rfl ?_
  refine vsc5 (k := 1) hL hi (by decide) (by decide) dL_law_751 dL_law_752 dL_law_753 dL_law_754 dL_law_755 rfl rfl ?_
  refine vsc5 (k := 2) hL hi (by decide) (by decide) dL_law_756 dL_law_757 dL_law_758 dL_law_759 dL_law_760 rfl rfl ?_
  refine vaskC (as := [.int (xs (i + 1)), .int (xs (i + 2))]) (rest := []) (c_X8_take hC hW _ _) dL_law_761 ob_X gl_89 rfl (Nat.le_of_ble_eq_true rfl) (Nat.le_of_ble_eq_true rfl) (fun r S1 h => ?_) rfl
  obtain ⟨h1, h2⟩ := h
  refine valoadn dL_law_764 rfl ?_
  refine vsc5 (k := 1) hL hi (by decide) (by decide) dL_law_765 dL_law_766 dL_law_767 dL_law_768 dL_law_769 rfl rfl ?_
  refine vsc5 (k := 2) hL hi (by decide) (by decide) dL_law_770 dL_law_771 dL_law_772 dL_law_773 dL_law_774 rfl rfl ?_
  refine vaskM (as := [.int (xs (i + 1)), .int (xs (i + 2))]) (rest := [.int r]) (c_X9_take hM hW _ _) dL_law_775 ob_Mo gl_92 rfl (Nat.le_of_ble_eq_true rfl) (Nat.le_of_ble_eq_true rfl) (fun r2 S2 g => ?_) rfl
  obtain ⟨g1, g2⟩ := g
  refine vicmp_eq (tgt := 1279) dL_law_778 (by decide) (by rw [h1, g1]) ?_
  exact k _ S1 S2 (w_same hW) h2 g2
set_option maxRecDepth 100000 in
set_option maxHeartbeats 4000000 in
theorem law_keep (hL : L ≤ 3072) (hi : i + 6 ≤ L) (hW : WS σ) (hC : RepC σ SC) (hM : RepM σ SM) (k : ∀ (τ : Sig) (SC' SM' : zSt), WS τ → RepC τ SC' → RepM τ SM' → vZ v b L xs 1279 (vlv v b i) [] SC' SM') : vZ v b L xs 783 (vlv v b i) [] SC SM := by
  refine valoadn dL_law_783 rfl ?_
  refine vsc5 (k := 1) hL hi (by decide) (by decide) dL_law_784 dL_law_785 dL_law_786 dL_law_787 dL_law_788 rfl rfl ?_
  refine vaskC (as := [.int (xs (i + 1))]) (rest := []) (c_X8_keep hC hW _) dL_law_789 ob_X gl_93 rfl (Nat.le_of_ble_eq_true rfl) (Nat.le_of_ble_eq_true rfl) (fun r S1 h => ?_) rfl
  obtain ⟨h1, h2⟩ := h
  refine valoadn dL_law_792 rfl ?_
  refine vsc5 (k := 1) hL hi (by decide) (by decide) dL_law_793 dL_law_794 dL_law_795 dL_law_796 dL_law_797 rfl rfl ?_
  refine vaskM (as := [.int (xs (i + 1))]) (rest := [.int r]) (c_X9_keep hM hW _) dL_law_798 ob_Mo gl_96 rfl (Nat.le_of_ble_eq_true rfl) (Nat.le_of_ble_eq_true rfl) (fun r2 S2 g => ?_) rfl
  obtain ⟨g1, g2⟩ := g
  refine vicmp_eq (tgt := 1279) dL_law_801 (by decide) (by rw [h1, g1]) ?_
  exact k _ S1 S2 (w_same hW) h2 g2
set_option maxRecDepth 100000 in
set_option maxHeartbeats 4000000 in
theorem law_chained (hL : L ≤ 3072) (hi : i + 6 ≤ L) (hW : WS σ) (hC : RepC σ SC) (hM : RepM σ SM) (k : ∀ (τ : Sig) (SC' SM' : zSt), WS τ → RepC τ SC' → RepM τ SM' → vZ v b L xs 1279 (vlv v b i) [] SC' SM') : vZ v b L xs 806 (vlv v b i) [] SC SM := by
  refine valoadn dL_law_806 rfl ?_
  refine vsc5 (k := 1) hL hi (by decide) (by decide) dL_law_807 dL_law_808 dL_law_809 dL_law_810 dL_law_811 rfl rfl ?_
  refine vaskC (as := [.int (xs (i + 1))]) (rest := []) (c_X8_chained hC hW _) dL_law_812 ob_X gl_97 rfl (Nat.le_of_ble_eq_true rfl) (Nat.le_of_ble_eq_true rfl) (fun r S1 h => ?_) rfl
  obtain ⟨h1, h2⟩ := h
  refine valoadn dL_law_815 rfl ?_
  refine vsc5 (k := 1) hL hi (by decide) (by decide) dL_law_816 dL_law_817 dL_law_818 dL_law_819 dL_law_820 rfl rfl ?_
  refine vaskM (as := [.int (xs (i + 1))]) (rest := [.int r]) (c_X9_chained hM hW _) dL_law_821 ob_Mo gl_100 rfl (Nat.le_of_ble_eq_true rfl) (Nat.le_of_ble_eq_true rfl) (fun r2 S2 g => ?_) rfl
  obtain ⟨g1, g2⟩ := g
  refine vicmp_eq (tgt := 1279) dL_law_824 (by decide) (by rw [h1, g1]) ?_
  exact k _ S1 S2 (w_same hW) h2 g2
set_option maxRecDepth 100000 in
set_option maxHeartbeats 4000000 in
theorem law_lot (hL : L ≤ 3072) (hi : i + 6 ≤ L) (hW : WS σ) (hC : RepC σ SC) (hM : RepM σ SM) (k : ∀ (τ : Sig) (SC' SM' : zSt), WS τ → RepC τ SC' → RepM τ SM' → vZ v b L xs 1279 (vlv v b i) [] SC' SM') : vZ v b L xs 829 (vlv v b i) [] SC SM := by
  refine valoadn dL_law_829 rfl ?_
  refine vsc5 (k := 1) hL hi (by decide) (by decide) dL_law_830 dL_law_831 dL_law_832 dL_law_833 dL_law_834 rfl rfl ?_
  refine vaskC (as := [.int (xs (i + 1))]) (rest := []) (c_X8_lot hC hW _) dL_law_835 ob_X gl_101 rfl (Nat.le_of_ble_eq_true rfl) (Nat.le_of_ble_eq_true rfl) (fun r S1 h => ?_) rfl
  obtain ⟨h1, h2⟩ := h
  refine valoadn dL_law_838 rfl ?_
  refine vsc5 (k := 1) hL hi (by decide) (by decide) dL_law_839 dL_law_840 dL_law_841 dL_law_842 dL_law_843 rfl rfl ?_
  refine vaskM (as := [.int (xs (i + 1))]) (rest := [.int r]) (c_X9_lot hM hW _) dL_law_844 ob_Mo gl_104 rfl (Nat.le_of_ble_eq_true rfl) (Nat.le_of_ble_eq_true rfl) (fun r2 S2 g => ?_) rfl
  obtain ⟨g1, g2⟩ := g
  refine vicmp_eq (tgt := 1279) dL_law_847 (by decide) (by rw [h1, g1]) ?_
  exact k _ S1 S2 (w_same hW) h2 g2
set_option maxRecDepth 100000 in
set_option maxHeartbeats 4000000 in
theorem law_fewest (hL : L ≤ 3072) (hi : i + 6 ≤ L) (hW : WS σ) (hC : RepC σ SC) (hM : RepM σ SM) (k : ∀ (τ : Sig) (SC' SM' : zSt), WS τ → RepC τ SC' → RepM τ SM' → vZ v b L xs 1279 (vlv v b i) [] SC' SM') : vZ v b L xs 852 (vlv v b i) [] SC SM := by
  refine valoadn dL_law_852 rfl ?_
  refine vsc5 (k := 1) hL hi (by decide) (by decide) dL_law_853 dL_law_854 dL_law_855 dL_law_856 dL_law_857 rfl rfl ?_
  refine vsc5 (k := 2) hL hi (by decide) (by decide) dL_law_858 dL_law_859 dL_law_860 dL_law_861 dL_law_862 rfl rfl ?_
  refine vsc5 (k := 3) hL hi (by decide) (by decide) dL_law_863 dL_law_864 dL_law_865 dL_law_866 dL_law_867 rfl rfl ?_
  refine vaskC (as := [.int (xs (i + 1)), .int (xs (i + 2)), .int (xs (i + 3))]) (rest := []) (c_X8_fewest hC hW _ _ _) dL_law_868 ob_X gl_105 rfl (Nat.le_of_ble_eq_true rfl) (Nat.le_of_ble_eq_true rfl) (fun r S1 h => ?_) rfl
  obtain ⟨h1, h2⟩ := h
  refine valoadn dL_law_871 rfl ?_
  refine vsc5 (k := 1) hL hi (by decide) (by decide) dL_law_872 dL_law_873 dL_law_874 dL_law_875 dL_law_876 rfl rfl ?_
  refine vsc5 (k := 2) hL hi (by decide) (by decide) dL_law_877 dL_law_878 dL_law_879 dL_law_880 dL_law_881 rfl rfl ?_
  refine vsc5 (k := 3) hL hi (by decide) (by decide) dL_law_882 dL_law_883 dL_law_884 dL_law_885 dL_law_886 rfl rfl ?_
  refine vaskM (as := [.int (xs (i + 1)), .int (xs (i + 2)), .int (xs (i + 3))]) (rest := [.int r]) (c_X9_fewest hM hW _ _ _) dL_law_887 ob_Mo gl_108 rfl (Nat.le_of_ble_eq_true rfl) (Nat.le_of_ble_eq_true rfl) (fun r2 S2 g => ?_) rfl
  obtain ⟨g1, g2⟩ := g
  refine vicmp_eq (tgt := 1279) dL_law_890 (by decide) (by rw [h1, g1]) ?_
  exact k _ S1 S2 (w_same hW) h2 g2
set_option maxRecDepth 100000 in
set_option maxHeartbeats 4000000 in
theorem law_who (hL : L ≤ 3072) (hi : i + 6 ≤ L) (hW : WS σ) (hC : RepC σ SC) (hM : RepM σ SM) (k : ∀ (τ : Sig) (SC' SM' : zSt), WS τ → RepC τ SC' → RepM τ SM' → vZ v b L xs 1279 (vlv v b i) [] SC' SM') : vZ v b L xs 895 (vlv v b i) [] SC SM := by
  refine valoadn dL_law_895 rfl ?_
  refine vsc5 (k := 1) hL hi (by decide) (by decide) dL_law_896 dL_law_897 dL_law_898 dL_law_899 dL_law_900 rfl rfl ?_
  refine vaskC (as := [.int (xs (i + 1))]) (rest := []) (c_X8_who hC hW _) dL_law_901 ob_X gl_109 rfl (Nat.le_of_ble_eq_true rfl) (Nat.le_of_ble_eq_true rfl) (fun r S1 h => ?_) rfl
  obtain ⟨h1, h2⟩ := h
  refine valoadn dL_law_904 rfl ?_
  refine vsc5 (k := 1) hL hi (by decide) (by decide) dL_law_905 dL_law_906 dL_law_907 dL_law_908 dL_law_909 rfl rfl ?_
  refine vaskM (as := [.int (xs (i + 1))]) (rest := [.int r]) (c_X9_who hM hW _) dL_law_910 ob_Mo gl_112 rfl (Nat.le_of_ble_eq_true rfl) (Nat.le_of_ble_eq_true rfl) (fun r2 S2 g => ?_) rfl
  obtain ⟨g1, g2⟩ := g
  refine vicmp_eq (tgt := 1279) dL_law_913 (by decide) (by rw [h1, g1]) ?_
  exact k _ S1 S2 (w_same hW) h2 g2
set_option maxRecDepth 100000 in
set_option maxHeartbeats 4000000 in
theorem law_widow (hL : L ≤ 3072) (hi : i + 6 ≤ L) (hW : WS σ) (hC : RepC σ SC) (hM : RepM σ SM) (k : ∀ (τ : Sig) (SC' SM' : zSt), WS τ → RepC τ SC' → RepM τ SM' → vZ v b L xs 1279 (vlv v b i) [] SC' SM') : vZ v b L xs 918 (vlv v b i) [] SC SM := by
  refine valoadn dL_law_918 rfl ?_
  refine vsc5 (k := 1) hL hi (by decide) (by decide) dL_law_919 dL_law_920 dL_law_921 dL_law_922 dL_law_923 rfl rfl ?_
  refine vsc5 (k := 2) hL hi (by decide) (by decide) dL_law_924 dL_law_925 dL_law_926 dL_law_927 dL_law_928 rfl rfl ?_
  refine vaskC (as := [.int (xs (i + 1)), .int (xs (i + 2))]) (rest := []) (c_X8_widow hC hW _ _) dL_law_929 ob_X gl_113 rfl (Nat.le_of_ble_eq_true rfl) (Nat.le_of_ble_eq_true rfl) (fun r S1 h => ?_) rfl
  obtain ⟨h1, h2⟩ := h
  refine valoadn dL_law_932 rfl ?_
  refine vsc5 (k := 1) hL hi (by decide) (by decide) dL_law_933 dL_law_934 dL_law_935 dL_law_936 dL_law_937 rfl rfl ?_
  refine vsc5 (k := 2) hL hi (by decide) (by decide) dL_law_938 dL_law_939 dL_law_940 dL_law_941 dL_law_942 rfl rfl ?_
  refine vaskM (as := [.int (xs (i + 1)), .int (xs (i + 2))]) (rest := [.int r]) (c_X9_widow hM hW _ _) dL_law_943 ob_Mo gl_116 rfl (Nat.le_of_ble_eq_true rfl) (Nat.le_of_ble_eq_true rfl) (fun r2 S2 g => ?_) rfl
  obtain ⟨g1, g2⟩ := g
  refine vicmp_eq (tgt := 1279) dL_law_946 (by decide) (by rw [h1, g1]) ?_
  exact k _ S1 S2 (w_same hW) h2 g2
set_option maxRecDepth 100000 in
set_option maxHeartbeats 4000000 in
theorem law_twins (hL : L ≤ 3072) (hi : i + 6 ≤ L) (hW : WS σ) (hC : RepC σ SC) (hM : RepM σ SM) (k : ∀ (τ : Sig) (SC' SM' : zSt), WS τ → RepC τ SC' → RepM τ SM' → vZ v b L xs 1279 (vlv v b i) [] SC' SM') : vZ v b L xs 951 (vlv v b i) [] SC SM := by
  refine valoadn dL_law_951 rfl ?_
  refine vsc5 (k := 1) hL hi (by decide) (by decide) dL_law_952 dL_law_953 dL_law_954 dL_law_955 dL_law_956 rfl rfl ?_
  refine vaskC (as := [.int (xs (i + 1))]) (rest := []) (c_X8_twins hC hW _) dL_law_957 ob_X gl_117 rfl (Nat.le_of_ble_eq_true rfl) (Nat.le_of_ble_eq_true rfl) (fun r S1 h => ?_) rfl
  obtain ⟨h1, h2⟩ := h
  refine valoadn dL_law_960 rfl ?_
  refine vsc5 (k := 1) hL hi (by decide) (by decide) dL_law_961 dL_law_962 dL_law_963 dL_law_964 dL_law_965 rfl rfl ?_
  refine vaskM (as := [.int (xs (i + 1))]) (rest := [.int r]) (c_X9_twins hM hW _) dL_law_966 ob_Mo gl_120 rfl (Nat.le_of_ble_eq_true rfl) (Nat.le_of_ble_eq_true rfl) (fun r2 S2 g => ?_) rfl
  obtain ⟨g1, g2⟩ := g
  refine vicmp_eq (tgt := 1279) dL_law_969 (by decide) (by rw [h1, g1]) ?_
  exact k _ S1 S2 (w_same hW) h2 g2
set_option maxRecDepth 100000 in
set_option maxHeartbeats 4000000 in
theorem law_two (hL : L ≤ 3072) (hi : i + 6 ≤ L) (hW : WS σ) (hC : RepC σ SC) (hM : RepM σ SM) (k : ∀ (τ : Sig) (SC' SM' : zSt), WS τ → RepC τ SC' → RepM τ SM' → vZ v b L xs 1279 (vlv v b i) [] SC' SM') : vZ v b L xs 974 (vlv v b i) [] SC SM := by
  refine valoadn dL_law_974 rfl ?_
  refine vsc5 (k := 1) hL hi (by decide) (by decide) dL_law_975 dL_law_976 dL_law_977 dL_law_978 dL_law_979 rfl rfl ?_
  refine vsc5 (k := 2) hL hi (by decide) (by decide) dL_law_980 dL_law_981 dL_law_982 dL_law_983 dL_law_984 rfl rfl ?_
  refine vsc5 (k := 3) hL hi (by decide) (by decide) dL_law_985 dL_law_986 dL_law_987 dL_law_988 dL_law_989 rfl rfl ?_
  refine vaskC (as := [.int (xs (i + 1)), .int (xs (i + 2)), .int (xs (i + 3))]) (rest := []) (c_X8_two hC hW _ _ _) dL_law_990 ob_X gl_121 rfl (Nat.le_of_ble_eq_true rfl) (Nat.le_of_ble_eq_true rfl) (fun r S1 h => ?_) rfl
  obtain ⟨h1, h2⟩ := h
  refine valoadn dL_law_993 rfl ?_
  refine vsc5 (k := 1) hL hi (by decide) (by decide) dL_law_994 dL_law_995 dL_law_996 dL_law_997 dL_law_998 rfl rfl ?_
  refine vsc5 (k := 2) hL hi (by decide) (by decide) dL_law_999 dL_law_1000 dL_law_1001 dL_law_1002 dL_law_1003 rfl rfl ?_
  refine vsc5 (k := 3) hL hi (by decide) (by decide) dL_law_1004 dL_law_1005 dL_law_1006 dL_law_1007 dL_law_1008 rfl rfl ?_
  refine vaskM (as := [.int (xs (i + 1)), .int (xs (i + 2)), .int (xs (i + 3))]) (rest := [.int r]) (c_X9_two hM hW _ _ _) dL_law_1009 ob_Mo gl_124 rfl (Nat.le_of_ble_eq_true rfl) (Nat.le_of_ble_eq_true rfl) (fun r2 S2 g => ?_) rfl
  obtain ⟨g1, g2⟩ := g
  refine vicmp_eq (tgt := 1279) dL_law_1012 (by decide) (by rw [h1, g1]) ?_
  exact k _ S1 S2 (w_same hW) h2 g2
set_option maxRecDepth 100000 in
set_option maxHeartbeats 4000000 in
theorem law_quarrel (hL : L ≤ 3072) (hi : i + 6 ≤ L) (hW : WS σ) (hC : RepC σ SC) (hM : RepM σ SM) (k : ∀ (τ : Sig) (SC' SM' : zSt), WS τ → RepC τ SC' → RepM τ SM' → vZ v b L xs 1279 (vlv v b i) [] SC' SM') : vZ v b L xs 1017 (vlv v b i) [] SC SM := by
  refine valoadn dL_law_1017 rfl ?_
  refine vsc5 (k := 1) hL hi (by decide) (by decide) dL_law_1018 dL_law_1019 dL_law_1020 dL_law_1021 dL_law_1022 rfl rfl ?_
  refine vsc5 (k := 2) hL hi (by decide) (by decide) dL_law_1023 dL_law_1024 dL_law_1025 dL_law_1026 dL_law_1027 rfl rfl ?_
  refine vsc5 (k := 3) hL hi (by decide) (by decide) dL_law_1028 dL_law_1029 dL_law_1030 dL_law_1031 dL_law_1032 rfl rfl ?_
  refine vsc5 (k := 4) hL hi (by decide) (by decide) dL_law_1033 dL_law_1034 dL_law_1035 dL_law_1036 dL_law_1037 rfl rfl ?_
  refine vsc5 (k := 5) hL hi (by decide) (by decide) dL_law_1038 dL_law_1039 dL_law_1040 dL_law_1041 dL_law_1042 rfl rfl ?_
  refine vaskCl (as := [.int (xs (i + 1)), .int (xs (i + 2)), .int (xs (i + 3)), .int (xs (i + 4)), .int (xs (i + 5))]) (rest := []) (c_X8_quarrel hC hW _ _ _ _ _) dL_law_1043 ob_X gl_125 rfl (Nat.le_of_ble_eq_true rfl) (Nat.le_of_ble_eq_true rfl) (fun r S1 h => ?_) rfl
  obtain ⟨h1, h2⟩ := h
  refine valoadn dL_law_1046 rfl ?_
  refine vsc5 (k := 1) hL hi (by decide) (by decide) dL_law_1047 dL_law_1048 dL_law_1049 dL_law_1050 dL_law_1051 rfl rfl ?_
  refine vsc5 (k := 2) hL hi (by decide) (by decide) dL_law_1052 dL_law_1053 dL_law_1054 dL_law_1055 dL_law_1056 rfl rfl ?_
  refine vsc5 (k := 3) hL hi (by decide) (by decide) dL_law_1057 dL_law_1058 dL_law_1059 dL_law_1060 dL_law_1061 rfl rfl ?_
  refine vsc5 (k := 4) hL hi (by decide) (by decide) dL_law_1062 dL_law_1063 dL_law_1064 dL_law_1065 dL_law_1066 rfl rfl ?_
  refine vsc5 (k := 5) hL hi (by decide) (by decide) dL_law_1067 dL_law_1068 dL_law_1069 dL_law_1070 dL_law_1071 rfl rfl ?_
  refine vaskMl (as := [.int (xs (i + 1)), .int (xs (i + 2)), .int (xs (i + 3)), .int (xs (i + 4)), .int (xs (i + 5))]) (rest := [.long r]) (c_X9_quarrel hM hW _ _ _ _ _) dL_law_1072 ob_Mo gl_129 rfl (Nat.le_of_ble_eq_true rfl) (Nat.le_of_ble_eq_true rfl) (fun r2 S2 g => ?_) rfl
  obtain ⟨g1, g2⟩ := g
  refine vlcmp dL_law_1075 ?_
  refine vif_eq (tgt := 1279) dL_law_1076 (by decide) (by rw [h1, g1]; exact lg_self _) ?_
  exact k _ S1 S2 (w_same hW) h2 g2
set_option maxRecDepth 100000 in
set_option maxHeartbeats 4000000 in
theorem law_mean (hL : L ≤ 3072) (hi : i + 6 ≤ L) (hW : WS σ) (hC : RepC σ SC) (hM : RepM σ SM) (k : ∀ (τ : Sig) (SC' SM' : zSt), WS τ → RepC τ SC' → RepM τ SM' → vZ v b L xs 1279 (vlv v b i) [] SC' SM') : vZ v b L xs 1081 (vlv v b i) [] SC SM := by
  refine valoadn dL_law_1081 rfl ?_
  refine vsc5 (k := 1) hL hi (by decide) (by decide) dL_law_1082 dL_law_1083 dL_law_1084 dL_law_1085 dL_law_1086 rfl rfl ?_
  refine vaskCl (as := [.int (xs (i + 1))]) (rest := []) (c_X8_mean hC hW _) dL_law_1087 ob_X gl_130 rfl (Nat.le_of_ble_eq_true rfl) (Nat.le_of_ble_eq_true rfl) (fun r S1 h => ?_) rfl
  obtain ⟨h1, h2⟩ := h
  refine valoadn dL_law_1090 rfl ?_
  refine vsc5 (k := 1) hL hi (by decide) (by decide) dL_law_1091 dL_law_1092 dL_law_1093 dL_law_1094 dL_law_1095 rfl rfl ?_
  refine vaskMl (as := [.int (xs (i + 1))]) (rest := [.long r]) (c_X9_mean hM hW _) dL_law_1096 ob_Mo gl_134 rfl (Nat.le_of_ble_eq_true rfl) (Nat.le_of_ble_eq_true rfl) (fun r2 S2 g => ?_) rfl
  obtain ⟨g1, g2⟩ := g
  refine vlcmp dL_law_1099 ?_
  refine vif_eq (tgt := 1279) dL_law_1100 (by decide) (by rw [h1, g1]; exact lg_self _) ?_
  exact k _ S1 S2 (w_same hW) h2 g2
set_option maxRecDepth 100000 in
set_option maxHeartbeats 4000000 in
theorem law_whatIs (hL : L ≤ 3072) (hi : i + 6 ≤ L) (hW : WS σ) (hC : RepC σ SC) (hM : RepM σ SM) (k : ∀ (τ : Sig) (SC' SM' : zSt), WS τ → RepC τ SC' → RepM τ SM' → vZ v b L xs 1279 (vlv v b i) [] SC' SM') : vZ v b L xs 1105 (vlv v b i) [] SC SM := by
  refine valoadn dL_law_1105 rfl ?_
  refine vsc5 (k := 1) hL hi (by decide) (by decide) dL_law_1106 dL_law_1107 dL_law_1108 dL_law_1109 dL_law_1110 rfl rfl ?_
  refine vsc5 (k := 2) hL hi (by decide) (by decide) dL_law_1111 dL_law_1112 dL_law_1113 dL_law_1114 dL_law_1115 rfl rfl ?_
  refine vaskC (as := [.int (xs (i + 1)), .int (xs (i + 2))]) (rest := []) (c_X8_whatIs hC hW _ _) dL_law_1116 ob_X gl_135 rfl (Nat.le_of_ble_eq_true rfl) (Nat.le_of_ble_eq_true rfl) (fun r S1 h => ?_) rfl
  obtain ⟨h1, h2⟩ := h
  refine valoadn dL_law_1119 rfl ?_
  refine vsc5 (k := 1) hL hi (by decide) (by decide) dL_law_1120 dL_law_1121 dL_law_1122 dL_law_1123 dL_law_1124 rfl rfl ?_
  refine vsc5 (k := 2) hL hi (by decide) (by decide) dL_law_1125 dL_law_1126 dL_law_1127 dL_law_1128 dL_law_1129 rfl rfl ?_
  refine vaskM (as := [.int (xs (i + 1)), .int (xs (i + 2))]) (rest := [.int r]) (c_X9_whatIs hM hW _ _) dL_law_1130 ob_Mo gl_138 rfl (Nat.le_of_ble_eq_true rfl) (Nat.le_of_ble_eq_true rfl) (fun r2 S2 g => ?_) rfl
  obtain ⟨g1, g2⟩ := g
  refine vicmp_eq (tgt := 1279) dL_law_1133 (by decide) (by rw [h1, g1]) ?_
  exact k _ S1 S2 (w_same hW) h2 g2
set_option maxRecDepth 100000 in
set_option maxHeartbeats 4000000 in
theorem law_row (hL : L ≤ 3072) (hi : i + 6 ≤ L) (hW : WS σ) (hC : RepC σ SC) (hM : RepM σ SM) (k : ∀ (τ : Sig) (SC' SM' : zSt), WS τ → RepC τ SC' → RepM τ SM' → vZ v b L xs 1279 (vlv v b i) [] SC' SM') : vZ v b L xs 1138 (vlv v b i) [] SC SM := by
  refine valoadn dL_law_1138 rfl ?_
  refine vsc5 (k := 1) hL hi (by decide) (by decide) dL_law_1139 dL_law_1140 dL_law_1141 dL_law_1142 dL_law_1143 rfl rfl ?_
  refine vaskC (as := [.int (xs (i + 1))]) (rest := []) (c_X8_row hC hW _) dL_law_1144 ob_X gl_139 rfl (Nat.le_of_ble_eq_true rfl) (Nat.le_of_ble_eq_true rfl) (fun r S1 h => ?_) rfl
  obtain ⟨h1, h2⟩ := h
  refine valoadn dL_law_1147 rfl ?_
  refine vsc5 (k := 1) hL hi (by decide) (by decide) dL_law_1148 dL_law_1149 dL_law_1150 dL_law_1151 dL_law_1152 rfl rfl ?_
  refine vaskM (as := [.int (xs (i + 1))]) (rest := [.int r]) (c_X9_row hM hW _) dL_law_1153 ob_Mo gl_142 rfl (Nat.le_of_ble_eq_true rfl) (Nat.le_of_ble_eq_true rfl) (fun r2 S2 g => ?_) rfl
  obtain ⟨g1, g2⟩ := g
  refine vicmp_eq (tgt := 1279) dL_law_1156 (by decide) (by rw [h1, g1]) ?_
  exact k _ S1 S2 (w_row hW _) h2 g2
set_option maxRecDepth 100000 in
set_option maxHeartbeats 4000000 in
theorem law_judge (hL : L ≤ 3072) (hi : i + 6 ≤ L) (hW : WS σ) (hC : RepC σ SC) (hM : RepM σ SM) (k : ∀ (τ : Sig) (SC' SM' : zSt), WS τ → RepC τ SC' → RepM τ SM' → vZ v b L xs 1279 (vlv v b i) [] SC' SM') : vZ v b L xs 1161 (vlv v b i) [] SC SM := by
  refine valoadn dL_law_1161 rfl ?_
  refine vaskC (as := []) (rest := []) (c_X8_judge hC hW ) dL_law_1162 ob_X gl_143 rfl (Nat.le_of_ble_eq_true rfl) (Nat.le_of_ble_eq_true rfl) (fun r S1 h => ?_) rfl
  obtain ⟨h1, h2⟩ := h
  refine valoadn dL_law_1165 rfl ?_
  refine vaskM (as := []) (rest := [.int r]) (c_X9_judge hM hW ) dL_law_1166 ob_Mo gl_146 rfl (Nat.le_of_ble_eq_true rfl) (Nat.le_of_ble_eq_true rfl) (fun r2 S2 g => ?_) rfl
  obtain ⟨g1, g2⟩ := g
  refine vicmp_eq (tgt := 1279) dL_law_1169 (by decide) (by rw [h1, g1]) ?_
  exact k _ S1 S2 (w_clear hW) h2 g2
set_option maxRecDepth 100000 in
set_option maxHeartbeats 4000000 in
theorem law_clear (hL : L ≤ 3072) (hi : i + 6 ≤ L) (hW : WS σ) (hC : RepC σ SC) (hM : RepM σ SM) (k : ∀ (τ : Sig) (SC' SM' : zSt), WS τ → RepC τ SC' → RepM τ SM' → vZ v b L xs 1279 (vlv v b i) [] SC' SM') : vZ v b L xs 1174 (vlv v b i) [] SC SM := by
  refine valoadn dL_law_1174 rfl ?_
  refine vaskC (as := []) (rest := []) (c_X8_clear hC hW ) dL_law_1175 ob_X gl_147 rfl (Nat.le_of_ble_eq_true rfl) (Nat.le_of_ble_eq_true rfl) (fun r S1 h => ?_) rfl
  obtain ⟨h1, h2⟩ := h
  refine valoadn dL_law_1178 rfl ?_
  refine vaskM (as := []) (rest := [.int r]) (c_X9_clear hM hW ) dL_law_1179 ob_Mo gl_150 rfl (Nat.le_of_ble_eq_true rfl) (Nat.le_of_ble_eq_true rfl) (fun r2 S2 g => ?_) rfl
  obtain ⟨g1, g2⟩ := g
  refine vicmp_eq (tgt := 1279) dL_law_1182 (by decide) (by rw [h1, g1]) ?_
  exact k _ S1 S2 (w_clear hW) h2 g2
set_option maxRecDepth 100000 in
set_option maxHeartbeats 4000000 in
theorem law_lots {nxt : Int32 → Int32} (hnx : ∀ z : Int32, z * 1664525 + 1013904223 = nxt z) (hL : L ≤ 3072) (hi : i + 6 ≤ L) (hW : WS σ) (hC : RepC σ SC) (hM : RepM σ SM) (k : ∀ (τ : Sig) (SC' SM' : zSt), WS τ → RepC τ SC' → RepM τ SM' → vZ v b L xs 1279 (vlv v b i) [] SC' SM') : vZ v b L xs 1187 (vlv v b i) [] SC SM := by
  refine valoadn dL_law_1187 rfl ?_
  refine vsc5 (k := 1) hL hi (by decide) (by decide) dL_law_1188 dL_law_1189 dL_law_1190 dL_law_1191 dL_law_1192 rfl rfl ?_
  refine vsc5 (k := 2) hL hi (by decide) (by decide) dL_law_1193 dL_law_1194 dL_law_1195 dL_law_1196 dL_law_1197 rfl rfl ?_
  refine vsc5 (k := 3) hL hi (by decide) (by decide) dL_law_1198 dL_law_1199 dL_law_1200 dL_law_1201 dL_law_1202 rfl rfl ?_
  refine vaskC (as := [.int (xs (i + 1)), .int (xs (i + 2)), .int (xs (i + 3))]) (rest := []) (c_X8_lots hnx hC hW _ _ _) dL_law_1203 ob_X gl_151 rfl (Nat.le_of_ble_eq_true rfl) (Nat.le_of_ble_eq_true rfl) (fun r S1 h => ?_) rfl
  obtain ⟨h1, h2⟩ := h
  refine valoadn dL_law_1206 rfl ?_
  refine vsc5 (k := 1) hL hi (by decide) (by decide) dL_law_1207 dL_law_1208 dL_law_1209 dL_law_1210 dL_law_1211 rfl rfl ?_
  refine vsc5 (k := 2) hL hi (by decide) (by decide) dL_law_1212 dL_law_1213 dL_law_1214 dL_law_1215 dL_law_1216 rfl rfl ?_
  refine vsc5 (k := 3) hL hi (by decide) (by decide) dL_law_1217 dL_law_1218 dL_law_1219 dL_law_1220 dL_law_1221 rfl rfl ?_
  refine vaskM (as := [.int (xs (i + 1)), .int (xs (i + 2)), .int (xs (i + 3))]) (rest := [.int r]) (c_X9_lots hnx hM hW _ _ _) dL_law_1222 ob_Mo gl_154 rfl (Nat.le_of_ble_eq_true rfl) (Nat.le_of_ble_eq_true rfl) (fun r2 S2 g => ?_) rfl
  obtain ⟨g1, g2⟩ := g
  refine vicmp_eq (tgt := 1279) dL_law_1225 (by decide) (by rw [h1, g1]) ?_
  exact k _ S1 S2 (w_same hW) h2 g2
set_option maxRecDepth 100000 in
set_option maxHeartbeats 4000000 in
theorem law_image (hL : L ≤ 3072) (hi : i + 6 ≤ L) (hW : WS σ) (hC : RepC σ SC) (hM : RepM σ SM) (k : ∀ (τ : Sig) (SC' SM' : zSt), WS τ → RepC τ SC' → RepM τ SM' → vZ v b L xs 1279 (vlv v b i) [] SC' SM') : vZ v b L xs 1230 (vlv v b i) [] SC SM := by
  refine valoadn dL_law_1230 rfl ?_
  refine vaskC (as := []) (rest := []) (c_X8_image hC hW ) dL_law_1231 ob_X gl_155 rfl (Nat.le_of_ble_eq_true rfl) (Nat.le_of_ble_eq_true rfl) (fun r S1 h => ?_) rfl
  obtain ⟨h1, h2⟩ := h
  refine valoadn dL_law_1234 rfl ?_
  refine vaskM (as := []) (rest := [.int r]) (c_X9_image hM hW ) dL_law_1235 ob_Mo gl_158 rfl (Nat.le_of_ble_eq_true rfl) (Nat.le_of_ble_eq_true rfl) (fun r2 S2 g => ?_) rfl
  obtain ⟨g1, g2⟩ := g
  refine vicmp_eq (tgt := 1279) dL_law_1238 (by decide) (by rw [h1, g1]) ?_
  exact k _ S1 S2 (w_image hW) h2 g2
set_option maxRecDepth 100000 in
set_option maxHeartbeats 4000000 in
theorem law_on (hL : L ≤ 3072) (hi : i + 6 ≤ L) (hW : WS σ) (hC : RepC σ SC) (hM : RepM σ SM) (k : ∀ (τ : Sig) (SC' SM' : zSt), WS τ → RepC τ SC' → RepM τ SM' → vZ v b L xs 1279 (vlv v b i) [] SC' SM') : vZ v b L xs 1243 (vlv v b i) [] SC SM := by
  refine valoadn dL_law_1243 rfl ?_
  refine vaskC (as := []) (rest := []) (c_X8_on hC hW ) dL_law_1244 ob_X gl_159 rfl (Nat.le_of_ble_eq_true rfl) (Nat.le_of_ble_eq_true rfl) (fun r S1 h => ?_) rfl
  obtain ⟨h1, h2⟩ := h
  refine valoadn dL_law_1247 rfl ?_
  refine vaskM (as := []) (rest := [.int r]) (c_X9_on hM hW ) dL_law_1248 ob_Mo gl_162 rfl (Nat.le_of_ble_eq_true rfl) (Nat.le_of_ble_eq_true rfl) (fun r2 S2 g => ?_) rfl
  obtain ⟨g1, g2⟩ := g
  refine vicmp_eq (tgt := 1279) dL_law_1251 (by decide) (by rw [h1, g1]) ?_
  exact k _ S1 S2 (w_on hW) h2 g2
set_option maxRecDepth 100000 in
set_option maxHeartbeats 4000000 in
theorem law_count (hL : L ≤ 3072) (hi : i + 6 ≤ L) (hW : WS σ) (hC : RepC σ SC) (hM : RepM σ SM) (k : ∀ (τ : Sig) (SC' SM' : zSt), WS τ → RepC τ SC' → RepM τ SM' → vZ v b L xs 1279 (vlv v b i) [] SC' SM') : vZ v b L xs 1256 (vlv v b i) [] SC SM := by
  refine valoadn dL_law_1256 rfl ?_
  refine vsc5 (k := 1) hL hi (by decide) (by decide) dL_law_1257 dL_law_1258 dL_law_1259 dL_law_1260 dL_law_1261 rfl rfl ?_
  refine vaskC (as := [.int (xs (i + 1))]) (rest := []) (c_X8_count hC hW _) dL_law_1262 ob_X gl_163 rfl (Nat.le_of_ble_eq_true rfl) (Nat.le_of_ble_eq_true rfl) (fun r S1 h => ?_) rfl
  obtain ⟨h1, h2⟩ := h
  refine valoadn dL_law_1265 rfl ?_
  refine vsc5 (k := 1) hL hi (by decide) (by decide) dL_law_1266 dL_law_1267 dL_law_1268 dL_law_1269 dL_law_1270 rfl rfl ?_
  refine vaskM (as := [.int (xs (i + 1))]) (rest := [.int r]) (c_X9_count hM hW _) dL_law_1271 ob_Mo gl_166 rfl (Nat.le_of_ble_eq_true rfl) (Nat.le_of_ble_eq_true rfl) (fun r2 S2 g => ?_) rfl
  obtain ⟨g1, g2⟩ := g
  refine vicmp_eq (tgt := 1279) dL_law_1274 (by decide) (by rw [h1, g1]) ?_
  exact k _ S1 S2 (w_same hW) h2 g2
set_option maxRecDepth 100000 in
set_option maxHeartbeats 4000000 in
theorem law_switch {nxt : Int32 → Int32} (hnx : ∀ z : Int32, z * 1664525 + 1013904223 = nxt z) {adK adV : Nat → Nat} {fa : Option Nat} (hx : zHS (vC v) adK adV fa) (hL : L ≤ 3072) (hi : i + 6 ≤ L) (hW : WS σ) (hC : RepC σ SC) (hM : RepM σ SM) (u : Int32) (k : ∀ (τ : Sig) (SC' SM' : zSt), WS τ → RepC τ SC' → RepM τ SM' → vZ v b L xs 1279 (vlv v b i) [] SC' SM') : vZ v b L xs 33 (vlv v b i) [.int u] SC SM := by
  by_cases h1 : u.toInt < 0
  · exact vtableOut dL_law_33 (Or.inl h1) (tgt := 1279) (by decide) (k σ SC SM hW hC hM)
  · by_cases h2 : 36 < u.toInt
    · exact vtableOut dL_law_33 (Or.inr h2) (tgt := 1279) (by decide) (k σ SC SM hW hC hM)
    · obtain ⟨j, hj, rfl⟩ : ∃ j, j < 37 ∧ u = nI j := ⟨u.toInt.toNat, by omega, Int32.toInt_inj.mp (by rw [nI_toInt (by omega)]; omega)⟩
      rcases (show j = 0 ∨ j = 1 ∨ j = 2 ∨ j = 3 ∨ j = 4 ∨ j = 5 ∨ j = 6 ∨ j = 7 ∨ j = 8 ∨ j = 9 ∨ j = 10 ∨ j = 11 ∨ j = 12 ∨ j = 13 ∨ j = 14 ∨ j = 15 ∨ j = 16 ∨ j = 17 ∨ j = 18 ∨ j = 19 ∨ j = 20 ∨ j = 21 ∨ j = 22 ∨ j = 23 ∨ j = 24 ∨ j = 25 ∨ j = 26 ∨ j = 27 ∨ j = 28 ∨ j = 29 ∨ j = 30 ∨ j = 31 ∨ j = 32 ∨ j = 33 ∨ j = 34 ∨ j = 35 ∨ j = 36 by omega) with rfl | rfl | rfl | rfl | rfl | rfl | rfl | rfl | rfl | rfl | rfl | rfl | rfl | rfl | rfl | rfl | rfl | rfl | rfl | rfl | rfl | rfl | rfl | rfl | rfl | rfl | rfl | rfl | rfl | rfl | rfl | rfl | rfl | rfl | rfl | rfl | rfl
      · exact vtableIn dL_law_33 (by decide) (by decide) (off := 163) rfl (tgt := 196) (by decide) (law_letter hL hi hW hC hM k)
      · exact vtableIn dL_law_33 (by decide) (by decide) (off := 186) rfl (tgt := 219) (by decide) (law_town hx hL hi hW hC hM k)
      · exact vtableIn dL_law_33 (by decide) (by decide) (off := 199) rfl (tgt := 232) (by decide) (law_person hL hi hW hC hM k)
      · exact vtableIn dL_law_33 (by decide) (by decide) (off := 232) rfl (tgt := 265) (by decide) (law_face hL hi hW hC hM k)
      · exact vtableIn dL_law_33 (by decide) (by decide) (off := 265) rfl (tgt := 298) (by decide) (law_worth hL hi hW hC hM k)
      · exact vtableIn dL_law_33 (by decide) (by decide) (off := 288) rfl (tgt := 321) (by decide) (law_lends hL hi hW hC hM k)
      · exact vtableIn dL_law_33 (by decide) (by decide) (off := 321) rfl (tgt := 354) (by decide) (law_back hL hi hW hC hM k)
      · exact vtableIn dL_law_33 (by decide) (by decide) (off := 344) rfl (tgt := 377) (by decide) (law_learns hL hi hW hC hM k)
      · exact vtableIn dL_law_33 (by decide) (by decide) (off := 377) rfl (tgt := 410) (by decide) (law_becomes hL hi hW hC hM k)
      · exact vtableIn dL_law_33 (by decide) (by decide) (off := 420) rfl (tgt := 453) (by decide) (law_turn hL hi hW hC hM k)
      · exact vtableIn dL_law_33 (by decide) (by decide) (off := 463) rfl (tgt := 496) (by decide) (law_months hL hi hW hC hM k)
      · exact vtableIn dL_law_33 (by decide) (by decide) (off := 486) rfl (tgt := 519) (by decide) (law_faceThen hL hi hW hC hM k)
      · exact vtableIn dL_law_33 (by decide) (by decide) (off := 529) rfl (tgt := 562) (by decide) (law_wornThen hL hi hW hC hM k)
      · exact vtableIn dL_law_33 (by decide) (by decide) (off := 562) rfl (tgt := 595) (by decide) (law_first hL hi hW hC hM k)
      · exact vtableIn dL_law_33 (by decide) (by decide) (off := 585) rfl (tgt := 618) (by decide) (law_meets hL hi hW hC hM k)
      · exact vtableIn dL_law_33 (by decide) (by decide) (off := 618) rfl (tgt := 651) (by decide) (law_deceived hL hi hW hC hM k)
      · exact vtableIn dL_law_33 (by decide) (by decide) (off := 651) rfl (tgt := 684) (by decide) (law_famous hL hi hW hC hM k)
      · exact vtableIn dL_law_33 (by decide) (by decide) (off := 674) rfl (tgt := 707) (by decide) (law_lend hL hi hW hC hM k)
      · exact vtableIn dL_law_33 (by decide) (by decide) (off := 717) rfl (tgt := 750) (by decide) (law_take hL hi hW hC hM k)
      · exact vtableIn dL_law_33 (by decide) (by decide) (off := 750) rfl (tgt := 783) (by decide) (law_keep hL hi hW hC hM k)
      · exact vtableIn dL_law_33 (by decide) (by decide) (off := 773) rfl (tgt := 806) (by decide) (law_chained hL hi hW hC hM k)
      · exact vtableIn dL_law_33 (by decide) (by decide) (off := 796) rfl (tgt := 829) (by decide) (law_lot hL hi hW hC hM k)
      · exact vtableIn dL_law_33 (by decide) (by decide) (off := 819) rfl (tgt := 852) (by decide) (law_fewest hL hi hW hC hM k)
      · exact vtableIn dL_law_33 (by decide) (by decide) (off := 862) rfl (tgt := 895) (by decide) (law_who hL hi hW hC hM k)
      · exact vtableIn dL_law_33 (by decide) (by decide) (off := 885) rfl (tgt := 918) (by decide) (law_widow hL hi hW hC hM k)
      · exact vtableIn dL_law_33 (by decide) (by decide) (off := 918) rfl (tgt := 951) (by decide) (law_twins hL hi hW hC hM k)
      · exact vtableIn dL_law_33 (by decide) (by decide) (off := 941) rfl (tgt := 974) (by decide) (law_two hL hi hW hC hM k)
      · exact vtableIn dL_law_33 (by decide) (by decide) (off := 984) rfl (tgt := 1017) (by decide) (law_quarrel hL hi hW hC hM k)
      · exact vtableIn dL_law_33 (by decide) (by decide) (off := 1048) rfl (tgt := 1081) (by decide) (law_mean hL hi hW hC hM k)
      · exact vtableIn dL_law_33 (by decide) (by decide) (off := 1072) rfl (tgt := 1105) (by decide) (law_whatIs hL hi hW hC hM k)
      · exact vtableIn dL_law_33 (by decide) (by decide) (off := 1105) rfl (tgt := 1138) (by decide) (law_row hL hi hW hC hM k)
      · exact vtableIn dL_law_33 (by decide) (by decide) (off := 1128) rfl (tgt := 1161) (by decide) (law_judge hL hi hW hC hM k)
      · exact vtableIn dL_law_33 (by decide) (by decide) (off := 1141) rfl (tgt := 1174) (by decide) (law_clear hL hi hW hC hM k)
      · exact vtableIn dL_law_33 (by decide) (by decide) (off := 1154) rfl (tgt := 1187) (by decide) (law_lots hnx hL hi hW hC hM k)
      · exact vtableIn dL_law_33 (by decide) (by decide) (off := 1197) rfl (tgt := 1230) (by decide) (law_image hL hi hW hC hM k)
      · exact vtableIn dL_law_33 (by decide) (by decide) (off := 1210) rfl (tgt := 1243) (by decide) (law_on hL hi hW hC hM k)
      · exact vtableIn dL_law_33 (by decide) (by decide) (off := 1223) rfl (tgt := 1256) (by decide) (law_count hL hi hW hC hM k)
set_option maxRecDepth 100000 in
set_option maxHeartbeats 4000000 in
theorem law_head (hL : L ≤ 3072) (hi0 : i ≤ 3072) (k : i + 6 ≤ L → vZ v b L xs 33 (vlv v b i) [.int (xs i &&& 63)] SC SM) : vZ v b L xs 18 (vlv v b i) [] SC SM := by
  refine viload_n dL_law_18 rfl ?_
  refine valoadn dL_law_19 rfl ?_
  refine vslen dL_law_20 ?_
  refine vbipush (u := 6) dL_law_21 (by decide) ?_
  refine visub dL_law_23 ?_
  refine vicmp_gt (tgt := 1285) dL_law_24 (by decide) (fun _ => ?_) (fun h => ?_)
  · refine viconst (u := 1) dL_law_1285 (by decide) ?_
    exact vend dL_law_1286
  · have hi : i + 6 ≤ L := vroom hL (by omega) h
    refine valoadn dL_law_27 rfl ?_
    refine viload_n dL_law_28 rfl ?_
    refine vsld (by omega) hL dL_law_29 ?_
    refine vbipush (u := 63) dL_law_30 (by decide) ?_
    refine viand dL_law_32 ?_
    exact k hi
theorem law_loop {nxt : Int32 → Int32} (hnx : ∀ z : Int32, z * 1664525 + 1013904223 = nxt z) {adK adV : Nat → Nat} {fa : Option Nat} (hx : zHS (vC v) adK adV fa) (hL : L ≤ 3072) : ∀ (n i : Nat) (σ : Sig) (SC SM : zSt), i ≤ 3072 → L + 1 ≤ i + n → WS σ → RepC σ SC → RepM σ SM → vZ v b L xs 18 (vlv v b i) [] SC SM := by
  intro n
  induction n with
  | zero => intro i σ SC SM h1 h2 hW hC hM; exact law_head hL h1 (fun h => absurd h (by omega))
  | succ n ih =>
    intro i σ SC SM h1 h2 hW hC hM
    refine law_head hL h1 (fun hi => ?_)
    refine law_switch hnx hx hL hi hW hC hM _ (fun τ SC' SM' kW kC kM => ?_)
    refine viinc (w := nI (i + 6)) dL_law_1279 (u := nI i) rfl (nI_add i 6) (by decide) rfl ?_
    refine vgoto (tgt := 18) dL_law_1282 (by decide) ?_
    refine vlvs (lv' := vlv v b (i + 6)) ⟨rfl, rfl, rfl, rfl, trivial⟩ ?_
    exact ih (i + 6) τ SC' SM' (by omega) (by omega) kW kC kM
end LAW
