/-! lots -/
section LOTS
variable {x : zCx} {S : zSt} {σ σ' : Sig}
variable {nxt : Int32 → Int32}
def drB (n : Nat) (z : Int32) : Nat := z.toBitVec.toNat % 2 ^ 31 / 256 % n
def drw (f : Int32 → Int32) (g : Int32 → Nat) : Nat → Int32 → Tw → Int32 × Tw
  | 0, z, U => (z, U)
  | k + 1, z, U => drw f g k (f (f z)) (if canB U (g (f z)) (g (f (f z))) = true then handT U (g (f z)) (g (f (f z))) else U)
def lotsW (n : Nat) (w : Int32) (T : Tw) : Int32 := if w = 0 then allW n T else sF (T 6) n 0 0
def lotsG (f : Int32 → Int32) (v : Int32 → Int32) : Nat → Int32 → Int32 → Int32
  | 0, _, s => s
  | k + 1, z, s => lotsG f v k (f z) (s + v z)
def lotsF (nxt : Int32 → Int32) (n : Nat) (T : Tw) (w : Int32) : Nat → Int32 → Int32 → Int32 := lotsG (fun z => (drw nxt (drB n) 4 z T).1) (fun z => lotsW n w (monthsT n 6 (drw nxt (drB n) 4 z T).2))
theorem lotsF_s {n : Nat} {T : Tw} {w : Int32} {k : Nat} {z s : Int32} : lotsF nxt n T w (k + 1) z s = lotsF nxt n T w k (drw nxt (drB n) 4 z T).1 (s + lotsW n w (monthsT n 6 (drw nxt (drB n) 4 z T).2)) := by unfold lotsF; rw [lotsG]
theorem drB_lt {n : Nat} {z : Int32} (h : 0 < n) : drB n z < n := Nat.mod_lt _ h
theorem drB_e {n : Nat} {z : Int32} (h0 : 0 < n) (hn : n ≤ 8) : (z &&& 2147483647) / 256 - (z &&& 2147483647) / 256 / nI n * nI n = nI (drB n z) := by
  have e : z &&& 2147483647 = nI (z.toBitVec.toNat % 2 ^ 31) := pk_and z 31 (by decide +kernel)
  have hl : z.toBitVec.toNat % 2 ^ 31 < 2 ^ 31 := Nat.mod_lt _ (by decide)
  have e2 : nI (z.toBitVec.toNat % 2 ^ 31) / 256 = nI (z.toBitVec.toNat % 2 ^ 31 / 256) := pk_div hl (d := 256) (by decide) (by decide)
  rw [e, e2]
  exact pk_rem (Nat.lt_of_le_of_lt (Nat.div_le_self _ _) hl) h0 (by omega)

set_option maxRecDepth 100000 in
set_option maxHeartbeats 4000000 in
theorem c_X8_nextSeed (hnx : ∀ z : Int32, z * 1664525 + 1013904223 = nxt z) {z : Int32} : zF x true mX8_nextSeed [.int z] S (some (.int (nxt z))) S := by
  refine zC_of (by decide +kernel) (Nat.le_of_ble_eq_true rfl) ?_
  refine ziload_n dX8_nextSeed_0 rfl ?_
  refine zldcw (v := 1664525) (List.mem_of_getElem? (i := 979) (by decide +kernel) : Cond.constant RX8 297 1664525 ∈ wsL_law) dX8_nextSeed_1 ?_
  refine zimul dX8_nextSeed_4 ?_
  refine zldcw (v := 1013904223) (List.mem_of_getElem? (i := 980) (by decide +kernel) : Cond.constant RX8 298 1013904223 ∈ wsL_law) dX8_nextSeed_5 ?_
  refine ziadd dX8_nextSeed_8 ?_
  exact zireturn dX8_nextSeed_9 rfl rfl ⟨by rw [hnx], rfl⟩
set_option maxRecDepth 100000 in
set_option maxHeartbeats 4000000 in
theorem c_X8_drawBelow {n : Nat} {z : Int32} (h0 : 0 < n) (hn : n ≤ 8) : zF x true mX8_drawBelow [.int (nI n), .int z] S (some (.int (nI (drB n z)))) S := by
  refine zC_of (by decide +kernel) (Nat.le_of_ble_eq_true rfl) ?_
  refine ziload_n dX8_drawBelow_0 rfl ?_
  refine zif_gt (tgt := 8) dX8_drawBelow_1 (by decide) (fun _ => ?_) (fun h => absurd (nI_lt (a := 0) h0 (by omega)) h)
  refine ziload_n dX8_drawBelow_8 rfl ?_
  refine zldcw (v := 2147483647) (List.mem_of_getElem? (i := 984) (by decide +kernel) : Cond.constant RX8 299 2147483647 ∈ wsL_law) dX8_drawBelow_9 ?_
  refine ziand dX8_drawBelow_12 ?_
  refine zsipush (v := 256) dX8_drawBelow_13 (by decide) ?_
  refine zidiv dX8_drawBelow_16 (by decide) ?_
  refine ziload_n dX8_drawBelow_17 rfl ?_
  refine zirem dX8_drawBelow_18 (nI_ne0 h0 (by omega)) ?_
  exact zireturn dX8_drawBelow_19 rfl rfl ⟨by rw [drB_e h0 hn], rfl⟩
set_option maxRecDepth 100000 in
set_option maxHeartbeats 4000000 in
theorem l_X8_drawTown (hnx : ∀ z : Int32, z * 1664525 + 1013904223 = nxt z) (hW : WS σ) (h0 : 0 < sN σ) {S0 : zSt} {z0 : Int32} (hR0 : RepC σ S0) (D : Int32 × Tw) : ∀ (k i : Nat) (S : zSt) (z : Int32) (U : Tw), i + k = 4 → isT S 1 (sN σ) U → WFT (sN σ) U → frT 1 S0 S → drw nxt (drB (sN σ)) k z U = D → zZ x true mX8_drawTown (fun q V => ∃ v : Int32, q = some (.int v) ∧ v = D.1 ∧ isT V 1 (sN σ) (monthsT (sN σ) 6 D.2) ∧ frT 1 S0 V) 15 [(0, .ref (zad x 0)), (1, .int z0), (2, .int z), (3, .int (nI i))] [] S := by
  intro k
  induction k with
  | zero =>
    intro i S z U hi hT2 hF hf hD
    subst hD
    have hT := (hR0.mind hf).1
    have hn8 : sN σ ≤ 8 := hT.2.1
    refine ziload_n dX8_drawTown_15 rfl ?_
    refine ziconst (v := nI 4) dX8_drawTown_16 (by decide) ?_
    refine zicmp_ge (tgt := 87) dX8_drawTown_17 (by decide) (fun _ => ?_) (fun h => absurd (nI_le (by omega) (by omega)) h)
    refine zaload_n dX8_drawTown_87 rfl ?_
    refine gf_X8_36 rfl dX8_drawTown_88 ?_
    refine zbipush (v := nI 6) dX8_drawTown_91 (by decide) ?_
    refine zcVn (ob_town (t := 1) (by decide)) gk_X8_166 dX8_drawTown_93 (c_X7_goOn (t := 1) (by decide) hT2 hF.vw (K := 6) (by decide)) rfl (by decide) (Nat.le_of_ble_eq_true rfl) (fun S3 hp3 => ?_) rfl
    obtain ⟨hT3, -, -, hf3⟩ := hp3
    refine ziload_n dX8_drawTown_96 rfl ?_
    exact zireturn dX8_drawTown_97 rfl rfl ⟨_, rfl, rfl, hT3, hf.trans hf3⟩
  | succ k ih =>
    intro i S z U hi hT2 hF hf hD
    have hT := (hR0.mind hf).1
    have hn8 : sN σ ≤ 8 := hT.2.1
    have ha : drB (sN σ) (nxt z) < sN σ := drB_lt h0
    have hb : drB (sN σ) (nxt (nxt z)) < sN σ := drB_lt h0
    rw [drw] at hD
    cases hc : canB U (drB (sN σ) (nxt z)) (drB (sN σ) (nxt (nxt z))) with
    | true =>
      rw [if_pos hc] at hD
      refine ziload_n dX8_drawTown_15 rfl ?_
      refine ziconst (v := nI 4) dX8_drawTown_16 (by decide) ?_
      refine zicmp_ge (tgt := 87) dX8_drawTown_17 (by decide) (fun h => absurd h (nI_ge (by omega) (by omega))) (fun _ => ?_)
      refine ziload_n dX8_drawTown_20 rfl ?_
      refine zcSf  gk_X8_291 dX8_drawTown_21 (c_X8_nextSeed hnx) rfl (by decide) (Nat.le_of_ble_eq_true rfl) ?_ rfl
      refine zistore_n dX8_drawTown_24 (by decide) rfl ?_
      refine zaload_n dX8_drawTown_25 rfl ?_
      refine gf_X8_30 rfl dX8_drawTown_26 ?_
      refine gf_X8_192 (t := 0) (by decide) rfl dX8_drawTown_29 ?_
      rw [hT.1]
      refine ziload_n dX8_drawTown_32 rfl ?_
      refine zcSf  gk_X8_294 dX8_drawTown_33 (c_X8_drawBelow h0 hn8) rfl (by decide) (Nat.le_of_ble_eq_true rfl) ?_ rfl
      refine zistore dX8_drawTown_36 (by decide) rfl ?_
      refine ziload_n dX8_drawTown_38 rfl ?_
      refine zcSf  gk_X8_291 dX8_drawTown_39 (c_X8_nextSeed hnx) rfl (by decide) (Nat.le_of_ble_eq_true rfl) ?_ rfl
      refine zistore_n dX8_drawTown_42 (by decide) rfl ?_
      refine zaload_n dX8_drawTown_43 rfl ?_
      refine gf_X8_30 rfl dX8_drawTown_44 ?_
      refine gf_X8_192 (t := 0) (by decide) rfl dX8_drawTown_47 ?_
      rw [hT.1]
      refine ziload_n dX8_drawTown_50 rfl ?_
      refine zcSf  gk_X8_294 dX8_drawTown_51 (c_X8_drawBelow h0 hn8) rfl (by decide) (Nat.le_of_ble_eq_true rfl) ?_ rfl
      refine zistore dX8_drawTown_54 (by decide) rfl ?_
      refine zaload_n dX8_drawTown_56 rfl ?_
      refine gf_X8_36 rfl dX8_drawTown_57 ?_
      refine ziload dX8_drawTown_60 rfl ?_
      refine ziload dX8_drawTown_62 rfl ?_
      refine zcVf (ob_town (t := 1) (by decide)) gk_X8_130 dX8_drawTown_64 (show zF x true mX7_canLend _ S (some (.int (bI (canB U (drB (sN σ) (nxt z)) (drB (sN σ) (nxt (nxt z))))))) S from c_X7_canLend (t := 1) (by decide) hT2 ha hb) rfl (by decide) (Nat.le_of_ble_eq_true rfl) ?_ rfl
      refine zifb_eq (tgt := 81) dX8_drawTown_67 (by decide) (fun h => absurd (h.symm.trans hc) (by decide)) (fun _ => ?_)
      refine zaload_n dX8_drawTown_70 rfl ?_
      refine gf_X8_36 rfl dX8_drawTown_71 ?_
      refine ziload dX8_drawTown_74 rfl ?_
      refine ziload dX8_drawTown_76 rfl ?_
      refine zcVv (ob_town (t := 1) (by decide)) gk_X8_134 dX8_drawTown_78 (c_X7_handOver (t := 1) (by decide) hT2 ha hb) rfl (by decide) (Nat.le_of_ble_eq_true rfl) ?_ rfl
      have hT3 := isT_hand (p := (drB (sN σ) (nxt z))) (q := (drB (sN σ) (nxt (nxt z)))) hT2
      have hf3 := fr_hand (p := (drB (sN σ) (nxt z))) (q := (drB (sN σ) (nxt (nxt z)))) hf
      refine ziinc dX8_drawTown_81 rfl rfl (by decide) rfl ?_
      refine zgoto (tgt := 15) dX8_drawTown_84 (by decide) ?_
      refine zlvs (lv' := [(0, .ref (zad x 0)), (1, .int z0), (2, .int (nxt (nxt z))), (3, .int (nI (i + 1)))]) ⟨rfl, rfl, rfl, by rw [nI_succ i]; rfl, trivial⟩ ?_
      exact ih (i + 1) _ _ _ (by omega) hT3 (hF.handB ha hb hc) hf3 hD
    | false =>
      rw [if_neg (by rw [hc]; decide)] at hD
      refine ziload_n dX8_drawTown_15 rfl ?_
      refine ziconst (v := nI 4) dX8_drawTown_16 (by decide) ?_
      refine zicmp_ge (tgt := 87) dX8_drawTown_17 (by decide) (fun h => absurd h (nI_ge (by omega) (by omega))) (fun _ => ?_)
      refine ziload_n dX8_drawTown_20 rfl ?_
      refine zcSf  gk_X8_291 dX8_drawTown_21 (c_X8_nextSeed hnx) rfl (by decide) (Nat.le_of_ble_eq_true rfl) ?_ rfl
      refine zistore_n dX8_drawTown_24 (by decide) rfl ?_
      refine zaload_n dX8_drawTown_25 rfl ?_
      refine gf_X8_30 rfl dX8_drawTown_26 ?_
      refine gf_X8_192 (t := 0) (by decide) rfl dX8_drawTown_29 ?_
      rw [hT.1]
      refine ziload_n dX8_drawTown_32 rfl ?_
      refine zcSf  gk_X8_294 dX8_drawTown_33 (c_X8_drawBelow h0 hn8) rfl (by decide) (Nat.le_of_ble_eq_true rfl) ?_ rfl
      refine zistore dX8_drawTown_36 (by decide) rfl ?_
      refine ziload_n dX8_drawTown_38 rfl ?_
      refine zcSf  gk_X8_291 dX8_drawTown_39 (c_X8_nextSeed hnx) rfl (by decide) (Nat.le_of_ble_eq_true rfl) ?_ rfl
      refine zistore_n dX8_drawTown_42 (by decide) rfl ?_
      refine zaload_n dX8_drawTown_43 rfl ?_
      refine gf_X8_30 rfl dX8_drawTown_44 ?_
      refine gf_X8_192 (t := 0) (by decide) rfl dX8_drawTown_47 ?_
      rw [hT.1]
      refine ziload_n dX8_drawTown_50 rfl ?_
      refine zcSf  gk_X8_294 dX8_drawTown_51 (c_X8_drawBelow h0 hn8) rfl (by decide) (Nat.le_of_ble_eq_true rfl) ?_ rfl
      refine zistore dX8_drawTown_54 (by decide) rfl ?_
      refine zaload_n dX8_drawTown_56 rfl ?_
      refine gf_X8_36 rfl dX8_drawTown_57 ?_
      refine ziload dX8_drawTown_60 rfl ?_
      refine ziload dX8_drawTown_62 rfl ?_
      refine zcVf (ob_town (t := 1) (by decide)) gk_X8_130 dX8_drawTown_64 (show zF x true mX7_canLend _ S (some (.int (bI (canB U (drB (sN σ) (nxt z)) (drB (sN σ) (nxt (nxt z))))))) S from c_X7_canLend (t := 1) (by decide) hT2 ha hb) rfl (by decide) (Nat.le_of_ble_eq_true rfl) ?_ rfl
      refine zifb_eq (tgt := 81) dX8_drawTown_67 (by decide) (fun _ => ?_) (fun h => absurd (h.symm.trans hc) (by decide))
      refine ziinc dX8_drawTown_81 rfl rfl (by decide) rfl ?_
      refine zgoto (tgt := 15) dX8_drawTown_84 (by decide) ?_
      refine zlvs (lv' := [(0, .ref (zad x 0)), (1, .int z0), (2, .int (nxt (nxt z))), (3, .int (nI (i + 1)))]) ⟨rfl, rfl, rfl, by rw [nI_succ i]; rfl, trivial⟩ ?_
      exact ih (i + 1) _ _ _ (by omega) hT2 hF hf hD
set_option maxRecDepth 100000 in
set_option maxHeartbeats 4000000 in
theorem c_X8_drawTown (hnx : ∀ z : Int32, z * 1664525 + 1013904223 = nxt z) (hR : RepC σ S) (hW : WS σ) (h0 : 0 < sN σ) {z : Int32} : zR x true mX8_drawTown [.ref (zad x 0), .int z] S (fun r V => r = (drw nxt (drB (sN σ)) 4 z (sT σ)).1 ∧ isT V 1 (sN σ) (monthsT (sN σ) 6 (drw nxt (drB (sN σ)) 4 z (sT σ)).2) ∧ frT 1 S V) := by
  have hT := hR.1
  refine zC_of (by decide +kernel) (Nat.le_of_ble_eq_true rfl) ?_
  refine ziload_n dX8_drawTown_0 rfl ?_
  refine zistore_n dX8_drawTown_1 (by decide) rfl ?_
  refine zaload_n dX8_drawTown_2 rfl ?_
  refine gf_X8_36 rfl dX8_drawTown_3 ?_
  refine zaload_n dX8_drawTown_6 rfl ?_
  refine gf_X8_30 rfl dX8_drawTown_7 ?_
  refine zcVn (ob_town (t := 1) (by decide)) gk_X8_88 dX8_drawTown_10 (c_X7_becomeLike (t := 1) (u := 0) (by decide) (by decide) (by decide) hT) rfl (by decide) (Nat.le_of_ble_eq_true rfl) (fun S2 hp2 => ?_) rfl
  obtain ⟨hT2, -, hf2⟩ := hp2
  refine ziconst (v := 0) dX8_drawTown_13 (by decide) ?_
  refine zistore_n dX8_drawTown_14 (by decide) rfl ?_
  refine zlvs (lv' := [(0, .ref (zad x 0)), (1, .int z), (2, .int z), (3, .int (nI 0))]) ⟨rfl, rfl, rfl, rfl, trivial⟩ ?_
  exact l_X8_drawTown hnx hW h0 hR _ 4 0 S2 z (sT σ) (by omega) hT2 hW.1 hf2 rfl
set_option maxRecDepth 100000 in
set_option maxHeartbeats 4000000 in
theorem l_X8_lots (hnx : ∀ z : Int32, z * 1664525 + 1013904223 = nxt z) (hW : WS σ) (h0 : 0 < sN σ) {w : Int32} {N : Nat} (hN : N ≤ 20) (r : Int32) : ∀ (k i : Nat) (S : zSt) (z s : Int32), i + k = N → RepC σ S → lotsF nxt (sN σ) (sT σ) w k z s = r → zZ x true mX8_lots (fun q V => ∃ v : Int32, q = some (.int v) ∧ v = r ∧ RepC σ V) 55 [(0, .ref (zad x 0)), (1, .int (nI N)), (3, .int w), (5, .int z), (6, .int s), (7, .int (nI i))] [] S := by
  intro k
  induction k with
  | zero =>
    intro i S z s hi hR hr
    refine ziload dX8_lots_55 rfl ?_
    refine ziload_n dX8_lots_57 rfl ?_
    refine zicmp_ge (tgt := 101) dX8_lots_58 (by decide) (fun _ => ?_) (fun h => absurd (nI_le (by omega) (by omega)) h)
    refine ziload dX8_lots_101 rfl ?_
    exact zireturn dX8_lots_103 rfl rfl ⟨_, rfl, hr, hR⟩
  | succ k ih =>
    intro i S z s hi hR hr
    rw [lotsF_s] at hr
    by_cases hw : w = 0
    · refine ziload dX8_lots_55 rfl ?_
      refine ziload_n dX8_lots_57 rfl ?_
      refine zicmp_ge (tgt := 101) dX8_lots_58 (by decide) (fun h => absurd h (nI_ge (by omega) (by omega))) (fun _ => ?_)
      refine zaload_n dX8_lots_61 rfl ?_
      refine ziload dX8_lots_62 rfl ?_
      refine zcVr ob_X gk_X8_285 dX8_lots_64 (c_X8_drawTown hnx hR hW h0) rfl (by decide) (Nat.le_of_ble_eq_true rfl) (fun r2 S2 hp2 => ?_) rfl
      obtain ⟨rfl, hT2, hf2⟩ := hp2
      refine zistore dX8_lots_67 (by decide) rfl ?_
      refine ziload dX8_lots_69 rfl ?_
      refine ziload_n dX8_lots_71 rfl ?_
      refine zif_ne (tgt := 85) dX8_lots_72 (by decide) (fun h => absurd hw h) (fun _ => ?_)
      refine zaload_n dX8_lots_75 rfl ?_
      refine gf_X8_36 rfl dX8_lots_76 ?_
      refine zcVf (ob_town (t := 1) (by decide)) gk_X8_218 dX8_lots_79 (c_X7_allWorths (t := 1) (by decide) hT2) rfl (by decide) (Nat.le_of_ble_eq_true rfl) ?_ rfl
      refine zgoto (tgt := 92) dX8_lots_82 (by decide) ?_
      refine ziadd dX8_lots_92 ?_
      refine zistore dX8_lots_93 (by decide) rfl ?_
      refine ziinc dX8_lots_95 rfl rfl (by decide) rfl ?_
      refine zgoto (tgt := 55) dX8_lots_98 (by decide) ?_
      refine zlvs (lv' := [(0, .ref (zad x 0)), (1, .int (nI N)), (3, .int w), (5, .int _), (6, .int _), (7, .int (nI (i + 1)))]) ⟨rfl, rfl, rfl, rfl, rfl, by rw [nI_succ i]; rfl, trivial⟩ ?_
      exact ih (i + 1) S2 _ _ (by omega) (hR.mind hf2) (by rw [show lotsW (sN σ) w (monthsT (sN σ) 6 (drw nxt (drB (sN σ)) 4 z (sT σ)).2) = allW (sN σ) (monthsT (sN σ) 6 (drw nxt (drB (sN σ)) 4 z (sT σ)).2) from if_pos hw] at hr; exact hr)
    · refine ziload dX8_lots_55 rfl ?_
      refine ziload_n dX8_lots_57 rfl ?_
      refine zicmp_ge (tgt := 101) dX8_lots_58 (by decide) (fun h => absurd h (nI_ge (by omega) (by omega))) (fun _ => ?_)
      refine zaload_n dX8_lots_61 rfl ?_
      refine ziload dX8_lots_62 rfl ?_
      refine zcVr ob_X gk_X8_285 dX8_lots_64 (c_X8_drawTown hnx hR hW h0) rfl (by decide) (Nat.le_of_ble_eq_true rfl) (fun r2 S2 hp2 => ?_) rfl
      obtain ⟨rfl, hT2, hf2⟩ := hp2
      refine zistore dX8_lots_67 (by decide) rfl ?_
      refine ziload dX8_lots_69 rfl ?_
      refine ziload_n dX8_lots_71 rfl ?_
      refine zif_ne (tgt := 85) dX8_lots_72 (by decide) (fun _ => ?_) (fun h => absurd h hw)
      refine zaload_n dX8_lots_85 rfl ?_
      refine gf_X8_36 rfl dX8_lots_86 ?_
      refine zcVf (ob_town (t := 1) (by decide)) gk_X8_288 dX8_lots_89 (c_X7_allScars (t := 1) (by decide) hT2) rfl (by decide) (Nat.le_of_ble_eq_true rfl) ?_ rfl
      refine ziadd dX8_lots_92 ?_
      refine zistore dX8_lots_93 (by decide) rfl ?_
      refine ziinc dX8_lots_95 rfl rfl (by decide) rfl ?_
      refine zgoto (tgt := 55) dX8_lots_98 (by decide) ?_
      refine zlvs (lv' := [(0, .ref (zad x 0)), (1, .int (nI N)), (3, .int w), (5, .int _), (6, .int _), (7, .int (nI (i + 1)))]) ⟨rfl, rfl, rfl, rfl, rfl, by rw [nI_succ i]; rfl, trivial⟩ ?_
      exact ih (i + 1) S2 _ _ (by omega) (hR.mind hf2) (by rw [show lotsW (sN σ) w (monthsT (sN σ) 6 (drw nxt (drB (sN σ)) 4 z (sT σ)).2) = sF ((monthsT (sN σ) 6 (drw nxt (drB (sN σ)) 4 z (sT σ)).2) 6) (sN σ) 0 0 from if_neg hw] at hr; exact hr)
set_option maxRecDepth 100000 in
set_option maxHeartbeats 4000000 in
theorem c_X8_lots (hnx : ∀ z : Int32, z * 1664525 + 1013904223 = nxt z) (hR : RepC σ S) (hW : WS σ) (n z w : Int32) : zR x true mX8_lots [.ref (zad x 0), .int n, .int z, .int w] S (qCf (fO (fO (rgF n 1 20) (whF w 2)) (if sN σ = 0 then -3 else 0)) (lotsF nxt (sN σ) (sT σ) w n.toNatClampNeg z 0) σ (σ)) := by
  have hT := hR.1
  have hn8 : sN σ ≤ 8 := hT.2.1
  refine zC_of (by decide +kernel) (Nat.le_of_ble_eq_true rfl) ?_
  by_cases he : fO (rgF n 1 20) (whF w 2) = 0
  · by_cases h0 : sN σ = 0
    · refine ziload_n dX8_lots_0 rfl ?_
      refine ziconst (v := 1) dX8_lots_1 (by decide) ?_
      refine zbipush (v := 20) dX8_lots_2 (by decide) ?_
      refine zcSf  gk_X8_73 dX8_lots_4 c_X8_rangeFault rfl (by decide) (Nat.le_of_ble_eq_true rfl) ?_ rfl
      refine ziload_n dX8_lots_7 rfl ?_
      refine ziconst (v := 2) dX8_lots_8 (by decide) ?_
      refine zcSf  gk_X8_99 dX8_lots_9 c_X8_whatFault rfl (by decide) (Nat.le_of_ble_eq_true rfl) ?_ rfl
      refine zcSf  gk_X8_103 dX8_lots_12 c_X8_firstOf rfl (by decide) (Nat.le_of_ble_eq_true rfl) ?_ rfl
      refine zistore dX8_lots_15 (by decide) rfl ?_
      refine ziload dX8_lots_17 rfl ?_
      refine zif_eq (tgt := 29) dX8_lots_19 (by decide) (fun _ => ?_) (fun h => absurd he h)
      refine zaload_n dX8_lots_29 rfl ?_
      refine gf_X8_30 rfl dX8_lots_30 ?_
      refine gf_X8_192 (t := 0) (by decide) rfl dX8_lots_33 ?_
      rw [hT.1]
      refine zif_ne (tgt := 46) dX8_lots_36 (by decide) (fun h => absurd (by rw [h0]; rfl) h) (fun _ => ?_)
      refine zaload_n dX8_lots_39 rfl ?_
      refine zbipush (v := -3) dX8_lots_40 (by decide) ?_
      refine zcVf ob_X gk_X8_121 dX8_lots_42 (c_X8_refuseFarOff isE_3) rfl (by decide) (Nat.le_of_ble_eq_true rfl) ?_ rfl
      exact zireturn dX8_lots_45 rfl rfl ⟨_, rfl, qCf_no (by rw [he, if_pos h0]; rfl) isE_3 hR⟩
    · have he2 : fO (fO (rgF n 1 20) (whF w 2)) (if sN σ = 0 then -3 else 0) = 0 := by rw [he, if_neg h0]; rfl
      obtain ⟨j, hj1, hj2, rfl⟩ := rgF_of (a := 1) (c := 20) (by decide) (by decide) (fO_0 he).1
      refine ziload_n dX8_lots_0 rfl ?_
      refine ziconst (v := 1) dX8_lots_1 (by decide) ?_
      refine zbipush (v := 20) dX8_lots_2 (by decide) ?_
      refine zcSf  gk_X8_73 dX8_lots_4 c_X8_rangeFault rfl (by decide) (Nat.le_of_ble_eq_true rfl) ?_ rfl
      refine ziload_n dX8_lots_7 rfl ?_
      refine ziconst (v := 2) dX8_lots_8 (by decide) ?_
      refine zcSf  gk_X8_99 dX8_lots_9 c_X8_whatFault rfl (by decide) (Nat.le_of_ble_eq_true rfl) ?_ rfl
      refine zcSf  gk_X8_103 dX8_lots_12 c_X8_firstOf rfl (by decide) (Nat.le_of_ble_eq_true rfl) ?_ rfl
      refine zistore dX8_lots_15 (by decide) rfl ?_
      refine ziload dX8_lots_17 rfl ?_
      refine zif_eq (tgt := 29) dX8_lots_19 (by decide) (fun _ => ?_) (fun h => absurd he h)
      refine zaload_n dX8_lots_29 rfl ?_
      refine gf_X8_30 rfl dX8_lots_30 ?_
      refine gf_X8_192 (t := 0) (by decide) rfl dX8_lots_33 ?_
      rw [hT.1]
      refine zif_ne (tgt := 46) dX8_lots_36 (by decide) (fun _ => ?_) (fun h => absurd h (nI_ne0 (by omega) (by omega)))
      refine ziload_n dX8_lots_46 rfl ?_
      refine zistore dX8_lots_47 (by decide) rfl ?_
      refine ziconst (v := 0) dX8_lots_49 (by decide) ?_
      refine zistore dX8_lots_50 (by decide) rfl ?_
      refine ziconst (v := nI 0) dX8_lots_52 (by decide) ?_
      refine zistore dX8_lots_53 (by decide) rfl ?_
      refine zlvs (lv' := [(0, .ref (zad x 0)), (1, .int (nI j)), (3, .int w), (5, .int z), (6, .int 0), (7, .int (nI 0))]) ⟨rfl, rfl, rfl, rfl, rfl, rfl, trivial⟩ ?_
      exact zZ_mono (l_X8_lots hnx hW (by omega) hj2 _ j 0 S z 0 (by omega) hR rfl) (fun q U h => by obtain ⟨v, g1, g2, g3⟩ := h; exact ⟨v, g1, qCf_ok he2 (by rw [g2, nI_clamp (by omega)]) g3⟩)
  · refine ziload_n dX8_lots_0 rfl ?_
    refine ziconst (v := 1) dX8_lots_1 (by decide) ?_
    refine zbipush (v := 20) dX8_lots_2 (by decide) ?_
    refine zcSf  gk_X8_73 dX8_lots_4 c_X8_rangeFault rfl (by decide) (Nat.le_of_ble_eq_true rfl) ?_ rfl
    refine ziload_n dX8_lots_7 rfl ?_
    refine ziconst (v := 2) dX8_lots_8 (by decide) ?_
    refine zcSf  gk_X8_99 dX8_lots_9 c_X8_whatFault rfl (by decide) (Nat.le_of_ble_eq_true rfl) ?_ rfl
    refine zcSf  gk_X8_103 dX8_lots_12 c_X8_firstOf rfl (by decide) (Nat.le_of_ble_eq_true rfl) ?_ rfl
    refine zistore dX8_lots_15 (by decide) rfl ?_
    refine ziload dX8_lots_17 rfl ?_
    refine zif_eq (tgt := 29) dX8_lots_19 (by decide) (fun h => absurd h he) (fun _ => ?_)
    refine zaload_n dX8_lots_22 rfl ?_
    refine ziload dX8_lots_23 rfl ?_
    refine zcVf ob_X gk_X8_121 dX8_lots_25 (c_X8_refuseFarOff (okE.e (okE_fO (okE_rgF _ _ _) (okE_whF _ _)) he)) rfl (by decide) (Nat.le_of_ble_eq_true rfl) ?_ rfl
    exact zireturn dX8_lots_28 rfl rfl ⟨_, rfl, qCf_no (fO_n he) (okE.e (okE_fO (okE_rgF _ _ _) (okE_whF _ _)) he) hR⟩
def frS (S S' : zSt) : Prop := (∀ k, ¬ k = 2 → S'.1 k = S.1 k) ∧ ∀ k j, ¬ (k = 0 ∧ j = 13) → S'.2 k j = S.2 k j
theorem frS.rf : frS S S := ⟨fun _ _ => rfl, fun _ _ _ => rfl⟩
theorem frS.go {S1 S2 S3 : zSt} (h : frS S1 S2) (h' : frM 2 S2 S3) : frS S1 S3 := ⟨fun k hk => (h'.1 k hk).trans (h.1 k hk), fun k j hj => (congrFun (congrFun h'.2 k) j).trans (h.2 k j hj)⟩
theorem frS.seed {S1 S2 : zSt} {v : Int32} (h : frS S1 S2) : frS S1 (S2.1, u2 S2.2 0 13 v) := ⟨h.1, fun k j hj => (u2_ne hj).trans (h.2 k j hj)⟩
theorem frS.rep {S' : zSt} (h : RepM σ S) (hf : frS S S') : RepM σ S' := by
  obtain ⟨h1, h2, h3, h4, h5, h6⟩ := h
  have g : ∀ k', ¬ k' = 2 → S'.1 k' = S.1 k' := hf.1
  refine ⟨⟨by rw [g _ (by decide)]; exact h1.1, h1.2.1, fun w p a b c => by rw [g _ (by decide)]; exact h1.2.2 w p a b c⟩, by rw [g _ (by decide)]; exact h2, ?_, by rw [hf.2 _ _ (by decide), g _ (by decide)]; exact h4, by rw [hf.2 _ _ (by decide), g _ (by decide)]; exact h5, by rw [g _ (by decide)]; exact h6⟩
  unfold keptM at h3 ⊢
  cases hk : sK σ with
  | none => rw [hk] at h3; rw [hf.2 _ _ (by decide)]; exact h3
  | some q => rw [hk] at h3; rw [hf.2 _ _ (by decide)]; exact ⟨h3.1, ⟨by rw [g _ (by decide)]; exact h3.2.1.1, h3.2.1.2.1, fun w p a b c => by rw [g _ (by decide)]; exact h3.2.1.2.2 w p a b c⟩, by rw [g _ (by decide)]; exact h3.2.2⟩
theorem seedS {f : Nat → Nat → Int32} {g : Nat → Nat → Int32} {v : Int32} : ((f, u2 g 0 13 v) : zSt).2 0 13 = v := by dsimp only; exact u2_self
theorem isM_seed {k n : Nat} {T : Tw} {v : Int32} (h : isM S k n T) : isM (S.1, u2 S.2 0 13 v) k n T := h
set_option maxRecDepth 100000 in
set_option maxHeartbeats 4000000 in
theorem c_X9_drawn (hnx : ∀ z : Int32, z * 1664525 + 1013904223 = nxt z) {n : Nat} {z : Int32} (h0 : 0 < n) (hn : n ≤ 8) (hz : S.2 0 13 = z) : zF x false mX9_drawn [.ref (zad x 0), .int (nI n)] S (some (.int (nI (drB n (nxt z))))) (S.1, u2 S.2 0 13 (nxt z)) := by
  refine zC_of (by decide +kernel) (Nat.le_of_ble_eq_true rfl) ?_
  refine zaload_n dX9_drawn_0 rfl ?_
  refine zaload_n dX9_drawn_1 rfl ?_
  refine gf_X9_211 rfl dX9_drawn_2 ?_
  rw [hz]
  refine zldc (v := 1664525) dX9_drawn_5 (List.mem_of_getElem? (i := 995) (by decide +kernel) : Cond.constant RX9 214 1664525 ∈ wsL_law) ?_
  refine zimul dX9_drawn_7 ?_
  refine zldc (v := 1013904223) dX9_drawn_8 (List.mem_of_getElem? (i := 996) (by decide +kernel) : Cond.constant RX9 215 1013904223 ∈ wsL_law) ?_
  refine ziadd dX9_drawn_10 ?_
  rw [hnx]
  refine pf_X9_211 rfl dX9_drawn_11 ?_
  refine zaload_n dX9_drawn_14 rfl ?_
  refine gf_X9_211 rfl dX9_drawn_15 ?_
  rw [show (S.1, u2 S.2 0 13 (nxt z)).2 0 13 = nxt z from seedS]
  refine zldc (v := 2147483647) dX9_drawn_18 (List.mem_of_getElem? (i := 997) (by decide +kernel) : Cond.constant RX9 216 2147483647 ∈ wsL_law) ?_
  refine ziand dX9_drawn_20 ?_
  refine zsipush (v := 256) dX9_drawn_21 (by decide) ?_
  refine zidiv dX9_drawn_24 (by decide) ?_
  refine ziload_n dX9_drawn_25 rfl ?_
  refine zirem dX9_drawn_26 (nI_ne0 h0 (by omega)) ?_
  exact zireturn dX9_drawn_27 rfl rfl ⟨by rw [drB_e h0 hn], rfl⟩
set_option maxRecDepth 100000 in
set_option maxHeartbeats 4000000 in
theorem l_X9_lots4 (hnx : ∀ z : Int32, z * 1664525 + 1013904223 = nxt z) (hW : WS σ) (h0 : 0 < sN σ) {w s : Int32} {N c : Nat} (hN : N ≤ 20) {S0 : zSt} (hR0 : RepM σ S0) {post : Option Value → zSt → Prop} (D : Int32 × Tw) (hpost : ∀ (S : zSt), isM S 2 (sN σ) D.2 → WFT (sN σ) D.2 → frS S0 S → S.2 0 13 = D.1 → zZ x false mX9_lots post 149 [(0, .ref (zad x 0)), (1, .int (nI N)), (3, .int w), (4, .int s), (5, .int (nI c))] [] S) : ∀ (k i : Nat) (S : zSt) (z : Int32) (U : Tw), i + k = 4 → isM S 2 (sN σ) U → WFT (sN σ) U → frS S0 S → S.2 0 13 = z → drw nxt (drB (sN σ)) k z U = D → zZ x false mX9_lots post 88 [(0, .ref (zad x 0)), (1, .int (nI N)), (3, .int w), (4, .int s), (5, .int (nI c)), (6, .int (nI i))] [] S := by
  intro k
  induction k with
  | zero =>
    intro i S z U hi hM2 hF hf hz hD
    subst hD
    refine ziload dX9_lots_88 rfl ?_
    refine ziconst (v := nI 4) dX9_lots_90 (by decide) ?_
    refine zicmp_ge (tgt := 149) dX9_lots_91 (by decide) (fun _ => ?_) (fun h => absurd (nI_le (by omega) (by omega)) h)
    refine zlvs (lv' := [(0, .ref (zad x 0)), (1, .int (nI N)), (3, .int w), (4, .int s), (5, .int (nI c))]) ⟨rfl, rfl, rfl, rfl, rfl, trivial⟩ ?_
    exact hpost S hM2 hF hf hz
  | succ k ih =>
    intro i S z U hi hM2 hF hf hz hD
    have hM := (frS.rep hR0 hf).1
    have hn8 : sN σ ≤ 8 := hM.2.1
    have ha : drB (sN σ) (nxt z) < sN σ := drB_lt h0
    have hb : drB (sN σ) (nxt (nxt z)) < sN σ := drB_lt h0
    rw [drw] at hD
    cases hc : canB U (drB (sN σ) (nxt z)) (drB (sN σ) (nxt (nxt z))) with
    | true =>
      rw [if_pos hc] at hD
      refine ziload dX9_lots_88 rfl ?_
      refine ziconst (v := nI 4) dX9_lots_90 (by decide) ?_
      refine zicmp_ge (tgt := 149) dX9_lots_91 (by decide) (fun h => absurd h (nI_ge (by omega) (by omega))) (fun _ => ?_)
      refine zaload_n dX9_lots_94 rfl ?_
      refine zaload_n dX9_lots_95 rfl ?_
      refine gf_X9_9 rfl dX9_lots_96 ?_
      refine ziconst (v := nI 0) dX9_lots_99 (by decide) ?_
      refine ziald dX9_lots_100 (mrk hr1.2) (mrl hr1.1 hr1.2) (by decide) (by decide) ?_
      rw [hM.1]
      refine zcVf ob_Mo gk_X9_217 dX9_lots_101 (c_X9_drawn hnx h0 hn8 hz) rfl (by decide) (Nat.le_of_ble_eq_true rfl) ?_ rfl
      refine zistore dX9_lots_104 (by decide) rfl ?_
      refine zaload_n dX9_lots_106 rfl ?_
      refine zaload_n dX9_lots_107 rfl ?_
      refine gf_X9_9 rfl dX9_lots_108 ?_
      refine ziconst (v := nI 0) dX9_lots_111 (by decide) ?_
      refine ziald dX9_lots_112 (mrk hr1.2) (mrl hr1.1 hr1.2) (by decide) (by decide) ?_
      rw [hM.1]
      refine zcVf ob_Mo gk_X9_217 dX9_lots_113 (c_X9_drawn hnx h0 hn8 seedS) rfl (by decide) (Nat.le_of_ble_eq_true rfl) ?_ rfl
      refine zistore dX9_lots_116 (by decide) rfl ?_
      refine zaload_n dX9_lots_118 rfl ?_
      refine gf_X9_13 rfl dX9_lots_119 ?_
      refine ziload dX9_lots_122 rfl ?_
      refine ziload dX9_lots_124 rfl ?_
      refine zcSf  gk_X9_118 dX9_lots_126 (show zF x false mX9_canLend _ (S.1, u2 (u2 S.2 0 13 (nxt z)) 0 13 (nxt (nxt z))) (some (.int (bI (canB U (drB (sN σ) (nxt z)) (drB (sN σ) (nxt (nxt z))))))) (S.1, u2 (u2 S.2 0 13 (nxt z)) 0 13 (nxt (nxt z))) from c_X9_canLend hr2 (isM_seed (isM_seed hM2)) ha hb) rfl (by decide) (Nat.le_of_ble_eq_true rfl) ?_ rfl
      refine zifb_eq (tgt := 143) dX9_lots_129 (by decide) (fun h => absurd (h.symm.trans hc) (by decide)) (fun _ => ?_)
      refine zaload_n dX9_lots_132 rfl ?_
      refine gf_X9_13 rfl dX9_lots_133 ?_
      refine ziload dX9_lots_136 rfl ?_
      refine ziload dX9_lots_138 rfl ?_
      refine zcSv  gk_X9_122 dX9_lots_140 (c_X9_lendsIn hr2 (isM_seed (isM_seed hM2)) ha hb) rfl (by decide) (Nat.le_of_ble_eq_true rfl) ?_ rfl
      have hM3 := isM_hand (p := (drB (sN σ) (nxt z))) (q := (drB (sN σ) (nxt (nxt z)))) (isM_seed (v := nxt (nxt z)) (isM_seed (v := nxt z) hM2))
      have hf3 := (hf.seed (v := nxt z)).seed (v := nxt (nxt z)) |>.go (frM_hand (p := (drB (sN σ) (nxt z))) (q := (drB (sN σ) (nxt (nxt z)))) frM.rf)
      refine ziinc dX9_lots_143 rfl rfl (by decide) rfl ?_
      refine zgoto (tgt := 88) dX9_lots_146 (by decide) ?_
      refine zlvs (lv' := [(0, .ref (zad x 0)), (1, .int (nI N)), (3, .int w), (4, .int s), (5, .int (nI c)), (6, .int (nI (i + 1)))]) ⟨rfl, rfl, rfl, rfl, rfl, by rw [nI_succ i]; rfl, trivial⟩ ?_
      exact ih (i + 1) _ _ _ (by omega) hM3 (hF.handB ha hb hc) hf3 (by dsimp only; exact u2_self) hD
    | false =>
      rw [if_neg (by rw [hc]; decide)] at hD
      refine ziload dX9_lots_88 rfl ?_
      refine ziconst (v := nI 4) dX9_lots_90 (by decide) ?_
      refine zicmp_ge (tgt := 149) dX9_lots_91 (by decide) (fun h => absurd h (nI_ge (by omega) (by omega))) (fun _ => ?_)
      refine zaload_n dX9_lots_94 rfl ?_
      refine zaload_n dX9_lots_95 rfl ?_
      refine gf_X9_9 rfl dX9_lots_96 ?_
      refine ziconst (v := nI 0) dX9_lots_99 (by decide) ?_
      refine ziald dX9_lots_100 (mrk hr1.2) (mrl hr1.1 hr1.2) (by decide) (by decide) ?_
      rw [hM.1]
      refine zcVf ob_Mo gk_X9_217 dX9_lots_101 (c_X9_drawn hnx h0 hn8 hz) rfl (by decide) (Nat.le_of_ble_eq_true rfl) ?_ rfl
      refine zistore dX9_lots_104 (by decide) rfl ?_
      refine zaload_n dX9_lots_106 rfl ?_
      refine zaload_n dX9_lots_107 rfl ?_
      refine gf_X9_9 rfl dX9_lots_108 ?_
      refine ziconst (v := nI 0) dX9_lots_111 (by decide) ?_
      refine ziald dX9_lots_112 (mrk hr1.2) (mrl hr1.1 hr1.2) (by decide) (by decide) ?_
      rw [hM.1]
      refine zcVf ob_Mo gk_X9_217 dX9_lots_113 (c_X9_drawn hnx h0 hn8 seedS) rfl (by decide) (Nat.le_of_ble_eq_true rfl) ?_ rfl
      refine zistore dX9_lots_116 (by decide) rfl ?_
      refine zaload_n dX9_lots_118 rfl ?_
      refine gf_X9_13 rfl dX9_lots_119 ?_
      refine ziload dX9_lots_122 rfl ?_
      refine ziload dX9_lots_124 rfl ?_
      refine zcSf  gk_X9_118 dX9_lots_126 (show zF x false mX9_canLend _ (S.1, u2 (u2 S.2 0 13 (nxt z)) 0 13 (nxt (nxt z))) (some (.int (bI (canB U (drB (sN σ) (nxt z)) (drB (sN σ) (nxt (nxt z))))))) (S.1, u2 (u2 S.2 0 13 (nxt z)) 0 13 (nxt (nxt z))) from c_X9_canLend hr2 (isM_seed (isM_seed hM2)) ha hb) rfl (by decide) (Nat.le_of_ble_eq_true rfl) ?_ rfl
      refine zifb_eq (tgt := 143) dX9_lots_129 (by decide) (fun _ => ?_) (fun h => absurd (h.symm.trans hc) (by decide))
      refine ziinc dX9_lots_143 rfl rfl (by decide) rfl ?_
      refine zgoto (tgt := 88) dX9_lots_146 (by decide) ?_
      refine zlvs (lv' := [(0, .ref (zad x 0)), (1, .int (nI N)), (3, .int w), (4, .int s), (5, .int (nI c)), (6, .int (nI (i + 1)))]) ⟨rfl, rfl, rfl, rfl, rfl, by rw [nI_succ i]; rfl, trivial⟩ ?_
      exact ih (i + 1) _ _ _ (by omega) (isM_seed (v := nxt (nxt z)) (isM_seed (v := nxt z) hM2)) hF (hf.seed.seed) (by dsimp only; exact u2_self) hD
set_option maxRecDepth 100000 in
set_option maxHeartbeats 4000000 in
theorem l_X9_lots (hnx : ∀ z : Int32, z * 1664525 + 1013904223 = nxt z) (hW : WS σ) (h0 : 0 < sN σ) {w : Int32} {N : Nat} (hN : N ≤ 20) (r : Int32) : ∀ (k i : Nat) (S : zSt) (z s : Int32), i + k = N → RepM σ S → S.2 0 13 = z → lotsF nxt (sN σ) (sT σ) w k z s = r → zZ x false mX9_lots (fun q V => ∃ v : Int32, q = some (.int v) ∧ v = r ∧ RepM σ V) 68 [(0, .ref (zad x 0)), (1, .int (nI N)), (3, .int w), (4, .int s), (5, .int (nI i))] [] S := by
  intro k
  induction k with
  | zero =>
    intro i S z s hi hR hz hr
    refine ziload dX9_lots_68 rfl ?_
    refine ziload_n dX9_lots_70 rfl ?_
    refine zicmp_ge (tgt := 191) dX9_lots_71 (by decide) (fun _ => ?_) (fun h => absurd (nI_le (by omega) (by omega)) h)
    refine ziload dX9_lots_191 rfl ?_
    exact zireturn dX9_lots_193 rfl rfl ⟨_, rfl, hr, hR⟩
  | succ k ih =>
    intro i S z s hi hR hz hr
    have hM := hR.1
    have hn8 : sN σ ≤ 8 := hM.2.1
    rw [lotsF_s] at hr
    refine ziload dX9_lots_68 rfl ?_
    refine ziload_n dX9_lots_70 rfl ?_
    refine zicmp_ge (tgt := 191) dX9_lots_71 (by decide) (fun h => absurd h (nI_ge (by omega) (by omega))) (fun _ => ?_)
    refine zaload_n dX9_lots_74 rfl ?_
    refine gf_X9_9 rfl dX9_lots_75 ?_
    refine zaload_n dX9_lots_78 rfl ?_
    refine gf_X9_13 rfl dX9_lots_79 ?_
    refine zcSn  gk_X9_133 dX9_lots_82 (c_X9_copies hr1 hr2 (by decide) hM) rfl (by decide) (Nat.le_of_ble_eq_true rfl) (fun S2 hp2 => ?_) rfl
    obtain ⟨hM2, -, hf2⟩ := hp2
    refine ziconst (v := 0) dX9_lots_85 (by decide) ?_
    refine zistore dX9_lots_86 (by decide) rfl ?_
    refine zlvs (lv' := [(0, .ref (zad x 0)), (1, .int (nI N)), (3, .int w), (4, .int s), (5, .int (nI i)), (6, .int (nI 0))]) ⟨rfl, rfl, rfl, rfl, rfl, rfl, trivial⟩ ?_
    refine l_X9_lots4 hnx hW h0 hN hR (drw nxt (drB (sN σ)) 4 z (sT σ)) (fun S3 hM3 hF3 hf3 hz3 => ?_) 4 0 S2 z (sT σ) (by omega) hM2 hW.1 (frS.rf.go hf2) (by rw [congrFun (congrFun hf2.2 0) 13]; exact hz) rfl
    by_cases hw : w = 0
    · refine zaload_n dX9_lots_149 rfl ?_
      refine gf_X9_13 rfl dX9_lots_150 ?_
      refine zbipush (v := nI 6) dX9_lots_153 (by decide) ?_
      refine zcSn  gk_X9_126 dX9_lots_155 (c_X9_monthsOn hr2 hM3 hF3.2.1 (K := 6) (by decide)) rfl (by decide) (Nat.le_of_ble_eq_true rfl) (fun S4 hp4 => ?_) rfl
      obtain ⟨hM4, -, -, hf4⟩ := hp4
      refine ziload dX9_lots_158 rfl ?_
      refine ziload_n dX9_lots_160 rfl ?_
      refine zif_ne (tgt := 174) dX9_lots_161 (by decide) (fun h => absurd hw h) (fun _ => ?_)
      refine zaload_n dX9_lots_164 rfl ?_
      refine gf_X9_13 rfl dX9_lots_165 ?_
      refine zcSf  gk_X9_160 dX9_lots_168 (c_X9_worthAll hr2 hM4) rfl (by decide) (Nat.le_of_ble_eq_true rfl) ?_ rfl
      refine zgoto (tgt := 182) dX9_lots_171 (by decide) ?_
      refine ziadd dX9_lots_182 ?_
      refine zistore dX9_lots_183 (by decide) rfl ?_
      refine ziinc dX9_lots_185 rfl rfl (by decide) rfl ?_
      refine zgoto (tgt := 68) dX9_lots_188 (by decide) ?_
      refine zlvs (lv' := [(0, .ref (zad x 0)), (1, .int (nI N)), (3, .int w), (4, .int _), (5, .int (nI (i + 1)))]) ⟨rfl, rfl, rfl, rfl, by rw [nI_succ i]; rfl, trivial⟩ ?_
      exact ih (i + 1) S4 _ _ (by omega) (frS.rep hR (hf3.go hf4)) ((congrFun (congrFun hf4.2 0) 13).trans hz3) (by rw [show lotsW (sN σ) w (monthsT (sN σ) 6 (drw nxt (drB (sN σ)) 4 z (sT σ)).2) = sF (fun p => (monthsT (sN σ) 6 (drw nxt (drB (sN σ)) 4 z (sT σ)).2) 5 p - (monthsT (sN σ) 6 (drw nxt (drB (sN σ)) 4 z (sT σ)).2) 6 p) (sN σ) 0 0 from (if_pos hw).trans (allW_eq _ _).symm] at hr; exact hr)
    · refine zaload_n dX9_lots_149 rfl ?_
      refine gf_X9_13 rfl dX9_lots_150 ?_
      refine zbipush (v := nI 6) dX9_lots_153 (by decide) ?_
      refine zcSn  gk_X9_126 dX9_lots_155 (c_X9_monthsOn hr2 hM3 hF3.2.1 (K := 6) (by decide)) rfl (by decide) (Nat.le_of_ble_eq_true rfl) (fun S4 hp4 => ?_) rfl
      obtain ⟨hM4, -, -, hf4⟩ := hp4
      refine ziload dX9_lots_158 rfl ?_
      refine ziload_n dX9_lots_160 rfl ?_
      refine zif_ne (tgt := 174) dX9_lots_161 (by decide) (fun _ => ?_) (fun h => absurd h hw)
      refine zaload_n dX9_lots_174 rfl ?_
      refine gf_X9_13 rfl dX9_lots_175 ?_
      refine ziconst (v := nI 5) dX9_lots_178 (by decide) ?_
      refine zcSf  gk_X9_208 dX9_lots_179 (c_X9_allOf (j := 5) hr2 hM4 (by decide)) rfl (by decide) (Nat.le_of_ble_eq_true rfl) ?_ rfl
      refine ziadd dX9_lots_182 ?_
      refine zistore dX9_lots_183 (by decide) rfl ?_
      refine ziinc dX9_lots_185 rfl rfl (by decide) rfl ?_
      refine zgoto (tgt := 68) dX9_lots_188 (by decide) ?_
      refine zlvs (lv' := [(0, .ref (zad x 0)), (1, .int (nI N)), (3, .int w), (4, .int _), (5, .int (nI (i + 1)))]) ⟨rfl, rfl, rfl, rfl, by rw [nI_succ i]; rfl, trivial⟩ ?_
      exact ih (i + 1) S4 _ _ (by omega) (frS.rep hR (hf3.go hf4)) ((congrFun (congrFun hf4.2 0) 13).trans hz3) (by rw [show lotsW (sN σ) w (monthsT (sN σ) 6 (drw nxt (drB (sN σ)) 4 z (sT σ)).2) = sF ((monthsT (sN σ) 6 (drw nxt (drB (sN σ)) 4 z (sT σ)).2) 6) (sN σ) 0 0 from if_neg hw] at hr; exact hr)
set_option maxRecDepth 100000 in
set_option maxHeartbeats 4000000 in
theorem c_X9_lots (hnx : ∀ z : Int32, z * 1664525 + 1013904223 = nxt z) (hR : RepM σ S) (hW : WS σ) (n z w : Int32) : zR x false mX9_lots [.ref (zad x 0), .int n, .int z, .int w] S (qMf (fO (fO (rgF n 1 20) (whF w 2)) (if sN σ = 0 then -3 else 0)) (lotsF nxt (sN σ) (sT σ) w n.toNatClampNeg z 0) σ (σ)) := by
  have hM := hR.1
  have hn8 : sN σ ≤ 8 := hM.2.1
  refine zC_of (by decide +kernel) (Nat.le_of_ble_eq_true rfl) ?_
  refine ziload_n dX9_lots_0 rfl ?_
  refine ziconst (v := 1) dX9_lots_1 (by decide) ?_
  refine zicmp_ge (tgt := 12) dX9_lots_2 (by decide) (fun h2 => ?_) (fun h2 => ?_)
  · refine ziload_n dX9_lots_12 rfl ?_
    refine zbipush (v := 20) dX9_lots_13 (by decide) ?_
    refine zicmp_le (tgt := 25) dX9_lots_15 (by decide) (fun h15 => ?_) (fun h15 => ?_)
    · refine ziload_n dX9_lots_25 rfl ?_
      refine ziconst (v := 0) dX9_lots_26 (by decide) ?_
      refine ziconst (v := 1) dX9_lots_27 (by decide) ?_
      refine zcSf  gk_X9_44 dX9_lots_28 c_isIn_1 rfl (by decide) (Nat.le_of_ble_eq_true rfl) ?_ rfl
      refine zifb_ne (tgt := 41) dX9_lots_31 (by decide) (fun h31 => ?_) (fun h31 => ?_)
      · refine zaload_n dX9_lots_41 rfl ?_
        refine gf_X9_9 rfl dX9_lots_42 ?_
        refine ziconst (v := nI 0) dX9_lots_45 (by decide) ?_
        refine ziald dX9_lots_46 (mrk hr1.2) (mrl hr1.1 hr1.2) (by decide) (by decide) ?_
        rw [hM.1]
        refine zif_ne (tgt := 57) dX9_lots_47 (by decide) (fun h47 => ?_) (fun h47 => ?_)
        · refine zaload_n dX9_lots_57 rfl ?_
          refine ziload_n dX9_lots_58 rfl ?_
          refine pf_X9_211 rfl dX9_lots_59 ?_
          refine ziconst (v := 0) dX9_lots_62 (by decide) ?_
          refine zistore dX9_lots_63 (by decide) rfl ?_
          refine ziconst (v := nI 0) dX9_lots_65 (by decide) ?_
          refine zistore dX9_lots_66 (by decide) rfl ?_
          have h0 : ¬ sN σ = 0 := fun z => h47 (by rw [z]; rfl)
          have he : fO (fO (rgF n 1 20) (whF w 2)) (if sN σ = 0 then -3 else 0) = 0 := by rw [rgF_in (Int32.not_lt.mpr h2) (Int32.not_lt.mpr h15), fO_z, of_decide_eq_true h31, fO_z, if_neg h0]
          obtain ⟨j, hj1, hj2, rfl⟩ := rgF_of (a := 1) (c := 20) (by decide) (by decide) (rgF_in (Int32.not_lt.mpr h2) (Int32.not_lt.mpr h15))
          refine zlvs (lv' := [(0, .ref (zad x 0)), (1, .int (nI j)), (3, .int w), (4, .int 0), (5, .int (nI 0))]) ⟨rfl, rfl, rfl, rfl, rfl, trivial⟩ ?_
          exact zZ_mono (l_X9_lots hnx hW (by omega) hj2 _ j 0 _ z 0 (by omega) (frS.rep hR frS.rf.seed) seedS rfl) (fun q U h => by obtain ⟨v, g1, g2, g3⟩ := h; exact ⟨v, g1, qMf_ok he (by rw [g2, nI_clamp (by omega)]) g3⟩)
        · refine zaload_n dX9_lots_50 rfl ?_
          refine zbipush (v := -3) dX9_lots_51 (by decide) ?_
          refine zcVf ob_Mo gk_X9_143 dX9_lots_53 (c_X9_noFar isE_3) rfl (by decide) (Nat.le_of_ble_eq_true rfl) ?_ rfl
          exact zireturn dX9_lots_56 rfl rfl ⟨_, rfl, qMf_no (by rw [rgF_in (Int32.not_lt.mpr h2) (Int32.not_lt.mpr h15), fO_z, of_decide_eq_true h31, fO_z, if_pos ((nI_eq (b := 0) (by omega) (by decide)).mp h47)]) isE_3 hR⟩
      · refine zaload_n dX9_lots_34 rfl ?_
        refine zbipush (v := -2) dX9_lots_35 (by decide) ?_
        refine zcVf ob_Mo gk_X9_143 dX9_lots_37 (c_X9_noFar isE_2) rfl (by decide) (Nat.le_of_ble_eq_true rfl) ?_ rfl
        exact zireturn dX9_lots_40 rfl rfl ⟨_, rfl, qMf_no (by rw [rgF_in (Int32.not_lt.mpr h2) (Int32.not_lt.mpr h15), fO_z, whF_2 (of_decide_eq_false h31), fO_2]) isE_2 hR⟩
    · refine zaload_n dX9_lots_18 rfl ?_
      refine zbipush (v := -6) dX9_lots_19 (by decide) ?_
      refine zcVf ob_Mo gk_X9_143 dX9_lots_21 (c_X9_noFar isE_6) rfl (by decide) (Nat.le_of_ble_eq_true rfl) ?_ rfl
      exact zireturn dX9_lots_24 rfl rfl ⟨_, rfl, qMf_no (by rw [rgF_hi (Int32.not_lt.mpr h2) (Int32.not_le.mp h15), fO_6, fO_6]) isE_6 hR⟩
  · refine zaload_n dX9_lots_5 rfl ?_
    refine zbipush (v := -4) dX9_lots_6 (by decide) ?_
    refine zcVf ob_Mo gk_X9_143 dX9_lots_8 (c_X9_noFar isE_4) rfl (by decide) (Nat.le_of_ble_eq_true rfl) ?_ rfl
    exact zireturn dX9_lots_11 rfl rfl ⟨_, rfl, qMf_no (by rw [rgF_lo (Int32.not_le.mp h2), fO_4, fO_4]) isE_4 hR⟩
end LOTS
