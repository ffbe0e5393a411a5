/-! lot -/
section LOT
variable {x : zCx} {S : zSt} {σ σ' : Sig}
def freeL (T : Tw) : Nat → Nat → List Nat
  | 0, _ => []
  | k + 1, i => if T 4 i = nI i then i :: freeL T k (i + 1) else freeL T k (i + 1)
theorem freeL_len (T : Tw) : ∀ (k i : Nat), (freeL T k i).length ≤ k := by
  intro k
  induction k with
  | zero => intro i; exact Nat.le_refl 0
  | succ k ih =>
    intro i
    unfold freeL
    split
    · exact Nat.succ_le_succ (ih (i + 1))
    · exact Nat.le_succ_of_le (ih (i + 1))
theorem freeL_mem (T : Tw) : ∀ (k i p : Nat), p ∈ freeL T k i → i ≤ p ∧ p < i + k ∧ T 4 p = nI p := by
  intro k
  induction k with
  | zero => intro i p h; cases h
  | succ k ih =>
    intro i p h
    unfold freeL at h
    split at h
    · rename_i hq
      rcases List.mem_cons.mp h with rfl | h
      · exact ⟨Nat.le_refl _, by omega, hq⟩
      · have := ih (i + 1) p h; exact ⟨by omega, by omega, this.2.2⟩
    · have := ih (i + 1) p h; exact ⟨by omega, by omega, this.2.2⟩
theorem freeL_nodup (T : Tw) : ∀ (k i : Nat), (freeL T k i).Nodup := by
  intro k
  induction k with
  | zero => intro i; exact List.nodup_nil
  | succ k ih =>
    intro i
    unfold freeL
    split
    · exact List.nodup_cons.mpr ⟨fun z => by have := (freeL_mem T k (i + 1) i z).1; omega, ih (i + 1)⟩
    · exact ih (i + 1)
def lastI (l : Option Nat) : Int32 := match l with
  | none => -9
  | some q => nI q
def bitB (set : Int32) (i : Nat) : Bool := decide ((set >>> (nI i &&& 31)) &&& 1 = 1)
def pairsL (set : Int32) : List Nat → Nat → Tw → Tw
  | a :: b :: r, c, T => pairsL set r (c + 1) (if bitB set c = true then handT T b a else handT T a b)
  | [], _, T => T
  | [_], _, T => T
def Own (n : Nat) (T : Tw) (R : List Nat) : Prop := R.Nodup ∧ ∀ p ∈ R, p < n ∧ T 4 p = nI p
theorem Own.free {n : Nat} {T : Tw} : Own n T (freeL T n 0) := ⟨freeL_nodup T n 0, fun p h => by have := freeL_mem T n 0 p h; exact ⟨by omega, this.2.2⟩⟩
theorem Own.hand {n a b : Nat} {T : Tw} {R : List Nat} (h : Own n T (a :: b :: R)) : Own n (handT T a b) R ∧ Own n (handT T b a) R ∧ a < n ∧ b < n ∧ ¬ a = b ∧ T 4 a = nI a ∧ T 4 b = nI b := by
  obtain ⟨h1, h2⟩ := h
  obtain ⟨h3, h4⟩ := List.nodup_cons.mp h1
  obtain ⟨h5, h6⟩ := List.nodup_cons.mp h4
  have hab : ¬ a = b := fun z => h3 (by rw [z]; exact List.mem_cons_self)
  have ha := h2 a List.mem_cons_self
  have hb := h2 b (List.mem_cons_of_mem _ List.mem_cons_self)
  have key : ∀ p ∈ R, p < n ∧ T 4 p = nI p ∧ ¬ p = a ∧ ¬ p = b := fun p hp => by
    have := h2 p (List.mem_cons_of_mem _ (List.mem_cons_of_mem _ hp))
    exact ⟨this.1, this.2, fun z => h3 (by rw [← z]; exact List.mem_cons_of_mem _ hp), fun z => h5 (by rw [← z]; exact hp)⟩
  refine ⟨⟨h6, fun p hp => ?_⟩, ⟨h6, fun p hp => ?_⟩, ha.1, hb.1, hab, ha.2, hb.2⟩
  · obtain ⟨k1, k2, k3, k4⟩ := key p hp
    exact ⟨k1, by rw [hand_4 hab, if_neg k4, if_neg k3]; exact k2⟩
  · obtain ⟨k1, k2, k3, k4⟩ := key p hp
    exact ⟨k1, by rw [hand_4 (fun z => hab z.symm), if_neg k3, if_neg k4]; exact k2⟩
theorem two_nI (i : Nat) : (2 : Int32) * nI i = nI (2 * i) := by
  show Int32.ofNat 2 * Int32.ofNat i = Int32.ofNat (2 * i)
  rw [← Int32.ofNat_mul]
def lotV (n : Nat) (T : Tw) (set : Int32) : Int32 := allW n (monthsT n 12 (pairsL set (freeL T n 0) 0 T))
theorem sF_bound (g : Nat → Int32) (hg : ∀ p, ∃ m, m < 100 ∧ g p = nI m) : ∀ (k i a : Nat), a + 99 * k < 2 ^ 31 → ∃ s, s ≤ a + 99 * k ∧ sF g k i (nI a) = nI s := by
  intro k
  induction k with
  | zero => intro i a _; exact ⟨a, by omega, rfl⟩
  | succ k ih =>
    intro i a ha
    obtain ⟨m, m1, m2⟩ := hg i
    obtain ⟨s, s1, s2⟩ := ih (i + 1) (a + m) (by omega)
    refine ⟨s, by omega, ?_⟩
    show sF g k (i + 1) (nI a + g i) = nI s
    rw [m2, nI_add, s2]
theorem sF_bnd {n : Nat} (g : Nat → Int32) (hn : n ≤ 8) (hg : ∀ p, p < n → ∃ m, m < 100 ∧ g p = nI m) : ∃ s, s ≤ 792 ∧ sF g n 0 0 = nI s := by
  have e : sF g n 0 0 = sF (fun p => if p < n then g p else 0) n 0 0 := sF_congr n 0 0 (fun j _ hj => by rw [if_pos (by omega)])
  obtain ⟨s, s1, s2⟩ := sF_bound (fun p => if p < n then g p else 0) (fun p => by by_cases h : p < n; rw [if_pos h]; exact hg p h; rw [if_neg h]; exact ⟨0, by decide, rfl⟩) n 0 0 (by omega)
  exact ⟨s, by omega, by rw [e]; exact s2⟩
theorem allW_low {n : Nat} {T : Tw} (h : WFT n T) : (-1000000000 : Int32) < allW n T := by
  obtain ⟨a, a1, a2⟩ := sF_bnd (T 5) h.1 (fun p hp => (h.2.2.2.2 p hp).1)
  obtain ⟨b, b1, b2⟩ := sF_bnd (T 6) h.1 (fun p hp => (h.2.2.2.2 p hp).2)
  unfold allW
  rw [a2, b2, Int32.lt_iff_toInt_lt, Int32.toInt_sub, nI_toInt (by omega), nI_toInt (by omega)]
  have e : ((a : Int) - (b : Int)).bmod (2 ^ 32) = (a : Int) - (b : Int) := by
    apply Int.bmod_eq_of_le <;> omega
  rw [e]
  have : (-1000000000 : Int32).toInt = -1000000000 := by decide
  omega
theorem WFT.pairs {n : Nat} {set : Int32} : ∀ (m : Nat) (R : List Nat) (c : Nat) (T : Tw), R.length ≤ m → WFT n T → Own n T R → WFT n (pairsL set R c T) := by
  intro m
  induction m with
  | zero =>
    intro R c T hR hT hO
    have : R = [] := List.length_eq_zero_iff.mp (by omega)
    subst this
    exact hT
  | succ m ih =>
    intro R c T hR hT hO
    match R, hR, hO with
    | [], _, _ => exact hT
    | [_], _, _ => exact hT
    | a :: b :: r, hR, hO =>
      obtain ⟨o1, o2, ha, hb, hab, ca, cb⟩ := hO.hand
      unfold pairsL
      have hl : r.length ≤ m := by simp at hR; omega
      split
      · exact ih r (c + 1) _ hl (hT.hand hb ha (fun z => hab z.symm) cb ca) o2
      · exact ih r (c + 1) _ hl (hT.hand ha hb hab ca cb) o1

set_option maxRecDepth 100000 in
set_option maxHeartbeats 4000000 in
theorem l_X8_findFree (hW : WS σ) : ∀ (k i : Nat) (S : zSt) (P : List Nat), i + k = sN σ → RepC σ S → P ++ freeL (sT σ) k i = freeL (sT σ) (sN σ) 0 → (∀ q, q < P.length → S.1 36 q = nI (P.getD q 0)) → zZ x true mX8_findFree (fun q U => ∃ v : Int32, q = some (.int v) ∧ v = nI (freeL (sT σ) (sN σ) 0).length ∧ RepC σ U ∧ ∀ q, q < (freeL (sT σ) (sN σ) 0).length → U.1 36 q = nI ((freeL (sT σ) (sN σ) 0).getD q 0)) 4 [(0, .ref (zad x 0)), (1, .int (nI P.length)), (2, .int (nI i))] [] S := by
  intro k
  induction k with
  | zero =>
    intro i S P hi hR hP hq
    have hT := hR.1
    have hn8 : sN σ ≤ 8 := hT.2.1
    have hP : P = freeL (sT σ) (sN σ) 0 := by rw [← hP]; exact (List.append_nil P).symm
    subst hP
    refine ziload_n dX8_findFree_4 rfl ?_
    refine zaload_n dX8_findFree_5 rfl ?_
    refine gf_X8_30 rfl dX8_findFree_6 ?_
    refine gf_X8_192 (t := 0) (by decide) rfl dX8_findFree_9 ?_
    rw [hT.1]
    refine zicmp_ge (tgt := 42) dX8_findFree_12 (by decide) (fun _ => ?_) (fun h => absurd (nI_le (by omega) (by omega)) h)
    refine ziload_n dX8_findFree_42 rfl ?_
    exact zireturn dX8_findFree_43 rfl rfl ⟨_, rfl, rfl, hR, hq⟩
  | succ k ih =>
    intro i S P hi hR hP hq
    have hT := hR.1
    have hn8 : sN σ ≤ 8 := hT.2.1
    have hlen := freeL_len (sT σ) (sN σ) 0
    rw [← hP, List.length_append] at hlen
    rw [freeL] at hP hlen
    by_cases ho : (sT σ) 4 i = nI i
    · rw [if_pos ho] at hP hlen
      simp only [List.length_cons] at hlen
      refine ziload_n dX8_findFree_4 rfl ?_
      refine zaload_n dX8_findFree_5 rfl ?_
      refine gf_X8_30 rfl dX8_findFree_6 ?_
      refine gf_X8_192 (t := 0) (by decide) rfl dX8_findFree_9 ?_
      rw [hT.1]
      refine zicmp_ge (tgt := 42) dX8_findFree_12 (by decide) (fun h => absurd h (nI_ge (by omega) (by omega))) (fun _ => ?_)
      refine zaload_n dX8_findFree_15 rfl ?_
      refine gf_X8_30 rfl dX8_findFree_16 ?_
      refine ziload_n dX8_findFree_19 rfl ?_
      refine zcVf (ob_town (t := 0) (by decide)) gk_X8_189 dX8_findFree_20 (c_X7_wearsOwn (by decide) hT (by omega)) rfl (by decide) (Nat.le_of_ble_eq_true rfl) ?_ rfl
      refine zifb_eq (tgt := 36) dX8_findFree_23 (by decide) (fun h => absurd (h.symm.trans (decide_eq_true ho)) (by decide)) (fun _ => ?_)
      refine zaload_n dX8_findFree_26 rfl ?_
      refine gf_X8_56 rfl dX8_findFree_27 ?_
      refine ziload_n dX8_findFree_30 rfl ?_
      refine ziload_n dX8_findFree_31 rfl ?_
      refine ziast dX8_findFree_32 (by decide) rfl (by decide) (by omega) ?_
      refine ziinc dX8_findFree_33 rfl rfl (by decide) rfl ?_
      refine ziinc dX8_findFree_36 rfl rfl (by decide) rfl ?_
      refine zgoto (tgt := 4) dX8_findFree_39 (by decide) ?_
      refine zlvs (lv' := [(0, .ref (zad x 0)), (1, .int (nI (P ++ [i]).length)), (2, .int (nI (i + 1)))]) ⟨rfl, by rw [List.length_append, show [i].length = 1 from rfl, nI_succ P.length]; rfl, by rw [nI_succ i]; rfl, trivial⟩ ?_
      refine ih (i + 1) _ (P ++ [i]) (by omega) (hR.scr (fun k hk => by funext q; dsimp only; rw [u2_w (by omega)]) rfl) (by rw [List.append_assoc]; exact hP) (fun q hl => ?_)
      rw [List.length_append] at hl
      dsimp only
      by_cases z : q = P.length
      · subst z; rw [u2_self]; simp
      · have hl2 : q < P.length := by simp at hl; omega
        rw [u2_ne (fun y => z y.2), hq q hl2]
        congr 1
        simp [List.getElem?_append_left hl2]
    · rw [if_neg ho] at hP
      refine ziload_n dX8_findFree_4 rfl ?_
      refine zaload_n dX8_findFree_5 rfl ?_
      refine gf_X8_30 rfl dX8_findFree_6 ?_
      refine gf_X8_192 (t := 0) (by decide) rfl dX8_findFree_9 ?_
      rw [hT.1]
      refine zicmp_ge (tgt := 42) dX8_findFree_12 (by decide) (fun h => absurd h (nI_ge (by omega) (by omega))) (fun _ => ?_)
      refine zaload_n dX8_findFree_15 rfl ?_
      refine gf_X8_30 rfl dX8_findFree_16 ?_
      refine ziload_n dX8_findFree_19 rfl ?_
      refine zcVf (ob_town (t := 0) (by decide)) gk_X8_189 dX8_findFree_20 (c_X7_wearsOwn (by decide) hT (by omega)) rfl (by decide) (Nat.le_of_ble_eq_true rfl) ?_ rfl
      refine zifb_eq (tgt := 36) dX8_findFree_23 (by decide) (fun _ => ?_) (fun h => absurd (h.symm.trans (decide_eq_false ho)) (by decide))
      refine ziinc dX8_findFree_36 rfl rfl (by decide) rfl ?_
      refine zgoto (tgt := 4) dX8_findFree_39 (by decide) ?_
      refine zlvs (lv' := [(0, .ref (zad x 0)), (1, .int (nI P.length)), (2, .int (nI (i + 1)))]) ⟨rfl, rfl, by rw [nI_succ i]; rfl, trivial⟩ ?_
      exact ih (i + 1) S P (by omega) hR hP hq
set_option maxRecDepth 100000 in
set_option maxHeartbeats 4000000 in
theorem c_X8_findFree (hR : RepC σ S) (hW : WS σ) : zR x true mX8_findFree [.ref (zad x 0)] S (fun r U => r = nI (freeL (sT σ) (sN σ) 0).length ∧ RepC σ U ∧ ∀ q, q < (freeL (sT σ) (sN σ) 0).length → U.1 36 q = nI ((freeL (sT σ) (sN σ) 0).getD q 0)) := by
  refine zC_of (by decide +kernel) (Nat.le_of_ble_eq_true rfl) ?_
  refine ziconst (v := 0) dX8_findFree_0 (by decide) ?_
  refine zistore_n dX8_findFree_1 (by decide) rfl ?_
  refine ziconst (v := 0) dX8_findFree_2 (by decide) ?_
  refine zistore_n dX8_findFree_3 (by decide) rfl ?_
  refine zlvs (lv' := [(0, .ref (zad x 0)), (1, .int (nI 0)), (2, .int (nI 0))]) ⟨rfl, rfl, rfl, trivial⟩ ?_
  exact l_X8_findFree hW (sN σ) 0 S [] (by omega) hR rfl (fun q h => absurd h (Nat.not_lt_zero q))
set_option maxRecDepth 100000 in
set_option maxHeartbeats 4000000 in
theorem l_X8_worthsOfLot (hW : WS σ) {set : Int32} {pr : Nat} {S0 : zSt} (r0 : Int32) (hpr : pr ≤ 4) : ∀ (k i : Nat) (R : List Nat) (S : zSt) (T : Tw), i + k = pr → R.length / 2 = k → isT S 1 (sN σ) T → WFT (sN σ) T → Own (sN σ) T R → frT 1 S0 S → (∀ q, q < R.length → S0.1 36 (2 * i + q) = nI (R.getD q 0)) → allW (sN σ) (monthsT (sN σ) 12 (pairsL set R i T)) = r0 → zZ x true mX8_worthsOfLot (fun q U => ∃ v : Int32, q = some (.int v) ∧ v = r0 ∧ frT 1 S0 U) 13 [(0, .ref (zad x 0)), (1, .int set), (2, .int (nI pr)), (3, .int (nI i))] [] S := by
  intro k
  induction k with
  | zero =>
    intro i R S T hi hk hT2 hF hO hf hq hr
    have e : pairsL set R i T = T := by
      match R, hk with
      | [], _ => rfl
      | [_], _ => rfl
      | _ :: _ :: _, hk => exfalso; simp at hk; omega
    rw [e] at hr
    refine ziload_n dX8_worthsOfLot_13 rfl ?_
    refine ziload_n dX8_worthsOfLot_14 rfl ?_
    refine zicmp_ge (tgt := 62) dX8_worthsOfLot_15 (by decide) (fun _ => ?_) (fun h => absurd (nI_le (by omega) (by omega)) h)
    refine zaload_n dX8_worthsOfLot_62 rfl ?_
    refine gf_X8_36 rfl dX8_worthsOfLot_63 ?_
    refine zbipush (v := nI 12) dX8_worthsOfLot_66 (by decide) ?_
    refine zcVn (ob_town (t := 1) (by decide)) gk_X8_166 dX8_worthsOfLot_68 (c_X7_goOn (t := 1) (by decide) hT2 hF.vw (K := 12) (by decide)) rfl (by decide) (Nat.le_of_ble_eq_true rfl) (fun S3 hp3 => ?_) rfl
    obtain ⟨hT3, -, -, hf3⟩ := hp3
    refine zaload_n dX8_worthsOfLot_71 rfl ?_
    refine gf_X8_36 rfl dX8_worthsOfLot_72 ?_
    refine zcVf (ob_town (t := 1) (by decide)) gk_X8_218 dX8_worthsOfLot_75 (show zF x true mX7_allWorths _ S3 (some (.int (allW (sN σ) _))) S3 from c_X7_allWorths (t := 1) (by decide) hT3) rfl (by decide) (Nat.le_of_ble_eq_true rfl) ?_ rfl
    exact zireturn dX8_worthsOfLot_78 rfl rfl ⟨_, rfl, hr, hf.trans hf3⟩
  | succ k ih =>
    intro i R S T hi hk hT2 hF hO hf hq hr
    match R, hk, hO, hq, hr with
    | [], hk, _, _, _ => simp at hk
    | [_], hk, _, _, _ => simp at hk
    | a :: b :: r, hk, hO, hq, hr =>
      obtain ⟨o1, o2, ha, hb, hab, ca, cb⟩ := hO.hand
      have hn8 := hF.1
      have q0 : S.1 36 (2 * i) = nI a := by rw [hf.1 36 (by decide)]; exact hq 0 (by simp)
      have q1 : S.1 36 (2 * i + 1) = nI b := by rw [hf.1 36 (by decide)]; exact hq 1 (by simp)
      have hq' : ∀ q, q < r.length → S0.1 36 (2 * (i + 1) + q) = nI (r.getD q 0) := fun q h => by
        have := hq (q + 2) (by simp; omega)
        rw [show 2 * (i + 1) + q = 2 * i + (q + 2) by omega, this]
        simp
      have hk' : r.length / 2 = k := by simp at hk; omega
      rw [pairsL] at hr
      rcases and1 (set >>> (nI i &&& 31)) with hb0 | hb1
      · have hbit : ¬ bitB set i = true := fun z => by have := of_decide_eq_true z; rw [hb0] at this; exact absurd this (by decide)
        rw [if_neg hbit] at hr
        refine ziload_n dX8_worthsOfLot_13 rfl ?_
        refine ziload_n dX8_worthsOfLot_14 rfl ?_
        refine zicmp_ge (tgt := 62) dX8_worthsOfLot_15 (by decide) (fun h => absurd h (nI_ge (by omega) (by omega))) (fun _ => ?_)
        refine ziload_n dX8_worthsOfLot_18 rfl ?_
        refine ziload_n dX8_worthsOfLot_19 rfl ?_
        refine zishr dX8_worthsOfLot_20 ?_
        refine ziconst (v := 1) dX8_worthsOfLot_21 (by decide) ?_
        refine ziand dX8_worthsOfLot_22 ?_
        rw [hb0]
        refine zistore dX8_worthsOfLot_23 (by decide) rfl ?_
        refine zaload_n dX8_worthsOfLot_25 rfl ?_
        refine gf_X8_36 rfl dX8_worthsOfLot_26 ?_
        refine zaload_n dX8_worthsOfLot_29 rfl ?_
        refine gf_X8_56 rfl dX8_worthsOfLot_30 ?_
        refine ziconst (v := 2) dX8_worthsOfLot_33 (by decide) ?_
        refine ziload_n dX8_worthsOfLot_34 rfl ?_
        refine zimul dX8_worthsOfLot_35 ?_
        refine ziload dX8_worthsOfLot_36 rfl ?_
        refine ziadd dX8_worthsOfLot_38 ?_
        rw [two_nI, Int32.add_zero]
        refine ziald dX8_worthsOfLot_39 (by decide) rfl (by decide) (by omega) ?_
        rw [q0]
        refine zaload_n dX8_worthsOfLot_40 rfl ?_
        refine gf_X8_56 rfl dX8_worthsOfLot_41 ?_
        refine ziconst (v := 2) dX8_worthsOfLot_44 (by decide) ?_
        refine ziload_n dX8_worthsOfLot_45 rfl ?_
        refine zimul dX8_worthsOfLot_46 ?_
        refine ziconst (v := 1) dX8_worthsOfLot_47 (by decide) ?_
        refine ziadd dX8_worthsOfLot_48 ?_
        refine ziload dX8_worthsOfLot_49 rfl ?_
        refine zisub dX8_worthsOfLot_51 ?_
        rw [two_nI, nI_1, Int32.sub_zero]
        refine ziald dX8_worthsOfLot_52 (by decide) rfl (by decide) (by omega) ?_
        rw [q1]
        refine zcVv (ob_town (t := 1) (by decide)) gk_X8_134 dX8_worthsOfLot_53 (c_X7_handOver (t := 1) (by decide) hT2 ha hb) rfl (by decide) (Nat.le_of_ble_eq_true rfl) ?_ rfl
        have hT3 := isT_hand (p := a) (q := b) hT2
        have hf3 := fr_hand (p := a) (q := b) hf
        refine ziinc dX8_worthsOfLot_56 rfl rfl (by decide) rfl ?_
        refine zgoto (tgt := 13) dX8_worthsOfLot_59 (by decide) ?_
        refine zlvs (lv' := [(0, .ref (zad x 0)), (1, .int set), (2, .int (nI pr)), (3, .int (nI (i + 1)))]) ⟨rfl, rfl, rfl, by rw [nI_succ i]; rfl, trivial⟩ ?_
        exact ih (i + 1) r _ _ (by omega) hk' hT3 (hF.hand ha hb hab ca cb) o1 hf3 hq' hr
      · have hbit : bitB set i = true := decide_eq_true hb1
        rw [if_pos hbit] at hr
        refine ziload_n dX8_worthsOfLot_13 rfl ?_
        refine ziload_n dX8_worthsOfLot_14 rfl ?_
        refine zicmp_ge (tgt := 62) dX8_worthsOfLot_15 (by decide) (fun h => absurd h (nI_ge (by omega) (by omega))) (fun _ => ?_)
        refine ziload_n dX8_worthsOfLot_18 rfl ?_
        refine ziload_n dX8_worthsOfLot_19 rfl ?_
        refine zishr dX8_worthsOfLot_20 ?_
        refine ziconst (v := 1) dX8_worthsOfLot_21 (by decide) ?_
        refine ziand dX8_worthsOfLot_22 ?_
        rw [hb1]
        refine zistore dX8_worthsOfLot_23 (by decide) rfl ?_
        refine zaload_n dX8_worthsOfLot_25 rfl ?_
        refine gf_X8_36 rfl dX8_worthsOfLot_26 ?_
        refine zaload_n dX8_worthsOfLot_29 rfl ?_
        refine gf_X8_56 rfl dX8_worthsOfLot_30 ?_
        refine ziconst (v := 2) dX8_worthsOfLot_33 (by decide) ?_
        refine ziload_n dX8_worthsOfLot_34 rfl ?_
        refine zimul dX8_worthsOfLot_35 ?_
        refine ziload dX8_worthsOfLot_36 rfl ?_
        refine ziadd dX8_worthsOfLot_38 ?_
        rw [two_nI, nI_1]
        refine ziald dX8_worthsOfLot_39 (by decide) rfl (by decide) (by omega) ?_
        rw [q1]
        refine zaload_n dX8_worthsOfLot_40 rfl ?_
        refine gf_X8_56 rfl dX8_worthsOfLot_41 ?_
        refine ziconst (v := 2) dX8_worthsOfLot_44 (by decide) ?_
        refine ziload_n dX8_worthsOfLot_45 rfl ?_
        refine zimul dX8_worthsOfLot_46 ?_
        refine ziconst (v := 1) dX8_worthsOfLot_47 (by decide) ?_
        refine ziadd dX8_worthsOfLot_48 ?_
        refine ziload dX8_worthsOfLot_49 rfl ?_
        refine zisub dX8_worthsOfLot_51 ?_
        rw [two_nI, nI_1, nI_pred]
        refine ziald dX8_worthsOfLot_52 (by decide) rfl (by decide) (by omega) ?_
        rw [q0]
        refine zcVv (ob_town (t := 1) (by decide)) gk_X8_134 dX8_worthsOfLot_53 (c_X7_handOver (t := 1) (by decide) hT2 hb ha) rfl (by decide) (Nat.le_of_ble_eq_true rfl) ?_ rfl
        have hT3 := isT_hand (p := b) (q := a) hT2
        have hf3 := fr_hand (p := b) (q := a) hf
        refine ziinc dX8_worthsOfLot_56 rfl rfl (by decide) rfl ?_
        refine zgoto (tgt := 13) dX8_worthsOfLot_59 (by decide) ?_
        refine zlvs (lv' := [(0, .ref (zad x 0)), (1, .int set), (2, .int (nI pr)), (3, .int (nI (i + 1)))]) ⟨rfl, rfl, rfl, by rw [nI_succ i]; rfl, trivial⟩ ?_
        exact ih (i + 1) r _ _ (by omega) hk' hT3 (hF.hand hb ha (fun z => hab z.symm) cb ca) o2 hf3 hq' hr
set_option maxRecDepth 100000 in
set_option maxHeartbeats 4000000 in
theorem c_X8_worthsOfLot (hR : RepC σ S) (hW : WS σ) {set : Int32} {pr : Nat} (hpr : (freeL (sT σ) (sN σ) 0).length / 2 = pr) (hq : ∀ q, q < (freeL (sT σ) (sN σ) 0).length → S.1 36 q = nI ((freeL (sT σ) (sN σ) 0).getD q 0)) : zR x true mX8_worthsOfLot [.ref (zad x 0), .int set, .int (nI pr)] S (fun r U => r = lotV (sN σ) (sT σ) set ∧ frT 1 S U) := by
  have hT := hR.1
  have hn8 : sN σ ≤ 8 := hT.2.1
  have hlen := freeL_len (sT σ) (sN σ) 0
  refine zC_of (by decide +kernel) (Nat.le_of_ble_eq_true rfl) ?_
  refine zaload_n dX8_worthsOfLot_0 rfl ?_
  refine gf_X8_36 rfl dX8_worthsOfLot_1 ?_
  refine zaload_n dX8_worthsOfLot_4 rfl ?_
  refine gf_X8_30 rfl dX8_worthsOfLot_5 ?_
  refine zcVn (ob_town (t := 1) (by decide)) gk_X8_88 dX8_worthsOfLot_8 (c_X7_becomeLike (t := 1) (u := 0) (by decide) (by decide) (by decide) hT) rfl (by decide) (Nat.le_of_ble_eq_true rfl) (fun S2 hp2 => ?_) rfl
  obtain ⟨hT2, -, hf2⟩ := hp2
  refine ziconst (v := 0) dX8_worthsOfLot_11 (by decide) ?_
  refine zistore_n dX8_worthsOfLot_12 (by decide) rfl ?_
  refine zlvs (lv' := [(0, .ref (zad x 0)), (1, .int set), (2, .int (nI pr)), (3, .int (nI 0))]) ⟨rfl, rfl, rfl, rfl, trivial⟩ ?_
  exact l_X8_worthsOfLot hW _ (by omega) pr 0 (freeL (sT σ) (sN σ) 0) S2 (sT σ) (by omega) hpr hT2 hW.1 Own.free hf2 (fun q h => by rw [Nat.mul_zero, Nat.zero_add]; exact hq q h) rfl
def bmF (val : Nat → Int32) : Nat → Nat → Int32 → Int32 → Int32 × Int32
  | 0, _, b, m => (b, m)
  | k + 1, i, b, m => if m < val i then bmF val k (i + 1) (nI i) (val i) else bmF val k (i + 1) b m
def lotA (n : Nat) (T : Tw) : Int32 × Int32 := bmF (fun s => lotV n T (nI s)) (2 ^ ((freeL T n 0).length / 2) - 1) 1 0 (lotV n T 0)
theorem shl_nI {p : Nat} (h : p ≤ 4) : (1 : Int32) <<< (nI p &&& 31) = nI (2 ^ p) := by
  rcases (show p = 0 ∨ p = 1 ∨ p = 2 ∨ p = 3 ∨ p = 4 by omega) with rfl | rfl | rfl | rfl | rfl <;> decide
theorem half_nI {p : Nat} (h : p ≤ 8) : nI p / 2 = nI (p / 2) := by
  rcases (show p = 0 ∨ p = 1 ∨ p = 2 ∨ p = 3 ∨ p = 4 ∨ p = 5 ∨ p = 6 ∨ p = 7 ∨ p = 8 by omega) with rfl | rfl | rfl | rfl | rfl | rfl | rfl | rfl | rfl <;> decide
theorem pow4 {p : Nat} (h : p ≤ 4) : 1 ≤ 2 ^ p ∧ 2 ^ p ≤ 16 := by
  rcases (show p = 0 ∨ p = 1 ∨ p = 2 ∨ p = 3 ∨ p = 4 by omega) with rfl | rfl | rfl | rfl | rfl <;> decide
set_option maxRecDepth 100000 in
set_option maxHeartbeats 4000000 in
theorem l_X8_lot (hW : WS σ) {w : Int32} {pr : Nat} (hpr : (freeL (sT σ) (sN σ) 0).length / 2 = pr) (hp4 : pr ≤ 4) (r : Int32) : ∀ (k i : Nat) (S : zSt) (b m : Int32), i + k = 2 ^ pr → RepC σ S → (∀ q, q < (freeL (sT σ) (sN σ) 0).length → S.1 36 q = nI ((freeL (sT σ) (sN σ) 0).getD q 0)) → (if w = 0 then (bmF (fun s => lotV (sN σ) (sT σ) (nI s)) k i b m).1 else (bmF (fun s => lotV (sN σ) (sT σ) (nI s)) k i b m).2) = r → zZ x true mX8_lot (fun q U => ∃ v : Int32, q = some (.int v) ∧ v = r ∧ RepC σ U) 37 [(0, .ref (zad x 0)), (1, .int w), (3, .int (nI pr)), (4, .int b), (5, .int m), (6, .int (nI i))] [] S := by
  have hpw := pow4 hp4
  intro k
  induction k with
  | zero =>
    intro i S b m hi hR hq hr
    by_cases hw : w = 0
    · refine ziload dX8_lot_37 rfl ?_
      refine ziconst (v := 1) dX8_lot_39 (by decide) ?_
      refine ziload_n dX8_lot_40 rfl ?_
      refine zishl dX8_lot_41 ?_
      rw [shl_nI hp4]
      refine zicmp_ge (tgt := 75) dX8_lot_42 (by decide) (fun _ => ?_) (fun h => absurd (nI_le (a := 2 ^ pr) (by omega) (by omega)) h)
      refine ziload_n dX8_lot_75 rfl ?_
      refine zif_ne (tgt := 84) dX8_lot_76 (by decide) (fun h => absurd hw h) (fun _ => ?_)
      refine ziload dX8_lot_79 rfl ?_
      refine zgoto (tgt := 86) dX8_lot_81 (by decide) ?_
      exact zireturn dX8_lot_86 rfl rfl ⟨_, rfl, by rw [← hr, if_pos hw]; rfl, hR⟩
    · refine ziload dX8_lot_37 rfl ?_
      refine ziconst (v := 1) dX8_lot_39 (by decide) ?_
      refine ziload_n dX8_lot_40 rfl ?_
      refine zishl dX8_lot_41 ?_
      rw [shl_nI hp4]
      refine zicmp_ge (tgt := 75) dX8_lot_42 (by decide) (fun _ => ?_) (fun h => absurd (nI_le (a := 2 ^ pr) (by omega) (by omega)) h)
      refine ziload_n dX8_lot_75 rfl ?_
      refine zif_ne (tgt := 84) dX8_lot_76 (by decide) (fun _ => ?_) (fun h => absurd h hw)
      refine ziload dX8_lot_84 rfl ?_
      exact zireturn dX8_lot_86 rfl rfl ⟨_, rfl, by rw [← hr, if_neg hw]; rfl, hR⟩
  | succ k ih =>
    intro i S b m hi hR hq hr
    rw [bmF] at hr
    refine ziload dX8_lot_37 rfl ?_
    refine ziconst (v := 1) dX8_lot_39 (by decide) ?_
    refine ziload_n dX8_lot_40 rfl ?_
    refine zishl dX8_lot_41 ?_
    rw [shl_nI hp4]
    refine zicmp_ge (tgt := 75) dX8_lot_42 (by decide) (fun h => absurd h (nI_ge (b := 2 ^ pr) (by omega) (by omega))) (fun _ => ?_)
    refine zaload_n dX8_lot_45 rfl ?_
    refine ziload dX8_lot_46 rfl ?_
    refine ziload_n dX8_lot_48 rfl ?_
    refine zcVr ob_X gk_X8_224 dX8_lot_49 (c_X8_worthsOfLot hR hW hpr hq) rfl (by decide) (Nat.le_of_ble_eq_true rfl) (fun r3 S3 hp3 => ?_) rfl
    obtain ⟨rfl, hf3⟩ := hp3
    have hq3 : ∀ q, q < (freeL (sT σ) (sN σ) 0).length → S3.1 36 q = nI ((freeL (sT σ) (sN σ) 0).getD q 0) := fun q h => by rw [hf3.1 36 (by decide)]; exact hq q h
    refine zistore dX8_lot_52 (by decide) rfl ?_
    refine ziload dX8_lot_54 rfl ?_
    refine ziload dX8_lot_56 rfl ?_
    refine zicmp_le (tgt := 69) dX8_lot_58 (by decide) (fun h58 => ?_) (fun h58 => ?_)
    · refine ziinc dX8_lot_69 rfl rfl (by decide) rfl ?_
      refine zgoto (tgt := 37) dX8_lot_72 (by decide) ?_
      refine zlvs (lv' := [(0, .ref (zad x 0)), (1, .int w), (3, .int (nI pr)), (4, .int _), (5, .int _), (6, .int (nI (i + 1)))]) ⟨rfl, rfl, rfl, rfl, rfl, by rw [nI_succ i]; rfl, trivial⟩ ?_
      first
      | exact ih (i + 1) S3 _ _ (by omega) (hR.mind hf3) hq3 (by rw [if_neg (Int32.not_lt.mpr h58)] at hr; exact hr)
      | exact ih (i + 1) S3 _ _ (by omega) (hR.mind hf3) hq3 (by rw [if_pos (Int32.not_le.mp h58)] at hr; exact hr)
    · refine ziload dX8_lot_61 rfl ?_
      refine zistore dX8_lot_63 (by decide) rfl ?_
      refine ziload dX8_lot_65 rfl ?_
      refine zistore dX8_lot_67 (by decide) rfl ?_
      refine ziinc dX8_lot_69 rfl rfl (by decide) rfl ?_
      refine zgoto (tgt := 37) dX8_lot_72 (by decide) ?_
      refine zlvs (lv' := [(0, .ref (zad x 0)), (1, .int w), (3, .int (nI pr)), (4, .int _), (5, .int _), (6, .int (nI (i + 1)))]) ⟨rfl, rfl, rfl, rfl, rfl, by rw [nI_succ i]; rfl, trivial⟩ ?_
      first
      | exact ih (i + 1) S3 _ _ (by omega) (hR.mind hf3) hq3 (by rw [if_neg (Int32.not_lt.mpr h58)] at hr; exact hr)
      | exact ih (i + 1) S3 _ _ (by omega) (hR.mind hf3) hq3 (by rw [if_pos (Int32.not_le.mp h58)] at hr; exact hr)
set_option maxRecDepth 100000 in
set_option maxHeartbeats 4000000 in
theorem c_X8_lot (hR : RepC σ S) (hW : WS σ) (w : Int32) : zR x true mX8_lot [.ref (zad x 0), .int w] S (qCf (whF w 2) (if w = 0 then (lotA (sN σ) (sT σ)).1 else (lotA (sN σ) (sT σ)).2) σ (σ)) := by
  have hT := hR.1
  have hn8 : sN σ ≤ 8 := hT.2.1
  refine zC_of (by decide +kernel) (Nat.le_of_ble_eq_true rfl) ?_
  have hlen := freeL_len (sT σ) (sN σ) 0
  by_cases he : whF w 2 = 0
  · refine ziload_n dX8_lot_0 rfl ?_
    refine ziconst (v := 2) dX8_lot_1 (by decide) ?_
    refine zcSf  gk_X8_99 dX8_lot_2 c_X8_whatFault rfl (by decide) (Nat.le_of_ble_eq_true rfl) ?_ rfl
    refine zistore_n dX8_lot_5 (by decide) rfl ?_
    refine ziload_n dX8_lot_6 rfl ?_
    refine zif_eq (tgt := 16) dX8_lot_7 (by decide) (fun _ => ?_) (fun h => absurd he h)
    refine zaload_n dX8_lot_16 rfl ?_
    refine zcVr ob_X gk_X8_221 dX8_lot_17 (c_X8_findFree hR hW) rfl (by decide) (Nat.le_of_ble_eq_true rfl) (fun r2 S2 hp2 => ?_) rfl
    obtain ⟨rfl, hR2, hq2⟩ := hp2
    refine ziconst (v := 2) dX8_lot_20 (by decide) ?_
    refine zidiv dX8_lot_21 (by decide) ?_
    rw [half_nI (by omega)]
    refine zistore_n dX8_lot_22 (by decide) rfl ?_
    refine ziconst (v := 0) dX8_lot_23 (by decide) ?_
    refine zistore dX8_lot_24 (by decide) rfl ?_
    refine zaload_n dX8_lot_26 rfl ?_
    refine ziconst (v := nI 0) dX8_lot_27 (by decide) ?_
    refine ziload_n dX8_lot_28 rfl ?_
    refine zcVr ob_X gk_X8_224 dX8_lot_29 (c_X8_worthsOfLot hR2 hW rfl hq2) rfl (by decide) (Nat.le_of_ble_eq_true rfl) (fun r3 S3 hp3 => ?_) rfl
    obtain ⟨rfl, hf3⟩ := hp3
    refine zistore dX8_lot_32 (by decide) rfl ?_
    refine ziconst (v := 1) dX8_lot_34 (by decide) ?_
    refine zistore dX8_lot_35 (by decide) rfl ?_
    have hpw := pow4 (p := (freeL (sT σ) (sN σ) 0).length / 2) (by omega)
    refine zlvs (lv' := [(0, .ref (zad x 0)), (1, .int w), (3, .int (nI ((freeL (sT σ) (sN σ) 0).length / 2))), (4, .int 0), (5, .int _), (6, .int (nI 1))]) ⟨rfl, rfl, rfl, rfl, rfl, rfl, trivial⟩ ?_
    exact zZ_mono (l_X8_lot hW rfl (by omega) _ (2 ^ ((freeL (sT σ) (sN σ) 0).length / 2) - 1) 1 S3 _ _ (by omega) (hR2.mind hf3) (fun q h => by rw [hf3.1 36 (by decide)]; exact hq2 q h) rfl) (fun q U h => by obtain ⟨v, g1, g2, g3⟩ := h; exact ⟨v, g1, qCf_ok he g2 g3⟩)
  · refine ziload_n dX8_lot_0 rfl ?_
    refine ziconst (v := 2) dX8_lot_1 (by decide) ?_
    refine zcSf  gk_X8_99 dX8_lot_2 c_X8_whatFault rfl (by decide) (Nat.le_of_ble_eq_true rfl) ?_ rfl
    refine zistore_n dX8_lot_5 (by decide) rfl ?_
    refine ziload_n dX8_lot_6 rfl ?_
    refine zif_eq (tgt := 16) dX8_lot_7 (by decide) (fun h => absurd h he) (fun _ => ?_)
    refine zaload_n dX8_lot_10 rfl ?_
    refine ziload_n dX8_lot_11 rfl ?_
    refine zcVf ob_X gk_X8_121 dX8_lot_12 (c_X8_refuseFarOff (okE.e (okE_whF _ _) he)) rfl (by decide) (Nat.le_of_ble_eq_true rfl) ?_ rfl
    exact zireturn dX8_lot_15 rfl rfl ⟨_, rfl, qCf_no rfl (okE.e (okE_whF _ _) he) hR⟩
set_option maxRecDepth 100000 in
set_option maxHeartbeats 4000000 in
theorem l_X9_pairsBy (hW : WS σ) {set : Int32} {S0 : zSt} (hR0 : RepM σ S0) (T9 : Tw) (c9 : Nat) : ∀ (k i c : Nat) (l : Option Nat) (S : zSt) (T : Tw), i + k = sN σ → isM S 2 (sN σ) T → WFT (sN σ) T → Own (sN σ) T (l.toList ++ freeL (sT σ) k i) → frM 2 S0 S → pairsL set (l.toList ++ freeL (sT σ) k i) c T = T9 → c + (l.toList ++ freeL (sT σ) k i).length / 2 = c9 → zZ x false mX9_pairsBy (fun q U => ∃ v : Int32, q = some (.int v) ∧ v = nI c9 ∧ isM U 2 (sN σ) T9 ∧ frM 2 S0 U) 19 [(0, .ref (zad x 0)), (1, .int set), (2, .int (nI c)), (3, .int (lastI l)), (4, .int (nI i))] [] S := by
  intro k
  induction k with
  | zero =>
    intro i c l S T hi hM2 hF hO hf hr hc
    have hM := isM_frM hR0.1 hf (by decide)
    have hn8 : sN σ ≤ 8 := hM.2.1
    have e1 : pairsL set (l.toList ++ freeL (sT σ) 0 i) c T = T := by cases l <;> rfl
    have e2 : (l.toList ++ freeL (sT σ) 0 i).length / 2 = 0 := by cases l <;> simp [freeL]
    rw [e1] at hr
    rw [e2] at hc
    subst hr
    subst hc
    refine ziload dX9_pairsBy_19 rfl ?_
    refine zaload_n dX9_pairsBy_21 rfl ?_
    refine gf_X9_9 rfl dX9_pairsBy_22 ?_
    refine ziconst (v := nI 0) dX9_pairsBy_25 (by decide) ?_
    refine ziald dX9_pairsBy_26 (mrk hr1.2) (mrl hr1.1 hr1.2) (by decide) (by decide) ?_
    rw [hM.1]
    refine zicmp_ge (tgt := 102) dX9_pairsBy_27 (by decide) (fun _ => ?_) (fun h => absurd (nI_le (by omega) (by omega)) h)
    refine ziload_n dX9_pairsBy_102 rfl ?_
    exact zireturn dX9_pairsBy_103 rfl rfl ⟨_, rfl, rfl, hM2, hf⟩
  | succ k ih =>
    intro i c l S T hi hM2 hF hO hf hr hc
    have hM := isM_frM hR0.1 hf (by decide)
    have hn8 : sN σ ≤ 8 := hM.2.1
    rw [freeL] at hO hr hc
    by_cases ho : (sT σ) 4 i = nI i
    · rw [if_pos ho] at hO hr hc
      cases l with
      | none =>
        refine ziload dX9_pairsBy_19 rfl ?_
        refine zaload_n dX9_pairsBy_21 rfl ?_
        refine gf_X9_9 rfl dX9_pairsBy_22 ?_
        refine ziconst (v := nI 0) dX9_pairsBy_25 (by decide) ?_
        refine ziald dX9_pairsBy_26 (mrk hr1.2) (mrl hr1.1 hr1.2) (by decide) (by decide) ?_
        rw [hM.1]
        refine zicmp_ge (tgt := 102) dX9_pairsBy_27 (by decide) (fun h => absurd h (nI_ge (by omega) (by omega))) (fun _ => ?_)
        refine zaload_n dX9_pairsBy_30 rfl ?_
        refine gf_X9_9 rfl dX9_pairsBy_31 ?_
        refine ziload dX9_pairsBy_34 rfl ?_
        refine zcSf  gk_X9_64 dX9_pairsBy_36 (c_X9_wearsOwn hr1 hM (by omega)) rfl (by decide) (Nat.le_of_ble_eq_true rfl) ?_ rfl
        refine zifb_ne (tgt := 45) dX9_pairsBy_39 (by decide) (fun _ => ?_) (fun h => absurd (h.symm.trans (decide_eq_true ho)) (by decide))
        refine ziload_n dX9_pairsBy_45 rfl ?_
        refine zif_ge (tgt := 55) dX9_pairsBy_46 (by decide) (fun h => absurd h (by decide)) (fun _ => ?_)
        refine ziload dX9_pairsBy_49 rfl ?_
        refine zistore_n dX9_pairsBy_51 (by decide) rfl ?_
        refine zgoto (tgt := 96) dX9_pairsBy_52 (by decide) ?_
        refine ziinc dX9_pairsBy_96 rfl rfl (by decide) rfl ?_
        refine zgoto (tgt := 19) dX9_pairsBy_99 (by decide) ?_
        refine zlvs (lv' := [(0, .ref (zad x 0)), (1, .int set), (2, .int (nI c)), (3, .int (nI i)), (4, .int (nI (i + 1)))]) ⟨rfl, rfl, rfl, rfl, by rw [nI_succ i]; rfl, trivial⟩ ?_
        exact ih (i + 1) c (some i) S T (by omega) hM2 hF hO hf hr hc
      | some a =>
        obtain ⟨o1, o2, ha, hb, hab, ca, cb⟩ := hO.hand
        have hr : pairsL set (freeL (sT σ) k (i + 1)) (c + 1) (if bitB set c = true then handT T i a else handT T a i) = T9 := hr
        have hc : (c + 1) + (freeL (sT σ) k (i + 1)).length / 2 = c9 := by simp at hc; omega
        cases hbit : bitB set c with
        | true =>
          rw [if_pos hbit] at hr
          refine ziload dX9_pairsBy_19 rfl ?_
          refine zaload_n dX9_pairsBy_21 rfl ?_
          refine gf_X9_9 rfl dX9_pairsBy_22 ?_
          refine ziconst (v := nI 0) dX9_pairsBy_25 (by decide) ?_
          refine ziald dX9_pairsBy_26 (mrk hr1.2) (mrl hr1.1 hr1.2) (by decide) (by decide) ?_
          rw [hM.1]
          refine zicmp_ge (tgt := 102) dX9_pairsBy_27 (by decide) (fun h => absurd h (nI_ge (by omega) (by omega))) (fun _ => ?_)
          refine zaload_n dX9_pairsBy_30 rfl ?_
          refine gf_X9_9 rfl dX9_pairsBy_31 ?_
          refine ziload dX9_pairsBy_34 rfl ?_
          refine zcSf  gk_X9_64 dX9_pairsBy_36 (c_X9_wearsOwn hr1 hM (by omega)) rfl (by decide) (Nat.le_of_ble_eq_true rfl) ?_ rfl
          refine zifb_ne (tgt := 45) dX9_pairsBy_39 (by decide) (fun _ => ?_) (fun h => absurd (h.symm.trans (decide_eq_true ho)) (by decide))
          refine ziload_n dX9_pairsBy_45 rfl ?_
          refine zif_ge (tgt := 55) dX9_pairsBy_46 (by decide) (fun _ => ?_) (fun h => absurd (nI_pos' (by omega)) h)
          refine zaload_n dX9_pairsBy_55 rfl ?_
          refine gf_X9_13 rfl dX9_pairsBy_56 ?_
          refine ziload_n dX9_pairsBy_59 rfl ?_
          refine ziload_n dX9_pairsBy_60 rfl ?_
          refine zcSf  gk_X9_56 dX9_pairsBy_61 (show zF x false mX9_has _ S (some (.int (bI (bitB set c)))) S from c_X9_has) rfl (by decide) (Nat.le_of_ble_eq_true rfl) ?_ rfl
          refine zifb_eq (tgt := 72) dX9_pairsBy_64 (by decide) (fun h => absurd (h.symm.trans hbit) (by decide)) (fun _ => ?_)
          refine ziload dX9_pairsBy_67 rfl ?_
          refine zgoto (tgt := 73) dX9_pairsBy_69 (by decide) ?_
          refine ziload_n dX9_pairsBy_73 rfl ?_
          refine ziload_n dX9_pairsBy_74 rfl ?_
          refine zcSf  gk_X9_56 dX9_pairsBy_75 (show zF x false mX9_has _ S (some (.int (bI (bitB set c)))) S from c_X9_has) rfl (by decide) (Nat.le_of_ble_eq_true rfl) ?_ rfl
          refine zifb_eq (tgt := 85) dX9_pairsBy_78 (by decide) (fun h => absurd (h.symm.trans hbit) (by decide)) (fun _ => ?_)
          refine ziload_n dX9_pairsBy_81 rfl ?_
          refine zgoto (tgt := 87) dX9_pairsBy_82 (by decide) ?_
          refine zcSv  gk_X9_122 dX9_pairsBy_87 (c_X9_lendsIn hr2 hM2 hb ha) rfl (by decide) (Nat.le_of_ble_eq_true rfl) ?_ rfl
          have hM3 := isM_hand (p := i) (q := a) hM2
          have hf3 := frM_hand (p := i) (q := a) hf
          refine zbipush (v := -9) dX9_pairsBy_90 (by decide) ?_
          refine zistore_n dX9_pairsBy_92 (by decide) rfl ?_
          refine ziinc dX9_pairsBy_93 rfl rfl (by decide) rfl ?_
          refine ziinc dX9_pairsBy_96 rfl rfl (by decide) rfl ?_
          refine zgoto (tgt := 19) dX9_pairsBy_99 (by decide) ?_
          refine zlvs (lv' := [(0, .ref (zad x 0)), (1, .int set), (2, .int (nI (c + 1))), (3, .int (-9)), (4, .int (nI (i + 1)))]) ⟨rfl, rfl, by rw [nI_succ c]; rfl, rfl, by rw [nI_succ i]; rfl, trivial⟩ ?_
          exact ih (i + 1) (c + 1) none _ _ (by omega) hM3 (hF.hand hb ha (fun z => hab z.symm) cb ca) o2 hf3 hr hc
        | false =>
          rw [if_neg (by rw [hbit]; decide)] at hr
          refine ziload dX9_pairsBy_19 rfl ?_
          refine zaload_n dX9_pairsBy_21 rfl ?_
          refine gf_X9_9 rfl dX9_pairsBy_22 ?_
          refine ziconst (v := nI 0) dX9_pairsBy_25 (by decide) ?_
          refine ziald dX9_pairsBy_26 (mrk hr1.2) (mrl hr1.1 hr1.2) (by decide) (by decide) ?_
          rw [hM.1]
          refine zicmp_ge (tgt := 102) dX9_pairsBy_27 (by decide) (fun h => absurd h (nI_ge (by omega) (by omega))) (fun _ => ?_)
          refine zaload_n dX9_pairsBy_30 rfl ?_
          refine gf_X9_9 rfl dX9_pairsBy_31 ?_
          refine ziload dX9_pairsBy_34 rfl ?_
          refine zcSf  gk_X9_64 dX9_pairsBy_36 (c_X9_wearsOwn hr1 hM (by omega)) rfl (by decide) (Nat.le_of_ble_eq_true rfl) ?_ rfl
          refine zifb_ne (tgt := 45) dX9_pairsBy_39 (by decide) (fun _ => ?_) (fun h => absurd (h.symm.trans (decide_eq_true ho)) (by decide))
          refine ziload_n dX9_pairsBy_45 rfl ?_
          refine zif_ge (tgt := 55) dX9_pairsBy_46 (by decide) (fun _ => ?_) (fun h => absurd (nI_pos' (by omega)) h)
          refine zaload_n dX9_pairsBy_55 rfl ?_
          refine gf_X9_13 rfl dX9_pairsBy_56 ?_
          refine ziload_n dX9_pairsBy_59 rfl ?_
          refine ziload_n dX9_pairsBy_60 rfl ?_
          refine zcSf  gk_X9_56 dX9_pairsBy_61 (show zF x false mX9_has _ S (some (.int (bI (bitB set c)))) S from c_X9_has) rfl (by decide) (Nat.le_of_ble_eq_true rfl) ?_ rfl
          refine zifb_eq (tgt := 72) dX9_pairsBy_64 (by decide) (fun _ => ?_) (fun h => absurd (h.symm.trans hbit) (by decide))
          refine ziload_n dX9_pairsBy_72 rfl ?_
          refine ziload_n dX9_pairsBy_73 rfl ?_
          refine ziload_n dX9_pairsBy_74 rfl ?_
          refine zcSf  gk_X9_56 dX9_pairsBy_75 (show zF x false mX9_has _ S (some (.int (bI (bitB set c)))) S from c_X9_has) rfl (by decide) (Nat.le_of_ble_eq_true rfl) ?_ rfl
          refine zifb_eq (tgt := 85) dX9_pairsBy_78 (by decide) (fun _ => ?_) (fun h => absurd (h.symm.trans hbit) (by decide))
          refine ziload dX9_pairsBy_85 rfl ?_
          refine zcSv  gk_X9_122 dX9_pairsBy_87 (c_X9_lendsIn hr2 hM2 ha hb) rfl (by decide) (Nat.le_of_ble_eq_true rfl) ?_ rfl
          have hM3 := isM_hand (p := a) (q := i) hM2
          have hf3 := frM_hand (p := a) (q := i) hf
          refine zbipush (v := -9) dX9_pairsBy_90 (by decide) ?_
          refine zistore_n dX9_pairsBy_92 (by decide) rfl ?_
          refine ziinc dX9_pairsBy_93 rfl rfl (by decide) rfl ?_
          refine ziinc dX9_pairsBy_96 rfl rfl (by decide) rfl ?_
          refine zgoto (tgt := 19) dX9_pairsBy_99 (by decide) ?_
          refine zlvs (lv' := [(0, .ref (zad x 0)), (1, .int set), (2, .int (nI (c + 1))), (3, .int (-9)), (4, .int (nI (i + 1)))]) ⟨rfl, rfl, by rw [nI_succ c]; rfl, rfl, by rw [nI_succ i]; rfl, trivial⟩ ?_
          exact ih (i + 1) (c + 1) none _ _ (by omega) hM3 (hF.hand ha hb hab ca cb) o1 hf3 hr hc
    · rw [if_neg ho] at hO hr hc
      refine ziload dX9_pairsBy_19 rfl ?_
      refine zaload_n dX9_pairsBy_21 rfl ?_
      refine gf_X9_9 rfl dX9_pairsBy_22 ?_
      refine ziconst (v := nI 0) dX9_pairsBy_25 (by decide) ?_
      refine ziald dX9_pairsBy_26 (mrk hr1.2) (mrl hr1.1 hr1.2) (by decide) (by decide) ?_
      rw [hM.1]
      refine zicmp_ge (tgt := 102) dX9_pairsBy_27 (by decide) (fun h => absurd h (nI_ge (by omega) (by omega))) (fun _ => ?_)
      refine zaload_n dX9_pairsBy_30 rfl ?_
      refine gf_X9_9 rfl dX9_pairsBy_31 ?_
      refine ziload dX9_pairsBy_34 rfl ?_
      refine zcSf  gk_X9_64 dX9_pairsBy_36 (c_X9_wearsOwn hr1 hM (by omega)) rfl (by decide) (Nat.le_of_ble_eq_true rfl) ?_ rfl
      refine zifb_ne (tgt := 45) dX9_pairsBy_39 (by decide) (fun h => absurd (h.symm.trans (decide_eq_false ho)) (by decide)) (fun _ => ?_)
      refine zgoto (tgt := 96) dX9_pairsBy_42 (by decide) ?_
      refine ziinc dX9_pairsBy_96 rfl rfl (by decide) rfl ?_
      refine zgoto (tgt := 19) dX9_pairsBy_99 (by decide) ?_
      refine zlvs (lv' := [(0, .ref (zad x 0)), (1, .int set), (2, .int (nI c)), (3, .int (lastI l)), (4, .int (nI (i + 1)))]) ⟨rfl, rfl, rfl, rfl, by rw [nI_succ i]; rfl, trivial⟩ ?_
      exact ih (i + 1) c l S T (by omega) hM2 hF hO hf hr hc
set_option maxRecDepth 100000 in
set_option maxHeartbeats 4000000 in
theorem c_X9_pairsBy (hR : RepM σ S) (hW : WS σ) {set : Int32} : zR x false mX9_pairsBy [.ref (zad x 0), .int set] S (fun r U => r = nI ((freeL (sT σ) (sN σ) 0).length / 2) ∧ isM U 2 (sN σ) (pairsL set (freeL (sT σ) (sN σ) 0) 0 (sT σ)) ∧ frM 2 S U) := by
  have hM := hR.1
  refine zC_of (by decide +kernel) (Nat.le_of_ble_eq_true rfl) ?_
  refine zaload_n dX9_pairsBy_0 rfl ?_
  refine gf_X9_9 rfl dX9_pairsBy_1 ?_
  refine zaload_n dX9_pairsBy_4 rfl ?_
  refine gf_X9_13 rfl dX9_pairsBy_5 ?_
  refine zcSn  gk_X9_133 dX9_pairsBy_8 (c_X9_copies hr1 hr2 (by decide) hM) rfl (by decide) (Nat.le_of_ble_eq_true rfl) (fun S2 hp2 => ?_) rfl
  obtain ⟨hM2, -, hf2⟩ := hp2
  refine ziconst (v := 0) dX9_pairsBy_11 (by decide) ?_
  refine zistore_n dX9_pairsBy_12 (by decide) rfl ?_
  refine zbipush (v := -9) dX9_pairsBy_13 (by decide) ?_
  refine zistore_n dX9_pairsBy_15 (by decide) rfl ?_
  refine ziconst (v := 0) dX9_pairsBy_16 (by decide) ?_
  refine zistore dX9_pairsBy_17 (by decide) rfl ?_
  refine zlvs (lv' := [(0, .ref (zad x 0)), (1, .int set), (2, .int (nI 0)), (3, .int (-9)), (4, .int (nI 0))]) ⟨rfl, rfl, rfl, rfl, rfl, trivial⟩ ?_
  exact l_X9_pairsBy hW hR _ _ (sN σ) 0 0 none S2 (sT σ) (by omega) hM2 hW.1 Own.free hf2 rfl (by rw [Nat.zero_add]; rfl)
set_option maxRecDepth 100000 in
set_option maxHeartbeats 4000000 in
theorem l_X9_lot (hW : WS σ) {w : Int32} {pr : Nat} (hpr : (freeL (sT σ) (sN σ) 0).length / 2 = pr) (hp4 : pr ≤ 4) (r : Int32) : ∀ (k i : Nat) (S : zSt) (b m : Int32), i + k = 2 ^ pr → RepM σ S → (if w = 0 then (bmF (fun s => lotV (sN σ) (sT σ) (nI s)) k i b m).1 else (bmF (fun s => lotV (sN σ) (sT σ) (nI s)) k i b m).2) = r → zZ x false mX9_lot (fun q U => ∃ v : Int32, q = some (.int v) ∧ v = r ∧ RepM σ U) 31 [(0, .ref (zad x 0)), (1, .int w), (2, .int (nI pr)), (3, .int b), (4, .int m), (5, .int (nI i))] [] S := by
  have hpw := pow4 hp4
  intro k
  induction k with
  | zero =>
    intro i S b m hi hR hr
    by_cases hw : w = 0
    · refine ziload dX9_lot_31 rfl ?_
      refine ziconst (v := 1) dX9_lot_33 (by decide) ?_
      refine ziload_n dX9_lot_34 rfl ?_
      refine zishl dX9_lot_35 ?_
      rw [shl_nI hp4]
      refine zicmp_ge (tgt := 80) dX9_lot_36 (by decide) (fun _ => ?_) (fun h => absurd (nI_le (a := 2 ^ pr) (by omega) (by omega)) h)
      refine ziload_n dX9_lot_80 rfl ?_
      refine zif_ne (tgt := 88) dX9_lot_81 (by decide) (fun h => absurd hw h) (fun _ => ?_)
      refine ziload_n dX9_lot_84 rfl ?_
      refine zgoto (tgt := 90) dX9_lot_85 (by decide) ?_
      exact zireturn dX9_lot_90 rfl rfl ⟨_, rfl, by rw [← hr, if_pos hw]; rfl, hR⟩
    · refine ziload dX9_lot_31 rfl ?_
      refine ziconst (v := 1) dX9_lot_33 (by decide) ?_
      refine ziload_n dX9_lot_34 rfl ?_
      refine zishl dX9_lot_35 ?_
      rw [shl_nI hp4]
      refine zicmp_ge (tgt := 80) dX9_lot_36 (by decide) (fun _ => ?_) (fun h => absurd (nI_le (a := 2 ^ pr) (by omega) (by omega)) h)
      refine ziload_n dX9_lot_80 rfl ?_
      refine zif_ne (tgt := 88) dX9_lot_81 (by decide) (fun _ => ?_) (fun h => absurd h hw)
      refine ziload dX9_lot_88 rfl ?_
      exact zireturn dX9_lot_90 rfl rfl ⟨_, rfl, by rw [← hr, if_neg hw]; rfl, hR⟩
  | succ k ih =>
    intro i S b m hi hR hr
    rw [bmF] at hr
    refine ziload dX9_lot_31 rfl ?_
    refine ziconst (v := 1) dX9_lot_33 (by decide) ?_
    refine ziload_n dX9_lot_34 rfl ?_
    refine zishl dX9_lot_35 ?_
    rw [shl_nI hp4]
    refine zicmp_ge (tgt := 80) dX9_lot_36 (by decide) (fun h => absurd h (nI_ge (b := 2 ^ pr) (by omega) (by omega))) (fun _ => ?_)
    refine zaload_n dX9_lot_39 rfl ?_
    refine ziload dX9_lot_40 rfl ?_
    refine zcVr ob_Mo gk_X9_175 dX9_lot_42 (c_X9_pairsBy hR hW) rfl (by decide) (Nat.le_of_ble_eq_true rfl) (fun r3 S3 hp3 => ?_) rfl
    obtain ⟨rfl, hM3, hf3⟩ := hp3
    refine zistore dX9_lot_45 (by decide) rfl ?_
    refine zaload_n dX9_lot_47 rfl ?_
    refine zbipush (v := -9) dX9_lot_48 (by decide) ?_
    refine zbipush (v := nI 12) dX9_lot_50 (by decide) ?_
    refine zcVr ob_Mo gk_X9_163 dX9_lot_52 (show zR x false mX9_worthBehind _ S3 (fun r U => r = lotV (sN σ) (sT σ) (nI i) ∧ frM 2 S3 U) from c_X9_worthBehindA hM3 (WFT.pairs _ _ _ _ (Nat.le_refl _) hW.1 Own.free).2.1 (K := 12) (by decide)) rfl (by decide) (Nat.le_of_ble_eq_true rfl) (fun r4 S4 hp4 => ?_) rfl
    obtain ⟨rfl, hf4⟩ := hp4
    refine zistore dX9_lot_55 (by decide) rfl ?_
    refine ziload dX9_lot_57 rfl ?_
    refine ziload dX9_lot_59 rfl ?_
    refine zicmp_gt (tgt := 67) dX9_lot_61 (by decide) (fun h61 => ?_) (fun h61 => ?_)
    · refine ziload dX9_lot_67 rfl ?_
      refine zistore_n dX9_lot_69 (by decide) rfl ?_
      refine ziload dX9_lot_70 rfl ?_
      refine zistore dX9_lot_72 (by decide) rfl ?_
      refine ziinc dX9_lot_74 rfl rfl (by decide) rfl ?_
      refine zgoto (tgt := 31) dX9_lot_77 (by decide) ?_
      refine zlvs (lv' := [(0, .ref (zad x 0)), (1, .int w), (2, .int (nI pr)), (3, .int _), (4, .int _), (5, .int (nI (i + 1)))]) ⟨rfl, rfl, rfl, rfl, rfl, by rw [nI_succ i]; rfl, trivial⟩ ?_
      first
      | exact ih (i + 1) S4 _ _ (by omega) (hR.mind (hf3.trans hf4) (Or.inl rfl)) (by rw [if_pos h61] at hr; exact hr)
      | exact ih (i + 1) S4 _ _ (by omega) (hR.mind (hf3.trans hf4) (Or.inl rfl)) (by rw [if_neg h61] at hr; exact hr)
    · refine zgoto (tgt := 74) dX9_lot_64 (by decide) ?_
      refine ziinc dX9_lot_74 rfl rfl (by decide) rfl ?_
      refine zgoto (tgt := 31) dX9_lot_77 (by decide) ?_
      refine zlvs (lv' := [(0, .ref (zad x 0)), (1, .int w), (2, .int (nI pr)), (3, .int _), (4, .int _), (5, .int (nI (i + 1)))]) ⟨rfl, rfl, rfl, rfl, rfl, by rw [nI_succ i]; rfl, trivial⟩ ?_
      first
      | exact ih (i + 1) S4 _ _ (by omega) (hR.mind (hf3.trans hf4) (Or.inl rfl)) (by rw [if_pos h61] at hr; exact hr)
      | exact ih (i + 1) S4 _ _ (by omega) (hR.mind (hf3.trans hf4) (Or.inl rfl)) (by rw [if_neg h61] at hr; exact hr)
set_option maxRecDepth 100000 in
set_option maxHeartbeats 4000000 in
theorem c_X9_lot (hR : RepM σ S) (hW : WS σ) (w : Int32) : zR x false mX9_lot [.ref (zad x 0), .int w] S (qMf (whF w 2) (if w = 0 then (lotA (sN σ) (sT σ)).1 else (lotA (sN σ) (sT σ)).2) σ (σ)) := by
  have hM := hR.1
  have hn8 : sN σ ≤ 8 := hM.2.1
  refine zC_of (by decide +kernel) (Nat.le_of_ble_eq_true rfl) ?_
  have hlen := freeL_len (sT σ) (sN σ) 0
  by_cases he : whF w 2 = 0
  · refine ziload_n dX9_lot_0 rfl ?_
    refine ziconst (v := 0) dX9_lot_1 (by decide) ?_
    refine ziconst (v := 1) dX9_lot_2 (by decide) ?_
    refine zcSf  gk_X9_44 dX9_lot_3 c_isIn_1 rfl (by decide) (Nat.le_of_ble_eq_true rfl) ?_ rfl
    refine zifb_ne (tgt := 16) dX9_lot_6 (by decide) (fun _ => ?_) (fun h => absurd (h.symm.trans (decide_eq_true he)) (by decide))
    refine zaload_n dX9_lot_16 rfl ?_
    refine ziconst (v := 0) dX9_lot_17 (by decide) ?_
    refine zcVr ob_Mo gk_X9_175 dX9_lot_18 (c_X9_pairsBy hR hW) rfl (by decide) (Nat.le_of_ble_eq_true rfl) (fun r2 S2 hp2 => ?_) rfl
    obtain ⟨rfl, -, hf2⟩ := hp2
    refine zistore_n dX9_lot_21 (by decide) rfl ?_
    refine ziconst (v := 0) dX9_lot_22 (by decide) ?_
    refine zistore_n dX9_lot_23 (by decide) rfl ?_
    refine zldc (v := -1000000000) dX9_lot_24 (List.mem_of_getElem? (i := 800) (by decide +kernel) : Cond.constant RX9 178 (-1000000000) ∈ wsL_law) ?_
    refine zistore dX9_lot_26 (by decide) rfl ?_
    refine ziconst (v := 0) dX9_lot_28 (by decide) ?_
    refine zistore dX9_lot_29 (by decide) rfl ?_
    have hpw := pow4 (p := (freeL (sT σ) (sN σ) 0).length / 2) (by omega)
    have key : bmF (fun s => lotV (sN σ) (sT σ) (nI s)) (2 ^ ((freeL (sT σ) (sN σ) 0).length / 2)) 0 0 (-1000000000) = lotA (sN σ) (sT σ) := by
      have hl : (-1000000000 : Int32) < lotV (sN σ) (sT σ) (nI 0) := allW_low (WFT.months 12 _ (WFT.pairs _ _ _ _ (Nat.le_refl _) hW.1 Own.free))
      unfold lotA
      obtain ⟨P, hP⟩ : ∃ P, 2 ^ ((freeL (sT σ) (sN σ) 0).length / 2) = P + 1 := ⟨2 ^ ((freeL (sT σ) (sN σ) 0).length / 2) - 1, by omega⟩
      rw [hP, bmF, if_pos hl]
      rfl
    refine zlvs (lv' := [(0, .ref (zad x 0)), (1, .int w), (2, .int (nI ((freeL (sT σ) (sN σ) 0).length / 2))), (3, .int 0), (4, .int (-1000000000)), (5, .int (nI 0))]) ⟨rfl, rfl, rfl, rfl, rfl, rfl, trivial⟩ ?_
    exact zZ_mono (l_X9_lot hW rfl (by omega) _ (2 ^ ((freeL (sT σ) (sN σ) 0).length / 2)) 0 S2 _ _ (by omega) (hR.mind hf2 (Or.inl rfl)) rfl) (fun q U h => by obtain ⟨v, g1, g2, g3⟩ := h; exact ⟨v, g1, qMf_ok he (by rw [g2, key]) g3⟩)
  · refine ziload_n dX9_lot_0 rfl ?_
    refine ziconst (v := 0) dX9_lot_1 (by decide) ?_
    refine ziconst (v := 1) dX9_lot_2 (by decide) ?_
    refine zcSf  gk_X9_44 dX9_lot_3 c_isIn_1 rfl (by decide) (Nat.le_of_ble_eq_true rfl) ?_ rfl
    refine zifb_ne (tgt := 16) dX9_lot_6 (by decide) (fun h => absurd (h.symm.trans (decide_eq_false he)) (by decide)) (fun _ => ?_)
    refine zaload_n dX9_lot_9 rfl ?_
    refine zbipush (v := -2) dX9_lot_10 (by decide) ?_
    refine zcVf ob_Mo gk_X9_143 dX9_lot_12 (c_X9_noFar isE_2) rfl (by decide) (Nat.le_of_ble_eq_true rfl) ?_ rfl
    exact zireturn dX9_lot_15 rfl rfl ⟨_, rfl, qMf_no (whF_2 he) isE_2 hR⟩
end LOT
