/-! fractions; mean -/
section ODDS1
variable {x : zCx} {S : zSt} {σ σ' : Sig}
def qCl (e : Int32) (A : Int64) (σ σ' : Sig) : Int64 → zSt → Prop := fun r S' => r = (if e = 0 then A else 4000000000000000000 - e.toInt64) ∧ RepC (if e = 0 then σ' else rfS σ e) S'
def qMl (e : Int32) (A : Int64) (σ σ' : Sig) : Int64 → zSt → Prop := fun r S' => r = (if e = 0 then A else 4000000000000000000 - e.toInt64) ∧ RepM (if e = 0 then σ' else rfS σ e) S'
theorem qCl_ok {e : Int32} {A r : Int64} {S' : zSt} (he : e = 0) (hA : r = A) (h : RepC σ' S') : qCl e A σ σ' r S' := by unfold qCl; rw [if_pos he, if_pos he]; exact ⟨hA, h⟩
theorem qMl_ok {e : Int32} {A r : Int64} {S' : zSt} (he : e = 0) (hA : r = A) (h : RepM σ' S') : qMl e A σ σ' r S' := by unfold qMl; rw [if_pos he, if_pos he]; exact ⟨hA, h⟩
theorem qCl_no {e c : Int32} {A : Int64} (hc : e = c) (hE : isE c) (h : RepC σ S) : qCl e A σ σ' (4000000000000000000 - c.toInt64) (u2 S.1 35 (-c).toNatClampNeg (S.1 35 (-c).toNatClampNeg + 1), S.2) := by
  subst hc; unfold qCl; rw [if_neg hE.ne, if_neg hE.ne]; exact ⟨rfl, h.ref hE⟩
theorem qMl_no {e c : Int32} {A : Int64} (hc : e = c) (hE : isE c) (h : RepM σ S) : qMl e A σ σ' (4000000000000000000 - c.toInt64) (u2 S.1 8 (-c).toNatClampNeg (S.1 8 (-c).toNatClampNeg + 1), S.2) := by
  subst hc; unfold qMl; rw [if_neg hE.ne, if_neg hE.ne]; exact ⟨rfl, h.ref hE⟩
theorem lcz0 : lg_cmp (lN 0) 0 = 0 := (lg_cmp_eq _ _).mpr rfl
theorem lNne {y : Nat} (h0 : 0 < y) (hy : y < 2 ^ 63) : ¬ lN y = 0 := fun z => by have := (pk_lEQ hy (b := 0) (by decide)).mp z; omega
theorem lczn {y : Nat} (h0 : 0 < y) (hy : y < 2 ^ 63) : ¬ lg_cmp (lN y) 0 = 0 := fun z => lNne h0 hy ((lg_cmp_eq _ _).mp z)
theorem gcd_st (a c : Nat) : Nat.gcd c (a % c) = Nat.gcd a c := by rw [Nat.gcd_comm a c, Nat.gcd_rec c a, Nat.gcd_comm]
def frV (a c p : Nat) : Nat := (if p = 0 then a else c) / Nat.gcd a c
theorem lN_m1 (a : Nat) : lN a * 1 = lN a := by rw [show (1 : Int64) = lN 1 from rfl, lN_mul, Nat.mul_one]

set_option maxRecDepth 100000 in
set_option maxHeartbeats 4000000 in
theorem l_X9_gcd {a c : Int64} : ∀ (m u v : Nat), v ≤ m → u < 2 ^ 63 → v < 2 ^ 63 → zZ x false mX9_gcd (fun q T => q = some (.long (lN (Nat.gcd u v))) ∧ T = S) 6 [(0, .long a), (2, .long c), (4, .long (lN u)), (6, .long (lN v))] [] S := by
  intro m
  induction m with
  | zero =>
    intro u v hv h1 h2
    have : v = 0 := by omega
    subst this
    refine zlload dX9_gcd_6 rfl ?_
    refine zlconst (v := 0) dX9_gcd_8 (by decide) ?_
    refine zlcmp dX9_gcd_9 ?_
    refine zif_eq (tgt := 31) dX9_gcd_10 (by decide) (fun _ => ?_) (fun h => absurd lcz0 h)
    refine zlload dX9_gcd_31 rfl ?_
    exact zlreturn dX9_gcd_33 rfl ⟨by rw [Nat.gcd_zero_right], rfl⟩
  | succ m ih =>
    intro u v hv h1 h2
    by_cases hz : v = 0
    · subst hz
      refine zlload dX9_gcd_6 rfl ?_
      refine zlconst (v := 0) dX9_gcd_8 (by decide) ?_
      refine zlcmp dX9_gcd_9 ?_
      refine zif_eq (tgt := 31) dX9_gcd_10 (by decide) (fun _ => ?_) (fun h => absurd lcz0 h)
      refine zlload dX9_gcd_31 rfl ?_
      exact zlreturn dX9_gcd_33 rfl ⟨by rw [Nat.gcd_zero_right], rfl⟩
    · have hlt : u % v < v := Nat.mod_lt _ (by omega)
      rw [← gcd_st u v]
      refine zlload dX9_gcd_6 rfl ?_
      refine zlconst (v := 0) dX9_gcd_8 (by decide) ?_
      refine zlcmp dX9_gcd_9 ?_
      refine zif_eq (tgt := 31) dX9_gcd_10 (by decide) (fun h => absurd h (lczn (by omega) h2)) (fun _ => ?_)
      refine zlload dX9_gcd_13 rfl ?_
      refine zlload dX9_gcd_15 rfl ?_
      refine zlrem dX9_gcd_17 (lNne (by omega) h2) ?_
      rw [pk_lRem h1 (by omega) h2]
      refine zlstore dX9_gcd_18 (by decide) rfl rfl ?_
      refine zlload dX9_gcd_20 rfl ?_
      refine zlstore dX9_gcd_22 (by decide) rfl rfl ?_
      refine zlload dX9_gcd_24 rfl ?_
      refine zlstore dX9_gcd_26 (by decide) rfl rfl ?_
      refine zgoto (tgt := 6) dX9_gcd_28 (by decide) ?_
      refine zlvs (lv' := [(0, .long a), (2, .long c), (4, .long (lN v)), (6, .long (lN (u % v)))]) ⟨rfl, rfl, rfl, rfl, trivial⟩ ?_
      exact ih v (u % v) (by omega) h2 (by omega)
set_option maxRecDepth 100000 in
set_option maxHeartbeats 4000000 in
theorem c_X9_gcd {u v : Nat} (h1 : u < 2 ^ 63) (h2 : v < 2 ^ 63) : zF x false mX9_gcd [.long (lN u), .long (lN v)] S (some (.long (lN (Nat.gcd u v)))) S := by
  refine zC_of (by decide +kernel) (Nat.le_of_ble_eq_true rfl) ?_
  refine zlload_n dX9_gcd_0 rfl ?_
  refine zlstore dX9_gcd_1 (by decide) rfl rfl ?_
  refine zlload_n dX9_gcd_3 rfl ?_
  refine zlstore dX9_gcd_4 (by decide) rfl rfl ?_
  refine zlvs (lv' := [(0, .long (lN u)), (2, .long (lN v)), (4, .long (lN u)), (6, .long (lN v))]) ⟨rfl, rfl, rfl, rfl, trivial⟩ ?_
  exact l_X9_gcd v u v (Nat.le_refl _) h1 h2
set_option maxRecDepth 100000 in
set_option maxHeartbeats 4000000 in
theorem c_X9_partOf0 {v p : Nat} (hp : p < 2) : zF x false mX9_partOf [.long (lN 0), .long (lN v), .int (nI p)] S (some (.long (lN p))) S := by
  refine zC_of (by decide +kernel) (Nat.le_of_ble_eq_true rfl) ?_
  refine zlload_n dX9_partOf_0 rfl ?_
  refine zlconst (v := 0) dX9_partOf_1 (by decide) ?_
  refine zlcmp dX9_partOf_2 ?_
  refine zif_ne (tgt := 10) dX9_partOf_3 (by decide) (fun h => absurd lcz0 h) (fun _ => ?_)
  refine ziload dX9_partOf_6 rfl ?_
  refine zi2l dX9_partOf_8 ?_
  exact zlreturn dX9_partOf_9 rfl ⟨by rw [nI_l (by omega)], rfl⟩
set_option maxRecDepth 100000 in
set_option maxHeartbeats 4000000 in
theorem c_X9_partOf {u v p : Nat} (hp : p < 2) (h1 : u < 2 ^ 63) (h2 : v < 2 ^ 63) (hv : 0 < v) : zF x false mX9_partOf [.long (lN u), .long (lN v), .int (nI p)] S (some (.long (lN (frV u v p)))) S := by
  by_cases hu : u = 0
  · subst hu
    have e : frV 0 v p = p := by
      unfold frV
      rw [Nat.gcd_zero_left]
      split
      · rename_i h; rw [h, Nat.zero_div]
      · rw [Nat.div_self hv]; omega
    rw [e]
    exact c_X9_partOf0 hp
  · have hg : 0 < Nat.gcd u v := Nat.gcd_pos_of_pos_right u hv
    have hg2 : Nat.gcd u v < 2 ^ 63 := Nat.lt_of_le_of_lt (Nat.gcd_le_right u hv) h2
    refine zC_of (by decide +kernel) (Nat.le_of_ble_eq_true rfl) ?_
    by_cases hp0 : p = 0
    · subst hp0
      refine zlload_n dX9_partOf_0 rfl ?_
      refine zlconst (v := 0) dX9_partOf_1 (by decide) ?_
      refine zlcmp dX9_partOf_2 ?_
      refine zif_ne (tgt := 10) dX9_partOf_3 (by decide) (fun _ => ?_) (fun h => absurd h (lczn (by omega) h1))
      refine ziload dX9_partOf_10 rfl ?_
      refine zif_ne (tgt := 19) dX9_partOf_12 (by decide) (fun h => absurd rfl h) (fun _ => ?_)
      refine zlload_n dX9_partOf_15 rfl ?_
      refine zgoto (tgt := 20) dX9_partOf_16 (by decide) ?_
      refine zlload_n dX9_partOf_20 rfl ?_
      refine zlload_n dX9_partOf_21 rfl ?_
      refine zcSf  gk_X9_196 dX9_partOf_22 (c_X9_gcd h1 h2) rfl (by decide) (Nat.le_of_ble_eq_true rfl) ?_ rfl
      refine zldiv dX9_partOf_25 (lNne hg hg2) ?_
      exact zlreturn dX9_partOf_26 rfl ⟨by rw [pk_lDiv h1 hg hg2]; rfl, rfl⟩
    · refine zlload_n dX9_partOf_0 rfl ?_
      refine zlconst (v := 0) dX9_partOf_1 (by decide) ?_
      refine zlcmp dX9_partOf_2 ?_
      refine zif_ne (tgt := 10) dX9_partOf_3 (by decide) (fun _ => ?_) (fun h => absurd h (lczn (by omega) h1))
      refine ziload dX9_partOf_10 rfl ?_
      refine zif_ne (tgt := 19) dX9_partOf_12 (by decide) (fun _ => ?_) (fun h => absurd h (nI_ne0 (by omega) (by omega)))
      refine zlload_n dX9_partOf_19 rfl ?_
      refine zlload_n dX9_partOf_20 rfl ?_
      refine zlload_n dX9_partOf_21 rfl ?_
      refine zcSf  gk_X9_196 dX9_partOf_22 (c_X9_gcd h1 h2) rfl (by decide) (Nat.le_of_ble_eq_true rfl) ?_ rfl
      refine zldiv dX9_partOf_25 (lNne hg hg2) ?_
      exact zlreturn dX9_partOf_26 rfl ⟨by rw [pk_lDiv h2 hg hg2]; unfold frV; rw [if_neg hp0], rfl⟩
set_option maxRecDepth 100000 in
set_option maxHeartbeats 4000000 in
theorem l_X8_greatestShared {a c : Int64} : ∀ (m u v s : Nat), v < 2 ^ m → s + 2 * m < 100 → u < 2 ^ 63 → v < 2 ^ 63 → zZ x true mX8_greatestShared (fun q T => q = some (.long (lN (Nat.gcd u v))) ∧ T = S) 9 [(0, .long a), (2, .long c), (4, .long (lN u)), (6, .long (lN v)), (8, .int (nI s))] [] S := by
  intro m
  induction m with
  | zero =>
    intro u v s hv hs h1 h2
    have : v = 0 := by simp at hv; exact hv
    subst this
    refine ziload dX8_greatestShared_9 rfl ?_
    refine zbipush (v := nI 100) dX8_greatestShared_11 (by decide) ?_
    refine zicmp_ge (tgt := 44) dX8_greatestShared_13 (by decide) (fun h => absurd h (nI_ge (b := 100) (by omega) (by decide))) (fun _ => ?_)
    refine zlload dX8_greatestShared_16 rfl ?_
    refine zlconst (v := 0) dX8_greatestShared_18 (by decide) ?_
    refine zlcmp dX8_greatestShared_19 ?_
    refine zif_eq (tgt := 44) dX8_greatestShared_20 (by decide) (fun _ => ?_) (fun h => absurd lcz0 h)
    refine zlload dX8_greatestShared_44 rfl ?_
    exact zlreturn dX8_greatestShared_46 rfl ⟨by rw [Nat.gcd_zero_right], rfl⟩
  | succ m ih =>
    intro u v s hv hs h1 h2
    by_cases hz : v = 0
    · subst hz
      refine ziload dX8_greatestShared_9 rfl ?_
      refine zbipush (v := nI 100) dX8_greatestShared_11 (by decide) ?_
      refine zicmp_ge (tgt := 44) dX8_greatestShared_13 (by decide) (fun h => absurd h (nI_ge (b := 100) (by omega) (by decide))) (fun _ => ?_)
      refine zlload dX8_greatestShared_16 rfl ?_
      refine zlconst (v := 0) dX8_greatestShared_18 (by decide) ?_
      refine zlcmp dX8_greatestShared_19 ?_
      refine zif_eq (tgt := 44) dX8_greatestShared_20 (by decide) (fun _ => ?_) (fun h => absurd lcz0 h)
      refine zlload dX8_greatestShared_44 rfl ?_
      exact zlreturn dX8_greatestShared_46 rfl ⟨by rw [Nat.gcd_zero_right], rfl⟩
    · have hlt : u % v < v := Nat.mod_lt _ (by omega)
      rw [← gcd_st u v]
      refine ziload dX8_greatestShared_9 rfl ?_
      refine zbipush (v := nI 100) dX8_greatestShared_11 (by decide) ?_
      refine zicmp_ge (tgt := 44) dX8_greatestShared_13 (by decide) (fun h => absurd h (nI_ge (b := 100) (by omega) (by decide))) (fun _ => ?_)
      refine zlload dX8_greatestShared_16 rfl ?_
      refine zlconst (v := 0) dX8_greatestShared_18 (by decide) ?_
      refine zlcmp dX8_greatestShared_19 ?_
      refine zif_eq (tgt := 44) dX8_greatestShared_20 (by decide) (fun h => absurd h (lczn (by omega) h2)) (fun _ => ?_)
      refine zlload dX8_greatestShared_23 rfl ?_
      refine zlload dX8_greatestShared_25 rfl ?_
      refine zlrem dX8_greatestShared_27 (lNne (by omega) h2) ?_
      rw [pk_lRem h1 (by omega) h2]
      refine zlstore dX8_greatestShared_28 (by decide) rfl rfl ?_
      refine zlload dX8_greatestShared_30 rfl ?_
      refine zlstore dX8_greatestShared_32 (by decide) rfl rfl ?_
      refine zlload dX8_greatestShared_34 rfl ?_
      refine zlstore dX8_greatestShared_36 (by decide) rfl rfl ?_
      refine ziinc dX8_greatestShared_38 rfl rfl (by decide) rfl ?_
      refine zgoto (tgt := 9) dX8_greatestShared_41 (by decide) ?_
      refine zlvs (lv' := [(0, .long a), (2, .long c), (4, .long (lN v)), (6, .long (lN (u % v))), (8, .int (nI (s + 1)))]) ⟨rfl, rfl, rfl, rfl, by rw [nI_succ s]; rfl, trivial⟩ ?_
      by_cases hy : u % v = 0
      · rw [hy]
        refine ziload dX8_greatestShared_9 rfl ?_
        refine zbipush (v := nI 100) dX8_greatestShared_11 (by decide) ?_
        refine zicmp_ge (tgt := 44) dX8_greatestShared_13 (by decide) (fun h => absurd h (nI_ge (b := 100) (a := s + 1) (by omega) (by decide))) (fun _ => ?_)
        refine zlload dX8_greatestShared_16 rfl ?_
        refine zlconst (v := 0) dX8_greatestShared_18 (by decide) ?_
        refine zlcmp dX8_greatestShared_19 ?_
        refine zif_eq (tgt := 44) dX8_greatestShared_20 (by decide) (fun _ => ?_) (fun h => absurd lcz0 h)
        refine zlload dX8_greatestShared_44 rfl ?_
        exact zlreturn dX8_greatestShared_46 rfl ⟨by rw [Nat.gcd_zero_right], rfl⟩
      · have hlt2 : v % (u % v) < u % v := Nat.mod_lt _ (by omega)
        have hh : 2 * (v % (u % v)) < v := by
          by_cases hq : 2 * (u % v) ≤ v
          · omega
          · have e1 : v % (u % v) = v - (u % v) := by
              rw [Nat.mod_eq_sub_mod (by omega), Nat.mod_eq_of_lt (by omega)]
            omega
        have h2' : u % v < 2 ^ 63 := by omega
        rw [← gcd_st v (u % v)]
        refine ziload dX8_greatestShared_9 rfl ?_
        refine zbipush (v := nI 100) dX8_greatestShared_11 (by decide) ?_
        refine zicmp_ge (tgt := 44) dX8_greatestShared_13 (by decide) (fun h => absurd h (nI_ge (a := s + 1) (b := 100) (by omega) (by decide))) (fun _ => ?_)
        refine zlload dX8_greatestShared_16 rfl ?_
        refine zlconst (v := 0) dX8_greatestShared_18 (by decide) ?_
        refine zlcmp dX8_greatestShared_19 ?_
        refine zif_eq (tgt := 44) dX8_greatestShared_20 (by decide) (fun h => absurd h (lczn (by omega) h2')) (fun _ => ?_)
        refine zlload dX8_greatestShared_23 rfl ?_
        refine zlload dX8_greatestShared_25 rfl ?_
        refine zlrem dX8_greatestShared_27 (lNne (by omega) h2') ?_
        rw [pk_lRem h2 (by omega) h2']
        refine zlstore dX8_greatestShared_28 (by decide) rfl rfl ?_
        refine zlload dX8_greatestShared_30 rfl ?_
        refine zlstore dX8_greatestShared_32 (by decide) rfl rfl ?_
        refine zlload dX8_greatestShared_34 rfl ?_
        refine zlstore dX8_greatestShared_36 (by decide) rfl rfl ?_
        refine ziinc dX8_greatestShared_38 rfl rfl (by decide) rfl ?_
        refine zgoto (tgt := 9) dX8_greatestShared_41 (by decide) ?_
        refine zlvs (lv' := [(0, .long a), (2, .long c), (4, .long (lN (u % v))), (6, .long (lN (v % (u % v)))), (8, .int (nI (s + 2)))]) ⟨rfl, rfl, rfl, rfl, by rw [nI_succ (s + 1)]; rfl, trivial⟩ ?_
        exact ih (u % v) (v % (u % v)) (s + 2) (by rw [Nat.pow_succ] at hv; omega) (by omega) h2' (by omega)
set_option maxRecDepth 100000 in
set_option maxHeartbeats 4000000 in
theorem c_X8_greatestShared {u v : Nat} (h1 : u < 2 ^ 63) (h2 : v < 2 ^ 40) : zF x true mX8_greatestShared [.long (lN u), .long (lN v)] S (some (.long (lN (Nat.gcd u v)))) S := by
  refine zC_of (by decide +kernel) (Nat.le_of_ble_eq_true rfl) ?_
  refine zlload_n dX8_greatestShared_0 rfl ?_
  refine zlstore dX8_greatestShared_1 (by decide) rfl rfl ?_
  refine zlload_n dX8_greatestShared_3 rfl ?_
  refine zlstore dX8_greatestShared_4 (by decide) rfl rfl ?_
  refine ziconst (v := 0) dX8_greatestShared_6 (by decide) ?_
  refine zistore dX8_greatestShared_7 (by decide) rfl ?_
  refine zlvs (lv' := [(0, .long (lN u)), (2, .long (lN v)), (4, .long (lN u)), (6, .long (lN v)), (8, .int (nI 0))]) ⟨rfl, rfl, rfl, rfl, rfl, trivial⟩ ?_
  exact l_X8_greatestShared 40 u v 0 h2 (by decide) h1 (by omega)
set_option maxRecDepth 100000 in
set_option maxHeartbeats 4000000 in
theorem c_X8_partOfFraction {u v p : Nat} (hp : p < 2) (h1 : u < 2 ^ 63) (h2 : v < 2 ^ 40) (hv : 0 < v) : zF x true mX8_partOfFraction [.long (lN u), .long (lN v), .int (nI p)] S (some (.long (lN (frV u v p)))) S := by
  have hg : 0 < Nat.gcd u v := Nat.gcd_pos_of_pos_right u hv
  have hg2 : Nat.gcd u v < 2 ^ 63 := Nat.lt_of_le_of_lt (Nat.gcd_le_right u hv) (by omega)
  refine zC_of (by decide +kernel) (Nat.le_of_ble_eq_true rfl) ?_
  by_cases hp0 : p = 0
  · subst hp0
    refine zlload_n dX8_partOfFraction_0 rfl ?_
    refine zlload_n dX8_partOfFraction_1 rfl ?_
    refine zcSf  gk_X8_266 dX8_partOfFraction_2 (c_X8_greatestShared h1 h2) rfl (by decide) (Nat.le_of_ble_eq_true rfl) ?_ rfl
    refine zlstore dX8_partOfFraction_5 (by decide) rfl rfl ?_
    refine ziload dX8_partOfFraction_7 rfl ?_
    refine zif_ne (tgt := 16) dX8_partOfFraction_9 (by decide) (fun h => absurd rfl h) (fun _ => ?_)
    refine zlload_n dX8_partOfFraction_12 rfl ?_
    refine zgoto (tgt := 17) dX8_partOfFraction_13 (by decide) ?_
    refine zlstore dX8_partOfFraction_17 (by decide) rfl rfl ?_
    refine zlload dX8_partOfFraction_19 rfl ?_
    refine zlconst (v := 0) dX8_partOfFraction_21 (by decide) ?_
    refine zlcmp dX8_partOfFraction_22 ?_
    refine zif_ne (tgt := 31) dX8_partOfFraction_23 (by decide) (fun _ => ?_) (fun h => absurd h (lczn hg hg2))
    refine zlload dX8_partOfFraction_31 rfl ?_
    refine zlload dX8_partOfFraction_33 rfl ?_
    refine zldiv dX8_partOfFraction_35 (lNne hg hg2) ?_
    exact zlreturn dX8_partOfFraction_36 rfl ⟨by rw [pk_lDiv h1 hg hg2]; rfl, rfl⟩
  · refine zlload_n dX8_partOfFraction_0 rfl ?_
    refine zlload_n dX8_partOfFraction_1 rfl ?_
    refine zcSf  gk_X8_266 dX8_partOfFraction_2 (c_X8_greatestShared h1 h2) rfl (by decide) (Nat.le_of_ble_eq_true rfl) ?_ rfl
    refine zlstore dX8_partOfFraction_5 (by decide) rfl rfl ?_
    refine ziload dX8_partOfFraction_7 rfl ?_
    refine zif_ne (tgt := 16) dX8_partOfFraction_9 (by decide) (fun _ => ?_) (fun h => absurd h (nI_ne0 (by omega) (by omega)))
    refine zlload_n dX8_partOfFraction_16 rfl ?_
    refine zlstore dX8_partOfFraction_17 (by decide) rfl rfl ?_
    refine zlload dX8_partOfFraction_19 rfl ?_
    refine zlconst (v := 0) dX8_partOfFraction_21 (by decide) ?_
    refine zlcmp dX8_partOfFraction_22 ?_
    refine zif_ne (tgt := 31) dX8_partOfFraction_23 (by decide) (fun _ => ?_) (fun h => absurd h (lczn hg hg2))
    refine zlload dX8_partOfFraction_31 rfl ?_
    refine zlload dX8_partOfFraction_33 rfl ?_
    refine zldiv dX8_partOfFraction_35 (lNne hg hg2) ?_
    exact zlreturn dX8_partOfFraction_36 rfl ⟨by rw [pk_lDiv (by omega) hg hg2]; unfold frV; rw [if_neg hp0], rfl⟩
def meanV (n : Nat) (T : Tw) (p : Nat) : Int64 := lN (frV (sF (T 5) n 0 0).toNatClampNeg (if n = 0 then 1 else n) p)
theorem max1 {n : Nat} (h : n ≤ 8) : (if nI n < 1 then (1 : Int32) else nI n) = nI (if n = 0 then 1 else n) := by
  by_cases h0 : n = 0
  · subst h0; decide
  · rw [if_neg h0, if_neg (show ¬ nI n < 1 from nI_nlt (a := n) (b := 1) (by omega) (by omega))]
set_option maxRecDepth 100000 in
set_option maxHeartbeats 4000000 in
theorem c_X8_mean (hR : RepC σ S) (hW : WS σ) (p : Int32) : zRl x true mX8_mean [.ref (zad x 0), .int p] S (qCl (whF p 2) (meanV (sN σ) (sT σ) p.toNatClampNeg) σ σ) := by
  have hT := hR.1
  have hn8 : sN σ ≤ 8 := hT.2.1
  refine zC_of (by decide +kernel) (Nat.le_of_ble_eq_true rfl) ?_
  by_cases he : whF p 2 = 0
  · obtain ⟨j, hj, rfl⟩ := whF_of (k := 2) (by decide) he
    obtain ⟨s, s1, s2⟩ := sF_bnd (sT σ 5) hn8 (fun p hp => (hW.1.2.2.2.2 p hp).1)
    have hB : (if sN σ = 0 then 1 else sN σ) ≤ 8 ∧ 0 < (if sN σ = 0 then 1 else sN σ) := by split <;> omega
    refine ziload_n dX8_mean_0 rfl ?_
    refine ziconst (v := 2) dX8_mean_1 (by decide) ?_
    refine zcSf  gk_X8_99 dX8_mean_2 c_X8_whatFault rfl (by decide) (Nat.le_of_ble_eq_true rfl) ?_ rfl
    refine zistore_n dX8_mean_5 (by decide) rfl ?_
    refine ziload_n dX8_mean_6 rfl ?_
    refine zif_eq (tgt := 16) dX8_mean_7 (by decide) (fun _ => ?_) (fun h => absurd he h)
    refine zaload_n dX8_mean_16 rfl ?_
    refine gf_X8_30 rfl dX8_mean_17 ?_
    refine zcVf (ob_town (t := 0) (by decide)) gk_X8_260 dX8_mean_20 (c_X7_allFame (t := 0) (by decide) hT) rfl (by decide) (Nat.le_of_ble_eq_true rfl) ?_ rfl
    rw [s2]
    refine zi2l dX8_mean_23 ?_
    rw [nI_l (by omega)]
    refine zaload_n dX8_mean_24 rfl ?_
    refine gf_X8_30 rfl dX8_mean_25 ?_
    refine gf_X8_192 (t := 0) (by decide) rfl dX8_mean_28 ?_
    rw [hT.1]
    refine ziconst (v := 1) dX8_mean_31 (by decide) ?_
    refine zmmax rfl dX8_mean_32 (by decide) (Nat.le_of_ble_eq_true rfl) ?_
    rw [max1 hn8]
    refine zi2l dX8_mean_35 ?_
    rw [nI_l (by omega)]
    refine ziload_n dX8_mean_36 rfl ?_
    refine zcSf  gk_X8_251 dX8_mean_37 (c_X8_partOfFraction (u := s) (v := if sN σ = 0 then 1 else sN σ) hj (by omega) (by omega) hB.2) rfl (by decide) (Nat.le_of_ble_eq_true rfl) ?_ rfl
    exact zlreturn dX8_mean_40 rfl ⟨_, rfl, qCl_ok he (by unfold meanV; rw [s2, nI_clamp (n := s) (by omega), nI_clamp (n := j) (by omega)]) hR⟩
  · refine ziload_n dX8_mean_0 rfl ?_
    refine ziconst (v := 2) dX8_mean_1 (by decide) ?_
    refine zcSf  gk_X8_99 dX8_mean_2 c_X8_whatFault rfl (by decide) (Nat.le_of_ble_eq_true rfl) ?_ rfl
    refine zistore_n dX8_mean_5 (by decide) rfl ?_
    refine ziload_n dX8_mean_6 rfl ?_
    refine zif_eq (tgt := 16) dX8_mean_7 (by decide) (fun h => absurd h he) (fun _ => ?_)
    refine zaload_n dX8_mean_10 rfl ?_
    refine ziload_n dX8_mean_11 rfl ?_
    refine zcVf ob_X gk_X8_239 dX8_mean_12 (c_X8_refuseLong (okE.e (okE_whF _ _) he)) rfl (by decide) (Nat.le_of_ble_eq_true rfl) ?_ rfl
    exact zlreturn dX8_mean_15 rfl ⟨_, rfl, qCl_no rfl (okE.e (okE_whF _ _) he) hR⟩
set_option maxRecDepth 100000 in
set_option maxHeartbeats 4000000 in
theorem c_X9_mean (hR : RepM σ S) (hW : WS σ) (p : Int32) : zRl x false mX9_mean [.ref (zad x 0), .int p] S (qMl (whF p 2) (meanV (sN σ) (sT σ) p.toNatClampNeg) σ σ) := by
  have hM := hR.1
  have hn8 : sN σ ≤ 8 := hM.2.1
  refine zC_of (by decide +kernel) (Nat.le_of_ble_eq_true rfl) ?_
  by_cases he : whF p 2 = 0
  · obtain ⟨j, hj, rfl⟩ := whF_of (k := 2) (by decide) he
    obtain ⟨s, s1, s2⟩ := sF_bnd (sT σ 5) hn8 (fun p hp => (hW.1.2.2.2.2 p hp).1)
    by_cases h0 : sN σ = 0
    · have hs : s = 0 := by
        have e : sF (sT σ 5) (sN σ) 0 0 = nI 0 := by rw [h0]; rfl
        rw [e] at s2
        exact ((nI_eq (by decide) (by omega)).mp s2).symm
      subst hs
      refine ziload_n dX9_mean_0 rfl ?_
      refine ziconst (v := 0) dX9_mean_1 (by decide) ?_
      refine ziconst (v := 1) dX9_mean_2 (by decide) ?_
      refine zcSf  gk_X9_44 dX9_mean_3 c_isIn_1 rfl (by decide) (Nat.le_of_ble_eq_true rfl) ?_ rfl
      refine zifb_eq (tgt := 32) dX9_mean_6 (by decide) (fun h => absurd (h.symm.trans (decide_eq_true he)) (by decide)) (fun _ => ?_)
      refine zaload_n dX9_mean_9 rfl ?_
      refine gf_X9_9 rfl dX9_mean_10 ?_
      refine ziconst (v := nI 4) dX9_mean_13 (by decide) ?_
      refine zcSf  gk_X9_208 dX9_mean_14 (c_X9_allOf (j := 4) hr1 hM (by decide)) rfl (by decide) (Nat.le_of_ble_eq_true rfl) ?_ rfl
      rw [s2]
      refine zi2l dX9_mean_17 ?_
      rw [nI_l (by omega)]
      refine zaload_n dX9_mean_18 rfl ?_
      refine gf_X9_9 rfl dX9_mean_19 ?_
      refine ziconst (v := nI 0) dX9_mean_22 (by decide) ?_
      refine ziald dX9_mean_23 (mrk hr1.2) (mrl hr1.1 hr1.2) (by decide) (by decide) ?_
      rw [hM.1]
      refine zi2l dX9_mean_24 ?_
      rw [nI_l (by omega)]
      refine ziload_n dX9_mean_25 rfl ?_
      refine zcSf  gk_X9_204 dX9_mean_26 (c_X9_partOf0 hj) rfl (by decide) (Nat.le_of_ble_eq_true rfl) ?_ rfl
      refine zgoto (tgt := 38) dX9_mean_29 (by decide) ?_
      exact zlreturn dX9_mean_38 rfl ⟨_, rfl, qMl_ok he (by unfold meanV; rw [s2, nI_clamp (n := 0) (by omega), nI_clamp (n := j) (by omega), if_pos h0]; unfold frV; rw [Nat.gcd_zero_left, Nat.div_one]; congr 1; split <;> omega) hR⟩
    · refine ziload_n dX9_mean_0 rfl ?_
      refine ziconst (v := 0) dX9_mean_1 (by decide) ?_
      refine ziconst (v := 1) dX9_mean_2 (by decide) ?_
      refine zcSf  gk_X9_44 dX9_mean_3 c_isIn_1 rfl (by decide) (Nat.le_of_ble_eq_true rfl) ?_ rfl
      refine zifb_eq (tgt := 32) dX9_mean_6 (by decide) (fun h => absurd (h.symm.trans (decide_eq_true he)) (by decide)) (fun _ => ?_)
      refine zaload_n dX9_mean_9 rfl ?_
      refine gf_X9_9 rfl dX9_mean_10 ?_
      refine ziconst (v := nI 4) dX9_mean_13 (by decide) ?_
      refine zcSf  gk_X9_208 dX9_mean_14 (c_X9_allOf (j := 4) hr1 hM (by decide)) rfl (by decide) (Nat.le_of_ble_eq_true rfl) ?_ rfl
      rw [s2]
      refine zi2l dX9_mean_17 ?_
      rw [nI_l (by omega)]
      refine zaload_n dX9_mean_18 rfl ?_
      refine gf_X9_9 rfl dX9_mean_19 ?_
      refine ziconst (v := nI 0) dX9_mean_22 (by decide) ?_
      refine ziald dX9_mean_23 (mrk hr1.2) (mrl hr1.1 hr1.2) (by decide) (by decide) ?_
      rw [hM.1]
      refine zi2l dX9_mean_24 ?_
      rw [nI_l (by omega)]
      refine ziload_n dX9_mean_25 rfl ?_
      refine zcSf  gk_X9_204 dX9_mean_26 (c_X9_partOf hj (by omega) (by omega) (by omega)) rfl (by decide) (Nat.le_of_ble_eq_true rfl) ?_ rfl
      refine zgoto (tgt := 38) dX9_mean_29 (by decide) ?_
      exact zlreturn dX9_mean_38 rfl ⟨_, rfl, qMl_ok he (by unfold meanV; rw [s2, nI_clamp (n := s) (by omega), nI_clamp (n := j) (by omega), if_neg h0]) hR⟩
  · refine ziload_n dX9_mean_0 rfl ?_
    refine ziconst (v := 0) dX9_mean_1 (by decide) ?_
    refine ziconst (v := 1) dX9_mean_2 (by decide) ?_
    refine zcSf  gk_X9_44 dX9_mean_3 c_isIn_1 rfl (by decide) (Nat.le_of_ble_eq_true rfl) ?_ rfl
    refine zifb_eq (tgt := 32) dX9_mean_6 (by decide) (fun _ => ?_) (fun h => absurd (h.symm.trans (decide_eq_false he)) (by decide))
    refine zaload_n dX9_mean_32 rfl ?_
    refine zbipush (v := -2) dX9_mean_33 (by decide) ?_
    refine zcVf ob_Mo gk_X9_200 dX9_mean_35 (c_X9_noWide isE_2) rfl (by decide) (Nat.le_of_ble_eq_true rfl) ?_ rfl
    exact zlreturn dX9_mean_38 rfl ⟨_, rfl, qMl_no (whF_2 he) isE_2 hR⟩
end ODDS1
