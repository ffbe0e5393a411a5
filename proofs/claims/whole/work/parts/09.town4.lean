/-! Town: copies and newcomers -/
section TOWN4
variable {x : zCx} {S : zSt} {t n : Nat} {T : Nat → Nat → Int32}

/-- what has come over so far -/
def cpT (S : zSt) (t n i : Nat) (T : Nat → Nat → Int32) : Prop := S.2 (tp t) 8 = nI n ∧ ∀ w p, 0 < w → w < 8 → p < i → S.1 (tp t + w) p = T w p
theorem cp_step {i : Nat} (h : cpT S t n i T) : cpT (u2 (u2 (u2 (u2 (u2 (u2 (u2 S.1 (tp t + 1) i (T 1 i)) (tp t + 2) i (T 2 i)) (tp t + 3) i (T 3 i)) (tp t + 4) i (T 4 i)) (tp t + 5) i (T 5 i)) (tp t + 6) i (T 6 i)) (tp t + 7) i (T 7 i), S.2) t n (i + 1) T := by
  refine ⟨h.1, fun w p h0 hw hp => ?_⟩
  have hw7 : w = 1 ∨ w = 2 ∨ w = 3 ∨ w = 4 ∨ w = 5 ∨ w = 6 ∨ w = 7 := by omega
  by_cases e : p = i
  · subst e
    rcases hw7 with rfl | rfl | rfl | rfl | rfl | rfl | rfl <;> simp [u2]
  · have hp' : p < i := by omega
    rw [← h.2 w p h0 hw hp']
    simp [u2, e]
theorem fr_step {i : Nat} {S0 : zSt} (h : frT t S0 S) : frT t S0 (u2 (u2 (u2 (u2 (u2 (u2 (u2 S.1 (tp t + 1) i (T 1 i)) (tp t + 2) i (T 2 i)) (tp t + 3) i (T 3 i)) (tp t + 4) i (T 4 i)) (tp t + 5) i (T 5 i)) (tp t + 6) i (T 6 i)) (tp t + 7) i (T 7 i), S.2) := by
  have h1 := frT.put (w := 1) (p := i) (v := T 1 i) h (by decide) (by decide)
  have h2 := frT.put (w := 2) (p := i) (v := T 2 i) h1 (by decide) (by decide)
  have h3 := frT.put (w := 3) (p := i) (v := T 3 i) h2 (by decide) (by decide)
  have h4 := frT.put (w := 4) (p := i) (v := T 4 i) h3 (by decide) (by decide)
  have h5 := frT.put (w := 5) (p := i) (v := T 5 i) h4 (by decide) (by decide)
  have h6 := frT.put (w := 6) (p := i) (v := T 6 i) h5 (by decide) (by decide)
  exact frT.put (w := 7) (p := i) (v := T 7 i) h6 (by decide) (by decide)
set_option maxRecDepth 100000 in
set_option maxHeartbeats 4000000 in
theorem l_X7_becomeLike {u : Nat} (ht : t < 3) (hu : u < 3) (hne : ¬ t = u) {S0 : zSt} {post : Option Value → zSt → Prop} : ∀ (k i : Nat) (S : zSt), i + k = n → isT S u n T → cpT S t n i T → frT t S0 S →
    (∀ S', isT S' t n T → S'.2 = S.2 → frT t S0 S' → post none S') → zZ x true mX7_becomeLike post 18 [(0, .ref (zad x (tp t))), (1, .ref (zad x (tp u))), (2, .int (nI i))] [] S := by
  intro k
  induction k with
  | zero =>
    intro i S hi hT hc hf kk
    have hn8 := hT.2.1
    have e : i = n := by omega
    subst e
    refine ziload_n dX7_becomeLike_18 rfl ?_
    refine zaload_n dX7_becomeLike_19 rfl ?_
    refine gf_X7_37 (t := t) ht rfl dX7_becomeLike_20 ?_
    rw [hc.1]
    refine zicmp_ge (tgt := 116) dX7_becomeLike_23 (by decide) (fun _ => ?_) (fun h => absurd (nI_le (Nat.le_refl _) (by omega)) h)
    exact zreturn dX7_becomeLike_116 rfl (kk S ⟨hc.1, hn8, hc.2⟩ rfl hf)
  | succ k ih =>
    intro i S hi hT hc hf kk
    have hn8 := hT.2.1
    have hT0 := hT
    refine ziload_n dX7_becomeLike_18 rfl ?_
    refine zaload_n dX7_becomeLike_19 rfl ?_
    refine gf_X7_37 (t := t) ht rfl dX7_becomeLike_20 ?_
    rw [hc.1]
    refine zicmp_ge (tgt := 116) dX7_becomeLike_23 (by decide) (fun h => absurd h (nI_ge (by omega) (by omega))) (fun _ => ?_)
    refine zaload_n dX7_becomeLike_26 rfl ?_
    refine gf_X7_15 (t := t) ht rfl dX7_becomeLike_27 ?_
    refine ziload_n dX7_becomeLike_30 rfl ?_
    refine zaload_n dX7_becomeLike_31 rfl ?_
    refine gf_X7_15 (t := u) hu rfl dX7_becomeLike_32 ?_
    refine ziload_n dX7_becomeLike_35 rfl ?_
    refine zialT (t := u) (w := 1) dX7_becomeLike_36 hu hT (by decide) (by decide) (by omega) ?_
    refine ziast dX7_becomeLike_37 (tpk ht (by decide)) (tpa ht (by decide) (by decide)) (by decide) (by omega) ?_
    refine zaload_n dX7_becomeLike_38 rfl ?_
    refine gf_X7_19 (t := t) ht rfl dX7_becomeLike_39 ?_
    refine ziload_n dX7_becomeLike_42 rfl ?_
    have hT := isT_other (w := 1) (p := i) (v := T 1 i) hT hne (by decide)
    refine zaload_n dX7_becomeLike_43 rfl ?_
    refine gf_X7_19 (t := u) hu rfl dX7_becomeLike_44 ?_
    refine ziload_n dX7_becomeLike_47 rfl ?_
    refine zialT (t := u) (w := 2) dX7_becomeLike_48 hu hT (by decide) (by decide) (by omega) ?_
    refine ziast dX7_becomeLike_49 (tpk ht (by decide)) (tpa ht (by decide) (by decide)) (by decide) (by omega) ?_
    refine zaload_n dX7_becomeLike_50 rfl ?_
    refine gf_X7_22 (t := t) ht rfl dX7_becomeLike_51 ?_
    refine ziload_n dX7_becomeLike_54 rfl ?_
    have hT := isT_other (w := 2) (p := i) (v := T 2 i) hT hne (by decide)
    refine zaload_n dX7_becomeLike_55 rfl ?_
    refine gf_X7_22 (t := u) hu rfl dX7_becomeLike_56 ?_
    refine ziload_n dX7_becomeLike_59 rfl ?_
    refine zialT (t := u) (w := 3) dX7_becomeLike_60 hu hT (by decide) (by decide) (by omega) ?_
    refine ziast dX7_becomeLike_61 (tpk ht (by decide)) (tpa ht (by decide) (by decide)) (by decide) (by omega) ?_
    refine zaload_n dX7_becomeLike_62 rfl ?_
    refine gf_X7_25 (t := t) ht rfl dX7_becomeLike_63 ?_
    refine ziload_n dX7_becomeLike_66 rfl ?_
    have hT := isT_other (w := 3) (p := i) (v := T 3 i) hT hne (by decide)
    refine zaload_n dX7_becomeLike_67 rfl ?_
    refine gf_X7_25 (t := u) hu rfl dX7_becomeLike_68 ?_
    refine ziload_n dX7_becomeLike_71 rfl ?_
    refine zialT (t := u) (w := 4) dX7_becomeLike_72 hu hT (by decide) (by decide) (by omega) ?_
    refine ziast dX7_becomeLike_73 (tpk ht (by decide)) (tpa ht (by decide) (by decide)) (by decide) (by omega) ?_
    refine zaload_n dX7_becomeLike_74 rfl ?_
    refine gf_X7_28 (t := t) ht rfl dX7_becomeLike_75 ?_
    refine ziload_n dX7_becomeLike_78 rfl ?_
    have hT := isT_other (w := 4) (p := i) (v := T 4 i) hT hne (by decide)
    refine zaload_n dX7_becomeLike_79 rfl ?_
    refine gf_X7_28 (t := u) hu rfl dX7_becomeLike_80 ?_
    refine ziload_n dX7_becomeLike_83 rfl ?_
    refine zialT (t := u) (w := 5) dX7_becomeLike_84 hu hT (by decide) (by decide) (by omega) ?_
    refine ziast dX7_becomeLike_85 (tpk ht (by decide)) (tpa ht (by decide) (by decide)) (by decide) (by omega) ?_
    refine zaload_n dX7_becomeLike_86 rfl ?_
    refine gf_X7_31 (t := t) ht rfl dX7_becomeLike_87 ?_
    refine ziload_n dX7_becomeLike_90 rfl ?_
    have hT := isT_other (w := 5) (p := i) (v := T 5 i) hT hne (by decide)
    refine zaload_n dX7_becomeLike_91 rfl ?_
    refine gf_X7_31 (t := u) hu rfl dX7_becomeLike_92 ?_
    refine ziload_n dX7_becomeLike_95 rfl ?_
    refine zialT (t := u) (w := 6) dX7_becomeLike_96 hu hT (by decide) (by decide) (by omega) ?_
    refine ziast dX7_becomeLike_97 (tpk ht (by decide)) (tpa ht (by decide) (by decide)) (by decide) (by omega) ?_
    refine zaload_n dX7_becomeLike_98 rfl ?_
    refine gf_X7_34 (t := t) ht rfl dX7_becomeLike_99 ?_
    refine ziload_n dX7_becomeLike_102 rfl ?_
    have hT := isT_other (w := 6) (p := i) (v := T 6 i) hT hne (by decide)
    refine zaload_n dX7_becomeLike_103 rfl ?_
    refine gf_X7_34 (t := u) hu rfl dX7_becomeLike_104 ?_
    refine ziload_n dX7_becomeLike_107 rfl ?_
    refine zialT (t := u) (w := 7) dX7_becomeLike_108 hu hT (by decide) (by decide) (by omega) ?_
    refine ziast dX7_becomeLike_109 (tpk ht (by decide)) (tpa ht (by decide) (by decide)) (by decide) (by omega) ?_
    refine ziinc dX7_becomeLike_110 rfl rfl (by decide) rfl ?_
    refine zgoto (tgt := 18) dX7_becomeLike_113 (by decide) ?_
    refine zlvs (lv' := [(0, .ref (zad x (tp t))), (1, .ref (zad x (tp u))), (2, .int (nI (i + 1)))]) ⟨rfl, rfl, by rw [← nI_1]; rfl, trivial⟩ ?_
    exact ih (i + 1) _ (by omega) (isT_other (w := 7) (p := i) (v := T 7 i) hT hne (by decide)) (cp_step hc) (fr_step hf) (fun S2 h1 h2 h3 => kk S2 h1 h2 h3)
set_option maxRecDepth 100000 in
set_option maxHeartbeats 4000000 in
theorem c_X7_becomeLike {u : Nat} (ht : t < 3) (hu : u < 3) (hne : ¬ t = u) (hT : isT S u n T) : zV x true mX7_becomeLike [.ref (zad x (tp t)), .ref (zad x (tp u))] S (fun S' => isT S' t n T ∧ S'.2 (tp t) 9 = S.2 (tp u) 9 ∧ frT t S S') := by
  have hn8 := hT.2.1
  have hne2 : ¬ tp u = tp t := fun q => hne (by unfold tp at q; omega)
  refine zC_of (by decide +kernel) (Nat.le_of_ble_eq_true rfl) ?_
  refine zaload_n dX7_becomeLike_0 rfl ?_
  refine zaload_n dX7_becomeLike_1 rfl ?_
  refine gf_X7_37 (t := u) hu rfl dX7_becomeLike_2 ?_
  rw [hT.1]
  refine pf_X7_37 (t := t) ht rfl dX7_becomeLike_5 ?_
  have hT : isT (S.1, u2 S.2 (tp t) 8 (nI n)) u n T := ⟨by show u2 S.2 (tp t) 8 (nI n) (tp u) 8 = _; rw [u2_w hne2]; exact hT.1, hT.2⟩
  refine zaload_n dX7_becomeLike_8 rfl ?_
  refine zaload_n dX7_becomeLike_9 rfl ?_
  refine gf_X7_41 (t := u) hu rfl dX7_becomeLike_10 ?_
  refine pf_X7_41 (t := t) ht rfl dX7_becomeLike_13 ?_
  refine ziconst (v := 0) dX7_becomeLike_16 (by decide) ?_
  refine zistore_n dX7_becomeLike_17 (by decide) rfl ?_
  refine zlvs (lv' := [(0, .ref (zad x (tp t))), (1, .ref (zad x (tp u))), (2, .int (nI 0))]) ⟨rfl, rfl, rfl, trivial⟩ ?_
  refine l_X7_becomeLike ht hu hne (S0 := S) n 0 _ (by omega) (T := T) ⟨?_, hT.2⟩ ⟨?_, fun w p _ _ hp => absurd hp (Nat.not_lt_zero p)⟩ (frT.fld (frT.fld frT.rf)) (fun S2 h1 h2 h3 => ⟨rfl, h1, ?_, h3⟩)
  · show u2 (u2 S.2 (tp t) 8 (nI n)) (tp t) 9 _ (tp u) 8 = _
    rw [u2_w hne2]; exact hT.1
  · show u2 (u2 S.2 (tp t) 8 (nI n)) (tp t) 9 _ (tp t) 8 = _
    rw [u2_ne (by omega), u2_self]
  · rw [h2]
    show u2 (u2 S.2 (tp t) 8 (nI n)) (tp t) 9 _ (tp t) 9 = _
    rw [u2_self]
    show u2 S.2 (tp t) 8 (nI n) (tp u) 9 = _
    rw [u2_w hne2]
/-- one more -/
def addT (n : Nat) (T : Nat → Nat → Int32) (kd fg : Int32) : Nat → Nat → Int32 := u2 (u2 (u2 (u2 (u2 (u2 (u2 T 1 n kd) 2 n fg) 3 n (1 <<< (nI n &&& 31))) 4 n (nI n)) 5 n 50) 6 n 0) 7 n 0
theorem isT_add {kd fg : Int32} (hT : isT S t n T) (hn : n < 8) : isT (u2 (u2 (u2 (u2 (u2 (u2 (u2 S.1 (tp t + 1) n kd) (tp t + 2) n fg) (tp t + 3) n (1 <<< (nI n &&& 31))) (tp t + 4) n (nI n)) (tp t + 5) n 50) (tp t + 6) n 0) (tp t + 7) n 0, u2 S.2 (tp t) 8 (nI n + 1)) t (n + 1) (addT n T kd fg) := by
  refine ⟨by show u2 S.2 (tp t) 8 (nI n + 1) (tp t) 8 = _; rw [u2_self, nI_1], by omega, fun w p h0 hw hp => ?_⟩
  have hw7 : w = 1 ∨ w = 2 ∨ w = 3 ∨ w = 4 ∨ w = 5 ∨ w = 6 ∨ w = 7 := by omega
  by_cases e : p = n
  · subst e
    rcases hw7 with rfl | rfl | rfl | rfl | rfl | rfl | rfl <;> simp [u2, addT]
  · have hp' : p < n := by omega
    have h := hT.2.2 w p h0 hw hp'
    simp [u2, addT, e, h]
theorem fr_add {kd fg : Int32} : frT t S (u2 (u2 (u2 (u2 (u2 (u2 (u2 S.1 (tp t + 1) n kd) (tp t + 2) n fg) (tp t + 3) n (1 <<< (nI n &&& 31))) (tp t + 4) n (nI n)) (tp t + 5) n 50) (tp t + 6) n 0) (tp t + 7) n 0, u2 S.2 (tp t) 8 (nI n + 1)) := by
  have h0 : frT t S S := frT.rf
  have h1 := frT.put (w := 1) (p := n) (v := kd) h0 (by decide) (by decide)
  have h2 := frT.put (w := 2) (p := n) (v := fg) h1 (by decide) (by decide)
  have h3 := frT.put (w := 3) (p := n) (v := 1 <<< (nI n &&& 31)) h2 (by decide) (by decide)
  have h4 := frT.put (w := 4) (p := n) (v := nI n) h3 (by decide) (by decide)
  have h5 := frT.put (w := 5) (p := n) (v := 50) h4 (by decide) (by decide)
  have h6 := frT.put (w := 6) (p := n) (v := 0) h5 (by decide) (by decide)
  exact frT.fld (frT.put (w := 7) (p := n) (v := 0) h6 (by decide) (by decide))
set_option maxRecDepth 100000 in
set_option maxHeartbeats 4000000 in
theorem c_X7_takesIn (ht : t < 3) (hT : isT S t n T) {kd fg : Int32} : zR x true mX7_takesIn [.ref (zad x (tp t)), .int kd, .int fg] S (fun r S' => (n = 8 ∧ r = bI false ∧ S' = S) ∨ (n < 8 ∧ r = bI true ∧ isT S' t (n + 1) (addT n T kd fg) ∧ S'.2 (tp t) 9 = S.2 (tp t) 9 ∧ frT t S S')) := by
  have hn8 := hT.2.1
  have hp : S.2 (tp t) 8 = nI n ∧ True := ⟨hT.1, trivial⟩
  refine zC_of (by decide +kernel) (Nat.le_of_ble_eq_true rfl) ?_
  by_cases h8 : n = 8
  · refine zaload_n dX7_takesIn_0 rfl ?_
    refine gf_X7_37 (t := t) ht rfl dX7_takesIn_1 ?_
    rw [hp.1]
    refine zbipush (v := 8) dX7_takesIn_4 (by decide) ?_
    refine zicmp_lt (tgt := 11) dX7_takesIn_6 (by decide) (fun h => absurd h (nI_nlt (b := 8) (by omega) (by omega))) (fun _ => ?_)
    refine ziconst (v := 0) dX7_takesIn_9 (by decide) ?_
    exact zbret (q := false) dX7_takesIn_10 rfl rfl ⟨_, rfl, Or.inl ⟨h8, rfl, rfl⟩⟩
  · refine zaload_n dX7_takesIn_0 rfl ?_
    refine gf_X7_37 (t := t) ht rfl dX7_takesIn_1 ?_
    rw [hp.1]
    refine zbipush (v := 8) dX7_takesIn_4 (by decide) ?_
    refine zicmp_lt (tgt := 11) dX7_takesIn_6 (by decide) (fun _ => ?_) (fun h => absurd (nI_lt (b := 8) (by omega) (by omega)) h)
    refine zaload_n dX7_takesIn_11 rfl ?_
    refine gf_X7_15 (t := t) ht rfl dX7_takesIn_12 ?_
    refine zaload_n dX7_takesIn_15 rfl ?_
    refine gf_X7_37 (t := t) ht rfl dX7_takesIn_16 ?_
    rw [hp.1]
    refine ziload_n dX7_takesIn_19 rfl ?_
    refine ziast dX7_takesIn_20 (tpk ht (by decide)) (tpa ht (by decide) (by decide)) (by decide) (by omega) ?_
    refine zaload_n dX7_takesIn_21 rfl ?_
    refine gf_X7_19 (t := t) ht rfl dX7_takesIn_22 ?_
    refine zaload_n dX7_takesIn_25 rfl ?_
    refine gf_X7_37 (t := t) ht rfl dX7_takesIn_26 ?_
    rw [hp.1]
    refine ziload_n dX7_takesIn_29 rfl ?_
    refine ziast dX7_takesIn_30 (tpk ht (by decide)) (tpa ht (by decide) (by decide)) (by decide) (by omega) ?_
    refine zaload_n dX7_takesIn_31 rfl ?_
    refine gf_X7_22 (t := t) ht rfl dX7_takesIn_32 ?_
    refine zaload_n dX7_takesIn_35 rfl ?_
    refine gf_X7_37 (t := t) ht rfl dX7_takesIn_36 ?_
    rw [hp.1]
    refine ziconst (v := 1) dX7_takesIn_39 (by decide) ?_
    refine zaload_n dX7_takesIn_40 rfl ?_
    refine gf_X7_37 (t := t) ht rfl dX7_takesIn_41 ?_
    rw [hp.1]
    refine zishl dX7_takesIn_44 ?_
    refine ziast dX7_takesIn_45 (tpk ht (by decide)) (tpa ht (by decide) (by decide)) (by decide) (by omega) ?_
    refine zaload_n dX7_takesIn_46 rfl ?_
    refine gf_X7_25 (t := t) ht rfl dX7_takesIn_47 ?_
    refine zaload_n dX7_takesIn_50 rfl ?_
    refine gf_X7_37 (t := t) ht rfl dX7_takesIn_51 ?_
    rw [hp.1]
    refine zaload_n dX7_takesIn_54 rfl ?_
    refine gf_X7_37 (t := t) ht rfl dX7_takesIn_55 ?_
    rw [hp.1]
    refine ziast dX7_takesIn_58 (tpk ht (by decide)) (tpa ht (by decide) (by decide)) (by decide) (by omega) ?_
    refine zaload_n dX7_takesIn_59 rfl ?_
    refine gf_X7_28 (t := t) ht rfl dX7_takesIn_60 ?_
    refine zaload_n dX7_takesIn_63 rfl ?_
    refine gf_X7_37 (t := t) ht rfl dX7_takesIn_64 ?_
    rw [hp.1]
    refine zbipush (v := 50) dX7_takesIn_67 (by decide) ?_
    refine ziast dX7_takesIn_69 (tpk ht (by decide)) (tpa ht (by decide) (by decide)) (by decide) (by omega) ?_
    refine zaload_n dX7_takesIn_70 rfl ?_
    refine gf_X7_31 (t := t) ht rfl dX7_takesIn_71 ?_
    refine zaload_n dX7_takesIn_74 rfl ?_
    refine gf_X7_37 (t := t) ht rfl dX7_takesIn_75 ?_
    rw [hp.1]
    refine ziconst (v := 0) dX7_takesIn_78 (by decide) ?_
    refine ziast dX7_takesIn_79 (tpk ht (by decide)) (tpa ht (by decide) (by decide)) (by decide) (by omega) ?_
    refine zaload_n dX7_takesIn_80 rfl ?_
    refine gf_X7_34 (t := t) ht rfl dX7_takesIn_81 ?_
    refine zaload_n dX7_takesIn_84 rfl ?_
    refine gf_X7_37 (t := t) ht rfl dX7_takesIn_85 ?_
    rw [hp.1]
    refine ziconst (v := 0) dX7_takesIn_88 (by decide) ?_
    refine ziast dX7_takesIn_89 (tpk ht (by decide)) (tpa ht (by decide) (by decide)) (by decide) (by omega) ?_
    refine zaload_n dX7_takesIn_90 rfl ?_
    refine zdup dX7_takesIn_91 rfl ?_
    refine gf_X7_37 (t := t) ht rfl dX7_takesIn_92 ?_
    rw [hp.1]
    refine ziconst (v := 1) dX7_takesIn_95 (by decide) ?_
    refine ziadd dX7_takesIn_96 ?_
    refine pf_X7_37 (t := t) ht rfl dX7_takesIn_97 ?_
    refine ziconst (v := 1) dX7_takesIn_100 (by decide) ?_
    exact zbret (q := true) dX7_takesIn_101 rfl rfl ⟨_, rfl, Or.inr ⟨by omega, rfl, isT_add hT (by omega), by show u2 S.2 (tp t) 8 _ (tp t) 9 = _; rw [u2_ne (by omega)], fr_add⟩⟩
end TOWN4
