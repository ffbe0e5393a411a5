/-! The telling, in the reference: reading -/
section TELL3
variable {x : zCx} {S : zSt} {σ σ' : Sig} {L : Nat → Nat} {N : Nat} {t : Tau}
def frP (S S' : zSt) : Prop := (∀ k, ¬ k = 9 → S'.1 k = S.1 k) ∧ ∀ k j, ¬ (k = 0 ∧ j = 11) → S'.2 k j = S.2 k j
theorem frP.rf : frP S S := ⟨fun _ _ => rfl, fun _ _ _ => rfl⟩
theorem frP.trans {S1 S2 S3 : zSt} (h : frP S1 S2) (h' : frP S2 S3) : frP S1 S3 := ⟨fun k hk => (h'.1 k hk).trans (h.1 k hk), fun k j hj => (h'.2 k j hj).trans (h.2 k j hj)⟩
theorem frP.num {S1 S2 : zSt} {j : Nat} {v : Int32} (h : frP S1 S2) : frP S1 (u2 S2.1 9 j v, S2.2) := ⟨fun k hk => by funext i; exact (u2_w hk).trans (congrFun (h.1 k hk) i), h.2⟩
theorem frP.plc {S1 S2 : zSt} {v : Int32} (h : frP S1 S2) : frP S1 (S2.1, u2 S2.2 0 11 v) := ⟨h.1, fun k j hj => (u2_ne hj).trans (h.2 k j hj)⟩
def LMo (S : zSt) (L : Nat → Nat) (N : Nat) : Prop := S.2 0 9 = nI N ∧ N ≤ 96 ∧ ∀ i, i < N → S.1 6 i = nI (L i) ∧ L i < 256
theorem LMo.fr {S' : zSt} (h : LMo S L N) (hf : frP S S') : LMo S' L N := ⟨(hf.2 0 9 (by decide)).trans h.1, h.2.1, fun i hi => by rw [hf.1 6 (by decide)]; exact h.2.2 i hi⟩
def hereI (L : Nat → Nat) (N p : Nat) : Int32 := if p < N then nI (L p) else -1
theorem zsi {M : zM} {b : Bool} {post : Option Value → zSt → Prop} {pc : Nat} {lv : List (Nat × Value)} {st : List Value} {a c : Int32} (h : a = c) (k : zZ x b M post pc lv (.int c :: st) S) : zZ x b M post pc lv (.int a :: st) S := by subst h; exact k
theorem plcS {f : Nat → Nat → Int32} {g : Nat → Nat → Int32} {v : Int32} : ((f, u2 g 0 11 v) : zSt).2 0 11 = v := by dsimp only; exact u2_self

set_option maxRecDepth 100000 in
set_option maxHeartbeats 4000000 in
theorem c_X9_here {p : Nat} (hl : LMo S L N) (hp : S.2 0 11 = nI p) (hp1 : p ≤ 100) : zF x false mX9_here [.ref (zad x 0)] S (some (.int (hereI L N p))) S := by
  have hN := hl.2.1
  refine zC_of (by decide +kernel) (Nat.le_of_ble_eq_true rfl) ?_
  unfold hereI
  by_cases hpp : p < N
  · rw [if_pos hpp]
    refine zaload_n dX9_here_0 rfl ?_
    refine gf_X9_95 rfl dX9_here_1 ?_
    rw [hp]
    refine zaload_n dX9_here_4 rfl ?_
    refine gf_X9_91 rfl dX9_here_5 ?_
    rw [hl.1]
    refine zicmp_ge (tgt := 23) dX9_here_8 (by decide) (fun h => absurd h (nI_ge hpp (by omega))) (fun _ => ?_)
    refine zaload_n dX9_here_11 rfl ?_
    refine gf_X9_25 rfl dX9_here_12 ?_
    refine zaload_n dX9_here_15 rfl ?_
    refine gf_X9_95 rfl dX9_here_16 ?_
    rw [hp]
    refine ziald dX9_here_19 (by decide) rfl (by decide) (by omega) ?_
    rw [(hl.2.2 p hpp).1]
    refine zgoto (tgt := 24) dX9_here_20 (by decide) ?_
    exact zireturn dX9_here_24 rfl rfl ⟨rfl, rfl⟩
  · rw [if_neg hpp]
    refine zaload_n dX9_here_0 rfl ?_
    refine gf_X9_95 rfl dX9_here_1 ?_
    rw [hp]
    refine zaload_n dX9_here_4 rfl ?_
    refine gf_X9_91 rfl dX9_here_5 ?_
    rw [hl.1]
    refine zicmp_ge (tgt := 23) dX9_here_8 (by decide) (fun _ => ?_) (fun h => absurd (nI_le (by omega) (by omega)) h)
    refine ziconst (v := -1) dX9_here_23 (by decide) ?_
    exact zireturn dX9_here_24 rfl rfl ⟨rfl, rfl⟩
def rnF (L : Nat → Nat) (N : Nat) : Nat → Nat → Nat → Bool × Nat × Nat
  | 0, p, v => (true, p, v)
  | d + 1, p, v => if p < N ∧ 48 ≤ L p ∧ L p ≤ 57 then rnF L N d (p + 1) (10 * v + (L p - 48)) else (false, p, v)
theorem rn_le : ∀ (d p v : Nat), p ≤ N → (rnF L N d p v).2.1 ≤ N := by
  intro d
  induction d with
  | zero => intro p v h; exact h
  | succ d ih =>
    intro p v h
    rw [rnF]
    split
    · exact ih _ _ (by omega)
    · exact h
theorem hereD {p : Nat} (hl : LMo S L N) : decide ((48 : Int32) ≤ hereI L N p ∧ hereI L N p ≤ 57) = decide (p < N ∧ 48 ≤ L p ∧ L p ≤ 57) := by
  congr 1
  apply propext
  unfold hereI
  by_cases h : p < N
  · rw [if_pos h]
    have := (hl.2.2 p h).2
    constructor
    · intro z
      exact ⟨h, (nI_leI (a := 48) (by decide) (by omega)).mp z.1, (nI_leI (b := 57) (by omega) (by decide)).mp z.2⟩
    · intro z
      exact ⟨nI_le (a := 48) z.2.1 (by omega), nI_le (b := 57) z.2.2 (by decide)⟩
  · rw [if_neg h]
    constructor
    · intro z; exact absurd z (by decide)
    · intro z; exact absurd z.1 h
set_option maxRecDepth 100000 in
set_option maxHeartbeats 4000000 in
theorem l_X9_readsNumber {k d : Nat} {S0 : zSt} (hk : k < 2) (hd : d ≤ 2) {z : Bool × Nat × Nat} : ∀ (m n p v : Nat) (S : zSt), n + m = d → LMo S L N → S.2 0 11 = nI p → p ≤ N → S.1 9 k = nI v → frP S0 S → (∀ j, ¬ j = k → S.1 9 j = S0.1 9 j) → rnF L N m p v = z → zZ x false mX9_readsNumber (fun q U => ∃ r : Int32, q = some (.int r) ∧ r = bI z.1 ∧ U.2 0 11 = nI z.2.1 ∧ U.1 9 k = nI z.2.2 ∧ (∀ j, ¬ j = k → U.1 9 j = S0.1 9 j) ∧ frP S0 U) 9 [(0, .ref (zad x 0)), (1, .int (nI k)), (2, .int (nI d)), (3, .int (nI n))] [] S := by
  intro m
  induction m with
  | zero =>
    intro n p v S hn hl hp hpN hv hf ho hz
    subst hz
    refine ziload_n dX9_readsNumber_9 rfl ?_
    refine ziload_n dX9_readsNumber_10 rfl ?_
    refine zicmp_ge (tgt := 69) dX9_readsNumber_11 (by decide) (fun _ => ?_) (fun h => absurd (nI_le (by omega) (by omega)) h)
    refine ziconst (v := 1) dX9_readsNumber_69 (by decide) ?_
    exact zbret (q := true) dX9_readsNumber_70 rfl rfl ⟨_, rfl, rfl, hp, hv, ho, hf⟩
  | succ m ih =>
    intro n p v S hn hl hp hpN hv hf ho hz
    have hN := hl.2.1
    rw [rnF] at hz
    by_cases hc : p < N ∧ 48 ≤ L p ∧ L p ≤ 57
    · rw [if_pos hc] at hz
      have he : hereI L N p = nI (L p) := if_pos hc.1
      refine ziload_n dX9_readsNumber_9 rfl ?_
      refine ziload_n dX9_readsNumber_10 rfl ?_
      refine zicmp_ge (tgt := 69) dX9_readsNumber_11 (by decide) (fun h => absurd h (nI_ge (by omega) (by omega))) (fun _ => ?_)
      refine zaload_n dX9_readsNumber_14 rfl ?_
      refine zcVf ob_Mo gk_X9_98 dX9_readsNumber_15 (c_X9_here hl hp (by omega)) rfl (by decide) (Nat.le_of_ble_eq_true rfl) ?_ rfl
      refine zbipush (v := 48) dX9_readsNumber_18 (by decide) ?_
      refine zbipush (v := 57) dX9_readsNumber_20 (by decide) ?_
      refine zcSf  gk_X9_44 dX9_readsNumber_22 (show zF x false mX9_isIn _ S (some (.int (bI (decide (p < N ∧ 48 ≤ L p ∧ L p ≤ 57))))) S from by have h := c_X9_isIn (x := x) (S := S) (u := hereI L N p) (v := 48) (q := 57); rw [hereD hl] at h; exact h) rfl (by decide) (Nat.le_of_ble_eq_true rfl) ?_ rfl
      refine zifb_ne (tgt := 30) dX9_readsNumber_25 (by decide) (fun _ => ?_) (fun h => absurd (h.symm.trans (decide_eq_true hc)) (by decide))
      refine zaload_n dX9_readsNumber_30 rfl ?_
      refine gf_X9_34 rfl dX9_readsNumber_31 ?_
      refine ziload_n dX9_readsNumber_34 rfl ?_
      refine zbipush (v := nI 10) dX9_readsNumber_35 (by decide) ?_
      refine zaload_n dX9_readsNumber_37 rfl ?_
      refine gf_X9_34 rfl dX9_readsNumber_38 ?_
      refine ziload_n dX9_readsNumber_41 rfl ?_
      refine ziald dX9_readsNumber_42 (by decide) rfl (by decide) (by omega) ?_
      rw [hv]
      refine zimul dX9_readsNumber_43 ?_
      rw [pk_mul]
      refine zaload_n dX9_readsNumber_44 rfl ?_
      refine zcVf ob_Mo gk_X9_98 dX9_readsNumber_45 (c_X9_here hl hp (by omega)) rfl (by decide) (Nat.le_of_ble_eq_true rfl) ?_ rfl
      rw [he]
      refine ziadd dX9_readsNumber_48 ?_
      rw [nI_add]
      refine zbipush (v := nI 48) dX9_readsNumber_49 (by decide) ?_
      refine zisub dX9_readsNumber_51 ?_
      rw [pk_sub (by omega), show 10 * v + L p - 48 = 10 * v + (L p - 48) by omega]
      refine ziast dX9_readsNumber_52 (by decide) rfl (by decide) (by omega) ?_
      refine zaload_n dX9_readsNumber_53 rfl ?_
      refine zdup dX9_readsNumber_54 rfl ?_
      refine gf_X9_95 rfl dX9_readsNumber_55 ?_
      rw [show ((u2 S.1 9 k (nI (10 * v + (L p - 48))), S.2) : zSt).2 0 11 = nI p from hp]
      refine ziconst (v := 1) dX9_readsNumber_58 (by decide) ?_
      refine ziadd dX9_readsNumber_59 ?_
      rw [nI_1]
      refine pf_X9_95 rfl dX9_readsNumber_60 ?_
      refine ziinc dX9_readsNumber_63 rfl rfl (by decide) rfl ?_
      refine zgoto (tgt := 9) dX9_readsNumber_66 (by decide) ?_
      refine zlvs (lv' := [(0, .ref (zad x 0)), (1, .int (nI k)), (2, .int (nI d)), (3, .int (nI (n + 1)))]) ⟨rfl, rfl, rfl, by rw [nI_succ n]; rfl, trivial⟩ ?_
      exact ih (n + 1) (p + 1) _ _ (by omega) (hl.fr (frP.rf.num.plc)) plcS (by omega) (by dsimp only; exact u2_self) (hf.num.plc) (fun j hj => by dsimp only; rw [u2_ne (fun y => hj y.2)]; exact ho j hj) hz
    · rw [if_neg hc] at hz
      subst hz
      refine ziload_n dX9_readsNumber_9 rfl ?_
      refine ziload_n dX9_readsNumber_10 rfl ?_
      refine zicmp_ge (tgt := 69) dX9_readsNumber_11 (by decide) (fun h => absurd h (nI_ge (by omega) (by omega))) (fun _ => ?_)
      refine zaload_n dX9_readsNumber_14 rfl ?_
      refine zcVf ob_Mo gk_X9_98 dX9_readsNumber_15 (c_X9_here hl hp (by omega)) rfl (by decide) (Nat.le_of_ble_eq_true rfl) ?_ rfl
      refine zbipush (v := 48) dX9_readsNumber_18 (by decide) ?_
      refine zbipush (v := 57) dX9_readsNumber_20 (by decide) ?_
      refine zcSf  gk_X9_44 dX9_readsNumber_22 (show zF x false mX9_isIn _ S (some (.int (bI (decide (p < N ∧ 48 ≤ L p ∧ L p ≤ 57))))) S from by have h := c_X9_isIn (x := x) (S := S) (u := hereI L N p) (v := 48) (q := 57); rw [hereD hl] at h; exact h) rfl (by decide) (Nat.le_of_ble_eq_true rfl) ?_ rfl
      refine zifb_ne (tgt := 30) dX9_readsNumber_25 (by decide) (fun h => absurd (h.symm.trans (decide_eq_false hc)) (by decide)) (fun _ => ?_)
      refine ziconst (v := 0) dX9_readsNumber_28 (by decide) ?_
      exact zbret (q := false) dX9_readsNumber_29 rfl rfl ⟨_, rfl, rfl, hp, hv, ho, hf⟩
set_option maxRecDepth 100000 in
set_option maxHeartbeats 4000000 in
theorem c_X9_readsNumber {k d p : Nat} (hk : k < 2) (hd : d ≤ 2) (hl : LMo S L N) (hp : S.2 0 11 = nI p) (hpN : p ≤ N) : zR x false mX9_readsNumber [.ref (zad x 0), .int (nI k), .int (nI d)] S (fun r U => r = bI (rnF L N d p 0).1 ∧ U.2 0 11 = nI (rnF L N d p 0).2.1 ∧ U.1 9 k = nI (rnF L N d p 0).2.2 ∧ (∀ j, ¬ j = k → U.1 9 j = S.1 9 j) ∧ frP S U) := by
  refine zC_of (by decide +kernel) (Nat.le_of_ble_eq_true rfl) ?_
  refine zaload_n dX9_readsNumber_0 rfl ?_
  refine gf_X9_34 rfl dX9_readsNumber_1 ?_
  refine ziload_n dX9_readsNumber_4 rfl ?_
  refine ziconst (v := nI 0) dX9_readsNumber_5 (by decide) ?_
  refine ziast dX9_readsNumber_6 (by decide) rfl (by decide) (by omega) ?_
  refine ziconst (v := nI 0) dX9_readsNumber_7 (by decide) ?_
  refine zistore_n dX9_readsNumber_8 (by decide) rfl ?_
  refine zlvs (lv' := [(0, .ref (zad x 0)), (1, .int (nI k)), (2, .int (nI d)), (3, .int (nI 0))]) ⟨rfl, rfl, rfl, rfl, trivial⟩ ?_
  exact l_X9_readsNumber (S0 := S) hk hd d 0 p 0 _ (by omega) (hl.fr frP.rf.num) hp hpN (by dsimp only; exact u2_self) frP.rf.num (fun j hj => by dsimp only; rw [u2_ne (fun y => hj y.2)]) rfl
def kindM (c : Nat) : Int32 := if c = 112 then 0 else if c = 98 then 1 else if c = 109 then 2 else if c = 107 then 3 else if c = 100 then 4 else if c = 103 then 5 else -9
theorem kindM_N {c : Nat} : (0 ≤ kindM c ↔ 0 ≤ kindN c) ∧ (0 ≤ kindN c → kindM c = kindN c) := by
  unfold kindM kindN
  repeat' split
  all_goals first | exact ⟨Iff.rfl, fun _ => rfl⟩ | exact ⟨by decide, fun z => absurd z (by decide)⟩
set_option maxRecDepth 100000 in
set_option maxHeartbeats 4000000 in
theorem c_X9_kindBy {c : Nat} (hc : c < 256) : zF x false mX9_kindBy [.int (nI c)] S (some (.int (kindM c))) S := by
  refine zC_of (by decide +kernel) (Nat.le_of_ble_eq_true rfl) ?_
  by_cases h0 : c = 112
  · subst h0
    refine ziload_n dX9_kindBy_0 rfl ?_
    refine ztableIn (off := 75) (tgt := 76) dX9_kindBy_1 (by decide +kernel) (by decide +kernel) (by decide +kernel) (by decide) ?_
    refine ziconst (v := 0) dX9_kindBy_76 (by decide) ?_
    exact zireturn dX9_kindBy_77 rfl rfl ⟨rfl, rfl⟩
  by_cases h1 : c = 98
  · subst h1
    refine ziload_n dX9_kindBy_0 rfl ?_
    refine ztableIn (off := 77) (tgt := 78) dX9_kindBy_1 (by decide +kernel) (by decide +kernel) (by decide +kernel) (by decide) ?_
    refine ziconst (v := 1) dX9_kindBy_78 (by decide) ?_
    exact zireturn dX9_kindBy_79 rfl rfl ⟨rfl, rfl⟩
  by_cases h2 : c = 109
  · subst h2
    refine ziload_n dX9_kindBy_0 rfl ?_
    refine ztableIn (off := 79) (tgt := 80) dX9_kindBy_1 (by decide +kernel) (by decide +kernel) (by decide +kernel) (by decide) ?_
    refine ziconst (v := 2) dX9_kindBy_80 (by decide) ?_
    exact zireturn dX9_kindBy_81 rfl rfl ⟨rfl, rfl⟩
  by_cases h3 : c = 107
  · subst h3
    refine ziload_n dX9_kindBy_0 rfl ?_
    refine ztableIn (off := 81) (tgt := 82) dX9_kindBy_1 (by decide +kernel) (by decide +kernel) (by decide +kernel) (by decide) ?_
    refine ziconst (v := 3) dX9_kindBy_82 (by decide) ?_
    exact zireturn dX9_kindBy_83 rfl rfl ⟨rfl, rfl⟩
  by_cases h4 : c = 100
  · subst h4
    refine ziload_n dX9_kindBy_0 rfl ?_
    refine ztableIn (off := 83) (tgt := 84) dX9_kindBy_1 (by decide +kernel) (by decide +kernel) (by decide +kernel) (by decide) ?_
    refine ziconst (v := 4) dX9_kindBy_84 (by decide) ?_
    exact zireturn dX9_kindBy_85 rfl rfl ⟨rfl, rfl⟩
  by_cases h5 : c = 103
  · subst h5
    refine ziload_n dX9_kindBy_0 rfl ?_
    refine ztableIn (off := 85) (tgt := 86) dX9_kindBy_1 (by decide +kernel) (by decide +kernel) (by decide +kernel) (by decide) ?_
    refine ziconst (v := 5) dX9_kindBy_86 (by decide) ?_
    exact zireturn dX9_kindBy_87 rfl rfl ⟨rfl, rfl⟩
  have e : kindM c = -9 := by unfold kindM; rw [if_neg h0, if_neg h1, if_neg h2, if_neg h3, if_neg h4, if_neg h5]
  rw [e]
  refine ziload_n dX9_kindBy_0 rfl ?_
  by_cases hr : 98 ≤ c ∧ c ≤ 112
  · rcases (show c = 99 ∨ c = 101 ∨ c = 102 ∨ c = 104 ∨ c = 105 ∨ c = 106 ∨ c = 108 ∨ c = 110 ∨ c = 111 by omega) with rfl | rfl | rfl | rfl | rfl | rfl | rfl | rfl | rfl
    all_goals
      refine ztableIn (off := 87) (tgt := 88) dX9_kindBy_1 (by decide +kernel) (by decide +kernel) (by decide +kernel) (by decide) ?_
      refine zbipush (v := -9) dX9_kindBy_88 (by decide) ?_
      exact zireturn dX9_kindBy_90 rfl rfl ⟨rfl, rfl⟩
  · refine ztableOut (tgt := 88) dX9_kindBy_1 (by rw [nI_toInt (by omega)]; omega) (by decide) ?_
    refine zbipush (v := -9) dX9_kindBy_88 (by decide) ?_
    exact zireturn dX9_kindBy_90 rfl rfl ⟨rfl, rfl⟩
set_option maxRecDepth 100000 in
set_option maxHeartbeats 4000000 in
theorem c_X9_kindBy1 : zF x false mX9_kindBy [.int (-1)] S (some (.int (-9))) S := by
  refine zC_of (by decide +kernel) (Nat.le_of_ble_eq_true rfl) ?_
  refine ziload_n dX9_kindBy_0 rfl ?_
  refine ztableOut (tgt := 88) dX9_kindBy_1 (by decide +kernel) (by decide) ?_
  refine zbipush (v := -9) dX9_kindBy_88 (by decide) ?_
  exact zireturn dX9_kindBy_90 rfl rfl ⟨rfl, rfl⟩
set_option maxRecDepth 100000 in
set_option maxHeartbeats 4000000 in
theorem c_X9_readsKind {p : Nat} (hl : LMo S L N) (hp : S.2 0 11 = nI p) (hpN : p ≤ N) : zR x false mX9_readsKind [.ref (zad x 0)] S (fun r U => r = bI (decide (p < N ∧ 0 ≤ kindN (L p))) ∧ (p < N ∧ 0 ≤ kindN (L p) → U.2 0 11 = nI (p + 1) ∧ U.1 9 0 = kindN (L p)) ∧ (¬ (p < N ∧ 0 ≤ kindN (L p)) → U.2 0 11 = nI p) ∧ frP S U) := by
  have hN := hl.2.1
  refine zC_of (by decide +kernel) (Nat.le_of_ble_eq_true rfl) ?_
  by_cases h1 : p < N
  · have he : hereI L N p = nI (L p) := if_pos h1
    have hc := (hl.2.2 p h1).2
    by_cases h2 : 0 ≤ kindN (L p)
    · rw [decide_eq_true (show p < N ∧ 0 ≤ kindN (L p) from ⟨h1, h2⟩)]
      have h3 := kindM_N.1.mpr h2
      have h4 := kindM_N.2 h2
      refine zaload_n dX9_readsKind_0 rfl ?_
      refine gf_X9_34 rfl dX9_readsKind_1 ?_
      refine ziconst (v := nI 0) dX9_readsKind_4 (by decide) ?_
      refine zaload_n dX9_readsKind_5 rfl ?_
      refine zcVf ob_Mo gk_X9_98 dX9_readsKind_6 (c_X9_here hl hp (by omega)) rfl (by decide) (Nat.le_of_ble_eq_true rfl) ?_ rfl
      rw [he]
      refine zcSf  gk_X9_102 dX9_readsKind_9 (c_X9_kindBy hc) rfl (by decide) (Nat.le_of_ble_eq_true rfl) ?_ rfl
      refine ziast dX9_readsKind_12 (by decide) rfl (by decide) (by omega) ?_
      refine zaload_n dX9_readsKind_13 rfl ?_
      refine zdup dX9_readsKind_14 rfl ?_
      refine gf_X9_95 rfl dX9_readsKind_15 ?_
      rw [show ((u2 S.1 9 0 (kindM (L p)), S.2) : zSt).2 0 11 = nI p from hp]
      refine zaload_n dX9_readsKind_18 rfl ?_
      refine gf_X9_34 rfl dX9_readsKind_19 ?_
      refine ziconst (v := nI 0) dX9_readsKind_22 (by decide) ?_
      refine ziald dX9_readsKind_23 (by decide) rfl (by decide) (by omega) ?_
      rw [show ((u2 S.1 9 0 (kindM (L p)), S.2) : zSt).1 9 0 = (kindM (L p)) from by dsimp only; exact u2_self]
      refine zif_ge (tgt := 31) dX9_readsKind_24 (by decide) (fun _ => ?_) (fun h => absurd h3 h)
      refine ziconst (v := 1) dX9_readsKind_31 (by decide) ?_
      refine ziadd dX9_readsKind_32 ?_
      refine pf_X9_95 rfl dX9_readsKind_33 ?_
      refine zaload_n dX9_readsKind_36 rfl ?_
      refine gf_X9_34 rfl dX9_readsKind_37 ?_
      refine ziconst (v := nI 0) dX9_readsKind_40 (by decide) ?_
      refine ziald dX9_readsKind_41 (by decide) rfl (by decide) (by omega) ?_
      refine zsi (c := (kindM (L p))) (by dsimp only; exact u2_self) ?_
      refine zif_lt (tgt := 49) dX9_readsKind_42 (by decide) (fun h => absurd h (Int32.not_lt.mpr h3)) (fun _ => ?_)
      refine ziconst (v := 1) dX9_readsKind_45 (by decide) ?_
      refine zgoto (tgt := 50) dX9_readsKind_46 (by decide) ?_
      exact zbret (q := true) dX9_readsKind_50 rfl rfl ⟨_, rfl, rfl, fun _ => ⟨by show u2 S.2 0 11 (nI p + 1) 0 11 = _; rw [u2_self, nI_1], by show u2 S.1 9 0 (kindM (L p)) 9 0 = _; rw [u2_self, h4]⟩, fun z => absurd ⟨h1, h2⟩ z, frP.rf.num.plc⟩
    · rw [decide_eq_false (show ¬ (p < N ∧ 0 ≤ kindN (L p)) from fun z => h2 z.2)]
      have h3 : ¬ 0 ≤ kindM (L p) := fun z => h2 (kindM_N.1.mp z)
      refine zaload_n dX9_readsKind_0 rfl ?_
      refine gf_X9_34 rfl dX9_readsKind_1 ?_
      refine ziconst (v := nI 0) dX9_readsKind_4 (by decide) ?_
      refine zaload_n dX9_readsKind_5 rfl ?_
      refine zcVf ob_Mo gk_X9_98 dX9_readsKind_6 (c_X9_here hl hp (by omega)) rfl (by decide) (Nat.le_of_ble_eq_true rfl) ?_ rfl
      rw [he]
      refine zcSf  gk_X9_102 dX9_readsKind_9 (c_X9_kindBy hc) rfl (by decide) (Nat.le_of_ble_eq_true rfl) ?_ rfl
      refine ziast dX9_readsKind_12 (by decide) rfl (by decide) (by omega) ?_
      refine zaload_n dX9_readsKind_13 rfl ?_
      refine zdup dX9_readsKind_14 rfl ?_
      refine gf_X9_95 rfl dX9_readsKind_15 ?_
      rw [show ((u2 S.1 9 0 (kindM (L p)), S.2) : zSt).2 0 11 = nI p from hp]
      refine zaload_n dX9_readsKind_18 rfl ?_
      refine gf_X9_34 rfl dX9_readsKind_19 ?_
      refine ziconst (v := nI 0) dX9_readsKind_22 (by decide) ?_
      refine ziald dX9_readsKind_23 (by decide) rfl (by decide) (by omega) ?_
      rw [show ((u2 S.1 9 0 (kindM (L p)), S.2) : zSt).1 9 0 = (kindM (L p)) from by dsimp only; exact u2_self]
      refine zif_ge (tgt := 31) dX9_readsKind_24 (by decide) (fun h => absurd h h3) (fun _ => ?_)
      refine ziconst (v := 0) dX9_readsKind_27 (by decide) ?_
      refine zgoto (tgt := 32) dX9_readsKind_28 (by decide) ?_
      refine ziadd dX9_readsKind_32 ?_
      refine pf_X9_95 rfl dX9_readsKind_33 ?_
      refine zaload_n dX9_readsKind_36 rfl ?_
      refine gf_X9_34 rfl dX9_readsKind_37 ?_
      refine ziconst (v := nI 0) dX9_readsKind_40 (by decide) ?_
      refine ziald dX9_readsKind_41 (by decide) rfl (by decide) (by omega) ?_
      refine zsi (c := (kindM (L p))) (by dsimp only; exact u2_self) ?_
      refine zif_lt (tgt := 49) dX9_readsKind_42 (by decide) (fun _ => ?_) (fun h => absurd (Int32.not_le.mp h3) h)
      refine ziconst (v := 0) dX9_readsKind_49 (by decide) ?_
      exact zbret (q := false) dX9_readsKind_50 rfl rfl ⟨_, rfl, rfl, fun z => absurd z.2 h2, fun _ => by show u2 S.2 0 11 (nI p + 0) 0 11 = _; rw [u2_self, Int32.add_zero], frP.rf.num.plc⟩
  · have he : hereI L N p = -1 := if_neg h1
    rw [decide_eq_false (show ¬ (p < N ∧ 0 ≤ kindN (L p)) from fun z => h1 z.1)]
    refine zaload_n dX9_readsKind_0 rfl ?_
    refine gf_X9_34 rfl dX9_readsKind_1 ?_
    refine ziconst (v := nI 0) dX9_readsKind_4 (by decide) ?_
    refine zaload_n dX9_readsKind_5 rfl ?_
    refine zcVf ob_Mo gk_X9_98 dX9_readsKind_6 (c_X9_here hl hp (by omega)) rfl (by decide) (Nat.le_of_ble_eq_true rfl) ?_ rfl
    rw [he]
    refine zcSf  gk_X9_102 dX9_readsKind_9 c_X9_kindBy1 rfl (by decide) (Nat.le_of_ble_eq_true rfl) ?_ rfl
    refine ziast dX9_readsKind_12 (by decide) rfl (by decide) (by omega) ?_
    refine zaload_n dX9_readsKind_13 rfl ?_
    refine zdup dX9_readsKind_14 rfl ?_
    refine gf_X9_95 rfl dX9_readsKind_15 ?_
    rw [show ((u2 S.1 9 0 (-9), S.2) : zSt).2 0 11 = nI p from hp]
    refine zaload_n dX9_readsKind_18 rfl ?_
    refine gf_X9_34 rfl dX9_readsKind_19 ?_
    refine ziconst (v := nI 0) dX9_readsKind_22 (by decide) ?_
    refine ziald dX9_readsKind_23 (by decide) rfl (by decide) (by omega) ?_
    rw [show ((u2 S.1 9 0 (-9), S.2) : zSt).1 9 0 = (-9) from by dsimp only; exact u2_self]
    refine zif_ge (tgt := 31) dX9_readsKind_24 (by decide) (fun h => absurd h (by decide)) (fun _ => ?_)
    refine ziconst (v := 0) dX9_readsKind_27 (by decide) ?_
    refine zgoto (tgt := 32) dX9_readsKind_28 (by decide) ?_
    refine ziadd dX9_readsKind_32 ?_
    refine pf_X9_95 rfl dX9_readsKind_33 ?_
    refine zaload_n dX9_readsKind_36 rfl ?_
    refine gf_X9_34 rfl dX9_readsKind_37 ?_
    refine ziconst (v := nI 0) dX9_readsKind_40 (by decide) ?_
    refine ziald dX9_readsKind_41 (by decide) rfl (by decide) (by omega) ?_
    refine zsi (c := (-9)) (by dsimp only; exact u2_self) ?_
    refine zif_lt (tgt := 49) dX9_readsKind_42 (by decide) (fun _ => ?_) (fun h => absurd (by decide) h)
    refine ziconst (v := 0) dX9_readsKind_49 (by decide) ?_
    exact zbret (q := false) dX9_readsKind_50 rfl rfl ⟨_, rfl, rfl, fun z => absurd z.1 h1, fun _ => by show u2 S.2 0 11 (nI p + 0) 0 11 = _; rw [u2_self, Int32.add_zero], frP.rf.num.plc⟩
end TELL3
