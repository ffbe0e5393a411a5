/-! The telling, in the reference: a statement -/
section TELL4
variable {x : zCx} {S : zSt} {σ σ' : Sig} {L : Nat → Nat} {N : Nat} {t : Tau}
theorem fit48i {c : Nat} : fitB c 48 = true ↔ 48 ≤ c ∧ c ≤ 57 := by
  unfold fitB
  rw [if_pos rfl]
  exact decide_eq_true_iff
theorem fit107i {c : Nat} : fitB c 107 = true ↔ 0 ≤ kindN c := by
  unfold fitB
  rw [if_neg (by decide), if_pos rfl]
  exact decide_eq_true_iff
theorem fit59i {c : Nat} : fitB c 59 = true ↔ nI c = 59 := by
  unfold fitB
  rw [if_neg (by decide), if_neg (by decide)]
  exact decide_eq_true_iff
theorem mt_rn {i : Nat} (k : Nat) : ∀ (d s p v : Nat), (∀ j, j < d → due i (s + j) = 48) → mt L N i (k + d) s p = if (rnF L N d p v).1 = true then mt L N i k (s + d) (rnF L N d p v).2.1 else (false, (rnF L N d p v).2.1) := by
  intro d
  induction d with
  | zero => intro s p v h; rfl
  | succ d ih =>
    intro s p v h
    have h0 := h 0 (by omega)
    rw [Nat.add_zero] at h0
    rw [show k + (d + 1) = (k + d) + 1 by omega, mt, rnF, h0]
    by_cases hc : p < N ∧ 48 ≤ L p ∧ L p ≤ 57
    · rw [if_pos (show p < N ∧ fitB (L p) 48 = true from ⟨hc.1, fit48i.mpr hc.2⟩), if_pos hc, ih (s + 1) (p + 1) (10 * v + (L p - 48)) (fun j hj => by rw [show s + 1 + j = s + (j + 1) by omega]; exact h (j + 1) (by omega)), show s + 1 + d = s + (d + 1) by omega]
    · rw [if_neg (show ¬ (p < N ∧ fitB (L p) 48 = true) from fun z => hc ⟨z.1, fit48i.mp z.2⟩), if_neg hc, if_neg Bool.false_ne_true]
theorem mt_k {i k s p : Nat} (h : due i s = 107) : mt L N i (k + 1) s p = if p < N ∧ 0 ≤ kindN (L p) then mt L N i k (s + 1) (p + 1) else (false, p) := by
  rw [mt, h]
  by_cases hc : p < N ∧ 0 ≤ kindN (L p)
  · rw [if_pos (show p < N ∧ fitB (L p) 107 = true from ⟨hc.1, fit107i.mpr hc.2⟩), if_pos hc]
  · rw [if_neg (show ¬ (p < N ∧ fitB (L p) 107 = true) from fun z => hc ⟨z.1, fit107i.mp z.2⟩), if_neg hc]
theorem mt_s {i s p : Nat} (h : due i s = 59) : mt L N i 1 s p = if p < N ∧ nI (L p) = 59 then (true, p + 1) else (false, p) := by
  rw [mt, h]
  by_cases hc : p < N ∧ nI (L p) = 59
  · rw [if_pos (show p < N ∧ fitB (L p) 59 = true from ⟨hc.1, fit59i.mpr hc.2⟩), if_pos hc]
    rfl
  · rw [if_neg (show ¬ (p < N ∧ fitB (L p) 59 = true) from fun z => hc ⟨z.1, fit59i.mp z.2⟩), if_neg hc]
theorem d48_1 {i s : Nat} (h : due i s = 48) : ∀ j, j < 1 → due i (s + j) = 48 := fun j hj => by rw [show j = 0 by omega]; exact h
theorem d48_2 {i s : Nat} (h : due i s = 48) (h' : due i (s + 1) = 48) : ∀ j, j < 2 → due i (s + j) = 48 := fun j hj => by
  rcases (show j = 0 ∨ j = 1 by omega) with rfl | rfl
  · exact h
  · exact h'
theorem rn1 {q : Nat} (h : (rnF L N 1 q 0).1 = true) : rnF L N 1 q 0 = (true, q + 1, L q - 48) ∧ q < N := by
  rw [rnF] at h ⊢
  by_cases hc : q < N ∧ 48 ≤ L q ∧ L q ≤ 57
  · rw [if_pos hc]
    refine ⟨?_, hc.1⟩
    rw [rnF, Nat.mul_zero, Nat.zero_add]
  · rw [if_neg hc] at h; exact absurd h Bool.false_ne_true
theorem rn2 {q : Nat} (h : (rnF L N 2 q 0).1 = true) : rnF L N 2 q 0 = (true, q + 2, 10 * (L q - 48) + (L (q + 1) - 48)) ∧ q + 1 < N := by
  rw [rnF] at h ⊢
  by_cases hc : q < N ∧ 48 ≤ L q ∧ L q ≤ 57
  · rw [if_pos hc] at h ⊢
    rw [rnF] at h ⊢
    by_cases hd : q + 1 < N ∧ 48 ≤ L (q + 1) ∧ L (q + 1) ≤ 57
    · rw [if_pos hd]
      refine ⟨?_, hd.1⟩
      rw [rnF, Nat.mul_zero, Nat.zero_add]
    · rw [if_neg hd] at h; exact absurd h Bool.false_ne_true
  · rw [if_neg hc] at h; exact absurd h Bool.false_ne_true
def numsOk (L : Nat → Nat) (p : Nat) (f : Nat → Int32) : Prop :=
  (L p = 112 → f 0 = kindN (L (p + 1)) ∧ f 1 = nI (L (p + 2) - 48)) ∧ (L p = 107 ∨ L p = 108 → f 0 = nI (L (p + 1) - 48) ∧ f 1 = nI (L (p + 2) - 48)) ∧ (L p = 98 → f 0 = nI (L (p + 1) - 48)) ∧
  (L p = 102 → f 0 = nI (L (p + 1) - 48) ∧ f 1 = nI (10 * (L (p + 2) - 48) + (L (p + 3) - 48))) ∧ (L p = 109 → f 0 = nI (10 * (L (p + 1) - 48) + (L (p + 2) - 48)))
def rsP (L : Nat → Nat) (N p : Nat) (S : zSt) : Option Value → zSt → Prop := fun q U => ∃ v : Int32, q = some (.int v) ∧ v = bI (rsF L N p).1 ∧ U.2 0 11 = nI (rsF L N p).2 ∧ frP S U ∧ ((rsF L N p).1 = true → numsOk L p (U.1 9))
theorem rsP_f {p q : Nat} {S0 : zSt} (h : rsF L N p = (false, q)) (hp : S.2 0 11 = nI q) (hf : frP S0 S) : rsP L N p S0 (some (.int (bI false))) S := ⟨_, rfl, by rw [h], by rw [h]; exact hp, hf, fun z => by rw [h] at z; exact absurd z Bool.false_ne_true⟩
theorem rsP_t {p q : Nat} {S0 : zSt} (h : rsF L N p = (true, q + 1)) (hf : frP S0 S) (hn : numsOk L p (S.1 9)) : rsP L N p S0 (some (.int (bI true))) (S.1, u2 S.2 0 11 (nI (q + 1))) := ⟨_, rfl, by rw [h], by rw [h]; exact plcS, hf.plc, fun _ => hn⟩
theorem numsOk_p {p : Nat} {f : Nat → Int32} (hc : L p = 112) (h0 : f 0 = kindN (L (p + 1))) (h1 : f 1 = nI (L (p + 2) - 48)) : numsOk L p f := ⟨fun _ => ⟨h0, h1⟩, fun z => by omega, fun z => by omega, fun z => by omega, fun z => by omega⟩
theorem numsOk_2 {p : Nat} {f : Nat → Int32} (hc : L p = 107 ∨ L p = 108) (h0 : f 0 = nI (L (p + 1) - 48)) (h1 : f 1 = nI (L (p + 2) - 48)) : numsOk L p f := ⟨fun z => by omega, fun _ => ⟨h0, h1⟩, fun z => by omega, fun z => by omega, fun z => by omega⟩
theorem numsOk_b {p : Nat} {f : Nat → Int32} (hc : L p = 98) (h0 : f 0 = nI (L (p + 1) - 48)) : numsOk L p f := ⟨fun z => by omega, fun z => by omega, fun _ => h0, fun z => by omega, fun z => by omega⟩
theorem numsOk_f {p : Nat} {f : Nat → Int32} (hc : L p = 102) (h0 : f 0 = nI (L (p + 1) - 48)) (h1 : f 1 = nI (10 * (L (p + 2) - 48) + (L (p + 3) - 48))) : numsOk L p f := ⟨fun z => by omega, fun z => by omega, fun z => by omega, fun _ => ⟨h0, h1⟩, fun z => by omega⟩
theorem numsOk_m {p : Nat} {f : Nat → Int32} (hc : L p = 109) (h0 : f 0 = nI (10 * (L (p + 1) - 48) + (L (p + 2) - 48))) : numsOk L p f := ⟨fun z => by omega, fun z => by omega, fun z => by omega, fun z => by omega, fun _ => h0⟩
theorem rsF_h {p i : Nat} (hp : p < N) (hi : shp (L p) = i) (h0 : ¬ sln i = 0) : rsF L N p = mt L N i (sln i) 0 (p + 1) := by unfold rsF; rw [hi, if_pos ⟨hp, h0⟩]
theorem here59 {q : Nat} (hl : LMo S L N) : hereI L N q = 59 ↔ q < N ∧ nI (L q) = 59 := by
  unfold hereI
  by_cases h : q < N
  · rw [if_pos h]; exact ⟨fun z => ⟨h, z⟩, fun z => z.2⟩
  · rw [if_neg h]; exact ⟨fun z => absurd z (by decide), fun z => absurd z.1 h⟩

set_option maxRecDepth 100000 in
set_option maxHeartbeats 4000000 in
theorem l_tailF {P : Option Value → zSt → Prop} (h : P (some (.int (bI false))) S) : zZ x false mX9_readsStatement P 203 [(0, .ref (zad x 0)), (2, .int (bI false))] [] S := by
  refine ziload_n dX9_readsStatement_203 rfl ?_
  refine zifb_eq (tgt := 216) dX9_readsStatement_204 (by decide) (fun _ => ?_) (fun h => absurd (h.symm.trans rfl) (by decide))
  refine ziconst (v := 0) dX9_readsStatement_216 (by decide) ?_
  exact zbret (q := false) dX9_readsStatement_217 rfl rfl h
set_option maxRecDepth 100000 in
set_option maxHeartbeats 4000000 in
theorem l_tailT {q : Nat} {P : Option Value → zSt → Prop} (hl : LMo S L N) (hq : S.2 0 11 = nI q) (hqN : q ≤ N) (hn : ¬ (q < N ∧ nI (L q) = 59) → P (some (.int (bI false))) S) (hy : q < N ∧ nI (L q) = 59 → P (some (.int (bI true))) (S.1, u2 S.2 0 11 (nI (q + 1)))) : zZ x false mX9_readsStatement P 203 [(0, .ref (zad x 0)), (2, .int (bI true))] [] S := by
  have hN := hl.2.1
  by_cases hc : q < N ∧ nI (L q) = 59
  · refine ziload_n dX9_readsStatement_203 rfl ?_
    refine zifb_eq (tgt := 216) dX9_readsStatement_204 (by decide) (fun h => absurd (h.symm.trans rfl) (by decide)) (fun _ => ?_)
    refine zaload_n dX9_readsStatement_207 rfl ?_
    refine zcVf ob_Mo gk_X9_98 dX9_readsStatement_208 (c_X9_here hl hq (by omega)) rfl (by decide) (Nat.le_of_ble_eq_true rfl) ?_ rfl
    refine zbipush (v := 59) dX9_readsStatement_211 (by decide) ?_
    refine zicmp_eq (tgt := 218) dX9_readsStatement_213 (by decide) (fun _ => ?_) (fun h => absurd ((here59 hl).mpr hc) h)
    refine zaload_n dX9_readsStatement_218 rfl ?_
    refine zdup dX9_readsStatement_219 rfl ?_
    refine gf_X9_95 rfl dX9_readsStatement_220 ?_
    rw [hq]
    refine ziconst (v := 1) dX9_readsStatement_223 (by decide) ?_
    refine ziadd dX9_readsStatement_224 ?_
    rw [nI_1]
    refine pf_X9_95 rfl dX9_readsStatement_225 ?_
    refine ziconst (v := 1) dX9_readsStatement_228 (by decide) ?_
    exact zbret (q := true) dX9_readsStatement_229 rfl rfl (hy hc)
  · refine ziload_n dX9_readsStatement_203 rfl ?_
    refine zifb_eq (tgt := 216) dX9_readsStatement_204 (by decide) (fun h => absurd (h.symm.trans rfl) (by decide)) (fun _ => ?_)
    refine zaload_n dX9_readsStatement_207 rfl ?_
    refine zcVf ob_Mo gk_X9_98 dX9_readsStatement_208 (c_X9_here hl hq (by omega)) rfl (by decide) (Nat.le_of_ble_eq_true rfl) ?_ rfl
    refine zbipush (v := 59) dX9_readsStatement_211 (by decide) ?_
    refine zicmp_eq (tgt := 218) dX9_readsStatement_213 (by decide) (fun h => absurd h (fun z => hc ((here59 hl).mp z))) (fun _ => ?_)
    refine ziconst (v := 0) dX9_readsStatement_216 (by decide) ?_
    exact zbret (q := false) dX9_readsStatement_217 rfl rfl (hn hc)
set_option maxRecDepth 100000 in
set_option maxHeartbeats 4000000 in
theorem c_X9_readsStatement {p : Nat} (hl : LMo S L N) (hp : S.2 0 11 = nI p) (hpN : p ≤ N) : zC x false mX9_readsStatement [.ref (zad x 0)] S (rsP L N p S) := by
  have hN := hl.2.1
  refine zC_of (by decide +kernel) (Nat.le_of_ble_eq_true rfl) ?_
  by_cases hpl : p < N
  · have he : hereI L N p = nI (L p) := if_pos hpl
    have hLp := (hl.2.2 p hpl).2
    by_cases hz : sln (shp (L p)) = 0
    · have hrs : rsF L N p = (false, p) := by unfold rsF; rw [if_neg (fun z => z.2 hz)]
      by_cases hr : 98 ≤ L p ∧ L p ≤ 112
      · have hno : L p = 99 ∨ L p = 100 ∨ L p = 101 ∨ L p = 103 ∨ L p = 104 ∨ L p = 105 ∨ L p = 106 ∨ L p = 110 ∨ L p = 111 := by
          have h1 : ∀ c : Nat, (c = 98 ∨ c = 102 ∨ c = 107 ∨ c = 108 ∨ c = 109 ∨ c = 112) → ¬ sln (shp c) = 0 := by
            intro c hc
            rcases hc with rfl | rfl | rfl | rfl | rfl | rfl <;> decide
          have h2 : ¬ (L p = 98 ∨ L p = 102 ∨ L p = 107 ∨ L p = 108 ∨ L p = 109 ∨ L p = 112) := fun z => h1 (L p) z hz
          omega
        rcases hno with hc | hc | hc | hc | hc | hc | hc | hc | hc
        all_goals
          refine zaload_n dX9_readsStatement_0 rfl ?_
          refine zcVf ob_Mo gk_X9_98 dX9_readsStatement_1 (c_X9_here hl hp (by omega)) rfl (by decide) (Nat.le_of_ble_eq_true rfl) ?_ rfl
          refine zistore_n dX9_readsStatement_4 (by decide) rfl ?_
          refine zaload_n dX9_readsStatement_5 rfl ?_
          refine zdup dX9_readsStatement_6 rfl ?_
          refine gf_X9_95 rfl dX9_readsStatement_7 ?_
          rw [hp]
          refine ziconst (v := 1) dX9_readsStatement_10 (by decide) ?_
          refine ziadd dX9_readsStatement_11 ?_
          rw [nI_1]
          refine pf_X9_95 rfl dX9_readsStatement_12 ?_
          have hl1 := hl.fr (frP.rf.plc (v := nI (p + 1)))
          have hp1 : ((S.1, u2 S.2 0 11 (nI (p + 1))) : zSt).2 0 11 = nI (p + 1) := plcS
          have hf1 : frP S (S.1, u2 S.2 0 11 (nI (p + 1))) := frP.rf.plc
          refine ziload_n dX9_readsStatement_15 rfl ?_
          rw [he, hc]
          refine ztableIn (off := 175) (tgt := 191) dX9_readsStatement_16 (by decide +kernel) (by decide +kernel) (by decide +kernel) (by decide) ?_
          refine zaload_n dX9_readsStatement_191 rfl ?_
          refine zdup dX9_readsStatement_192 rfl ?_
          refine gf_X9_95 rfl dX9_readsStatement_193 ?_
          rw [hp1]
          refine ziconst (v := 1) dX9_readsStatement_196 (by decide) ?_
          refine zisub dX9_readsStatement_197 ?_
          rw [nI_pred]
          refine pf_X9_95 rfl dX9_readsStatement_198 ?_
          refine ziconst (v := 0) dX9_readsStatement_201 (by decide) ?_
          exact zbret (q := false) dX9_readsStatement_202 rfl rfl (rsP_f hrs plcS frP.rf.plc.plc)
      · refine zaload_n dX9_readsStatement_0 rfl ?_
        refine zcVf ob_Mo gk_X9_98 dX9_readsStatement_1 (c_X9_here hl hp (by omega)) rfl (by decide) (Nat.le_of_ble_eq_true rfl) ?_ rfl
        refine zistore_n dX9_readsStatement_4 (by decide) rfl ?_
        refine zaload_n dX9_readsStatement_5 rfl ?_
        refine zdup dX9_readsStatement_6 rfl ?_
        refine gf_X9_95 rfl dX9_readsStatement_7 ?_
        rw [hp]
        refine ziconst (v := 1) dX9_readsStatement_10 (by decide) ?_
        refine ziadd dX9_readsStatement_11 ?_
        rw [nI_1]
        refine pf_X9_95 rfl dX9_readsStatement_12 ?_
        have hl1 := hl.fr (frP.rf.plc (v := nI (p + 1)))
        have hp1 : ((S.1, u2 S.2 0 11 (nI (p + 1))) : zSt).2 0 11 = nI (p + 1) := plcS
        have hf1 : frP S (S.1, u2 S.2 0 11 (nI (p + 1))) := frP.rf.plc
        refine ziload_n dX9_readsStatement_15 rfl ?_
        rw [he]
        refine ztableOut (tgt := 191) dX9_readsStatement_16 (by rw [nI_toInt (by omega)]; omega) (by decide) ?_
        refine zaload_n dX9_readsStatement_191 rfl ?_
        refine zdup dX9_readsStatement_192 rfl ?_
        refine gf_X9_95 rfl dX9_readsStatement_193 ?_
        rw [hp1]
        refine ziconst (v := 1) dX9_readsStatement_196 (by decide) ?_
        refine zisub dX9_readsStatement_197 ?_
        rw [nI_pred]
        refine pf_X9_95 rfl dX9_readsStatement_198 ?_
        refine ziconst (v := 0) dX9_readsStatement_201 (by decide) ?_
        exact zbret (q := false) dX9_readsStatement_202 rfl rfl (rsP_f hrs plcS frP.rf.plc.plc)
    · rcases heads hz with hc | hc | hc | hc | hc | hc
      · have hrs0 : rsF L N p = mt L N 2 3 0 (p + 1) := rsF_h hpl (by rw [hc]; decide) (by decide)
        by_cases hk : p + 1 < N ∧ 0 ≤ kindN (L (p + 1))
        · have hrs1 : rsF L N p = mt L N 2 (1 + 1) 1 (p + 2) := by rw [hrs0, mt_k rfl, if_pos hk]
          cases hb : (rnF L N 1 (p + 2) 0).1 with
          | true =>
            obtain ⟨e1, e2⟩ := rn1 hb
            have hrs2 : rsF L N p = mt L N 2 1 2 (p + 3) := by rw [hrs1, mt_rn 1 1 1 (p + 2) 0 (d48_1 rfl), if_pos hb, e1]
            refine zaload_n dX9_readsStatement_0 rfl ?_
            refine zcVf ob_Mo gk_X9_98 dX9_readsStatement_1 (c_X9_here hl hp (by omega)) rfl (by decide) (Nat.le_of_ble_eq_true rfl) ?_ rfl
            refine zistore_n dX9_readsStatement_4 (by decide) rfl ?_
            refine zaload_n dX9_readsStatement_5 rfl ?_
            refine zdup dX9_readsStatement_6 rfl ?_
            refine gf_X9_95 rfl dX9_readsStatement_7 ?_
            rw [hp]
            refine ziconst (v := 1) dX9_readsStatement_10 (by decide) ?_
            refine ziadd dX9_readsStatement_11 ?_
            rw [nI_1]
            refine pf_X9_95 rfl dX9_readsStatement_12 ?_
            have hl1 := hl.fr (frP.rf.plc (v := nI (p + 1)))
            have hp1 : ((S.1, u2 S.2 0 11 (nI (p + 1))) : zSt).2 0 11 = nI (p + 1) := plcS
            have hf1 : frP S (S.1, u2 S.2 0 11 (nI (p + 1))) := frP.rf.plc
            refine ziload_n dX9_readsStatement_15 rfl ?_
            rw [he, hc]
            refine ztableIn (off := 76) (tgt := 92) dX9_readsStatement_16 (by decide +kernel) (by decide +kernel) (by decide +kernel) (by decide) ?_
            refine zaload_n dX9_readsStatement_92 rfl ?_
            refine zcVr ob_Mo gk_X9_105 dX9_readsStatement_93 (c_X9_readsKind hl1 hp1 (by omega)) rfl (by decide) (Nat.le_of_ble_eq_true rfl) (fun r2 S2 hp2 => ?_) rfl
            obtain ⟨rfl, hk1, hk2, hf2⟩ := hp2
            have hl2 := hl1.fr hf2
            refine zifb_eq (tgt := 112) dX9_readsStatement_96 (by decide) (fun h => absurd (h.symm.trans (decide_eq_true hk)) (by decide)) (fun _ => ?_)
            refine zaload_n dX9_readsStatement_99 rfl ?_
            refine ziconst (v := nI 1) dX9_readsStatement_100 (by decide) ?_
            refine ziconst (v := nI 1) dX9_readsStatement_101 (by decide) ?_
            refine zcVr ob_Mo gk_X9_109 dX9_readsStatement_102 (c_X9_readsNumber (k := 1) (d := 1) (by decide) (by decide) hl2 (hk1 hk).1 (by omega)) rfl (by decide) (Nat.le_of_ble_eq_true rfl) (fun r3 S3 hp3 => ?_) rfl
            obtain ⟨rfl, hq3, hv3, ho3, hf3⟩ := hp3
            have hl3 := hl2.fr hf3
            refine zifb_eq (tgt := 112) dX9_readsStatement_105 (by decide) (fun h => absurd (h.symm.trans hb) (by decide)) (fun _ => ?_)
            refine ziconst (v := 1) dX9_readsStatement_108 (by decide) ?_
            refine zgoto (tgt := 113) dX9_readsStatement_109 (by decide) ?_
            refine zistore_n dX9_readsStatement_113 (by decide) rfl ?_
            refine zgoto (tgt := 203) dX9_readsStatement_114 (by decide) ?_
            refine zlvs (lv' := [(0, .ref (zad x 0)), (2, .int (bI true))]) ⟨rfl, rfl, trivial⟩ ?_
            rw [e1] at hq3 hv3
            exact l_tailT (q := p + 3) hl3 hq3 (by omega) (fun z => rsP_f (q := p + 3) (by rw [hrs2, mt_s rfl, if_neg z]) hq3 ((hf1.trans hf2).trans hf3)) (fun z => rsP_t (q := p + 3) (by rw [hrs2, mt_s rfl, if_pos z]) ((hf1.trans hf2).trans hf3) (numsOk_p hc ((ho3 0 (by decide)).trans (hk1 hk).2) hv3))
          | false =>
            have hrs2 : rsF L N p = (false, (rnF L N 1 (p + 2) 0).2.1) := by rw [hrs1, mt_rn 1 1 1 (p + 2) 0 (d48_1 rfl), if_neg (by rw [hb]; decide)]
            refine zaload_n dX9_readsStatement_0 rfl ?_
            refine zcVf ob_Mo gk_X9_98 dX9_readsStatement_1 (c_X9_here hl hp (by omega)) rfl (by decide) (Nat.le_of_ble_eq_true rfl) ?_ rfl
            refine zistore_n dX9_readsStatement_4 (by decide) rfl ?_
            refine zaload_n dX9_readsStatement_5 rfl ?_
            refine zdup dX9_readsStatement_6 rfl ?_
            refine gf_X9_95 rfl dX9_readsStatement_7 ?_
            rw [hp]
            refine ziconst (v := 1) dX9_readsStatement_10 (by decide) ?_
            refine ziadd dX9_readsStatement_11 ?_
            rw [nI_1]
            refine pf_X9_95 rfl dX9_readsStatement_12 ?_
            have hl1 := hl.fr (frP.rf.plc (v := nI (p + 1)))
            have hp1 : ((S.1, u2 S.2 0 11 (nI (p + 1))) : zSt).2 0 11 = nI (p + 1) := plcS
            have hf1 : frP S (S.1, u2 S.2 0 11 (nI (p + 1))) := frP.rf.plc
            refine ziload_n dX9_readsStatement_15 rfl ?_
            rw [he, hc]
            refine ztableIn (off := 76) (tgt := 92) dX9_readsStatement_16 (by decide +kernel) (by decide +kernel) (by decide +kernel) (by decide) ?_
            refine zaload_n dX9_readsStatement_92 rfl ?_
            refine zcVr ob_Mo gk_X9_105 dX9_readsStatement_93 (c_X9_readsKind hl1 hp1 (by omega)) rfl (by decide) (Nat.le_of_ble_eq_true rfl) (fun r2 S2 hp2 => ?_) rfl
            obtain ⟨rfl, hk1, hk2, hf2⟩ := hp2
            have hl2 := hl1.fr hf2
            refine zifb_eq (tgt := 112) dX9_readsStatement_96 (by decide) (fun h => absurd (h.symm.trans (decide_eq_true hk)) (by decide)) (fun _ => ?_)
            refine zaload_n dX9_readsStatement_99 rfl ?_
            refine ziconst (v := nI 1) dX9_readsStatement_100 (by decide) ?_
            refine ziconst (v := nI 1) dX9_readsStatement_101 (by decide) ?_
            refine zcVr ob_Mo gk_X9_109 dX9_readsStatement_102 (c_X9_readsNumber (k := 1) (d := 1) (by decide) (by decide) hl2 (hk1 hk).1 (by omega)) rfl (by decide) (Nat.le_of_ble_eq_true rfl) (fun r3 S3 hp3 => ?_) rfl
            obtain ⟨rfl, hq3, hv3, ho3, hf3⟩ := hp3
            have hl3 := hl2.fr hf3
            refine zifb_eq (tgt := 112) dX9_readsStatement_105 (by decide) (fun _ => ?_) (fun h => absurd (h.symm.trans hb) (by decide))
            refine ziconst (v := 0) dX9_readsStatement_112 (by decide) ?_
            refine zistore_n dX9_readsStatement_113 (by decide) rfl ?_
            refine zgoto (tgt := 203) dX9_readsStatement_114 (by decide) ?_
            refine zlvs (lv' := [(0, .ref (zad x 0)), (2, .int (bI false))]) ⟨rfl, rfl, trivial⟩ ?_
            exact l_tailF (rsP_f hrs2 hq3 ((hf1.trans hf2).trans hf3))
        · have hrs1 : rsF L N p = (false, p + 1) := by rw [hrs0, mt_k rfl, if_neg hk]
          refine zaload_n dX9_readsStatement_0 rfl ?_
          refine zcVf ob_Mo gk_X9_98 dX9_readsStatement_1 (c_X9_here hl hp (by omega)) rfl (by decide) (Nat.le_of_ble_eq_true rfl) ?_ rfl
          refine zistore_n dX9_readsStatement_4 (by decide) rfl ?_
          refine zaload_n dX9_readsStatement_5 rfl ?_
          refine zdup dX9_readsStatement_6 rfl ?_
          refine gf_X9_95 rfl dX9_readsStatement_7 ?_
          rw [hp]
          refine ziconst (v := 1) dX9_readsStatement_10 (by decide) ?_
          refine ziadd dX9_readsStatement_11 ?_
          rw [nI_1]
          refine pf_X9_95 rfl dX9_readsStatement_12 ?_
          have hl1 := hl.fr (frP.rf.plc (v := nI (p + 1)))
          have hp1 : ((S.1, u2 S.2 0 11 (nI (p + 1))) : zSt).2 0 11 = nI (p + 1) := plcS
          have hf1 : frP S (S.1, u2 S.2 0 11 (nI (p + 1))) := frP.rf.plc
          refine ziload_n dX9_readsStatement_15 rfl ?_
          rw [he, hc]
          refine ztableIn (off := 76) (tgt := 92) dX9_readsStatement_16 (by decide +kernel) (by decide +kernel) (by decide +kernel) (by decide) ?_
          refine zaload_n dX9_readsStatement_92 rfl ?_
          refine zcVr ob_Mo gk_X9_105 dX9_readsStatement_93 (c_X9_readsKind hl1 hp1 (by omega)) rfl (by decide) (Nat.le_of_ble_eq_true rfl) (fun r2 S2 hp2 => ?_) rfl
          obtain ⟨rfl, hk1, hk2, hf2⟩ := hp2
          have hl2 := hl1.fr hf2
          refine zifb_eq (tgt := 112) dX9_readsStatement_96 (by decide) (fun _ => ?_) (fun h => absurd (h.symm.trans (decide_eq_false hk)) (by decide))
          refine ziconst (v := 0) dX9_readsStatement_112 (by decide) ?_
          refine zistore_n dX9_readsStatement_113 (by decide) rfl ?_
          refine zgoto (tgt := 203) dX9_readsStatement_114 (by decide) ?_
          refine zlvs (lv' := [(0, .ref (zad x 0)), (2, .int (bI false))]) ⟨rfl, rfl, trivial⟩ ?_
          exact l_tailF (rsP_f hrs1 (hk2 hk) (hf1.trans hf2))
      · have hrs0 : rsF L N p = mt L N 3 (1 + 1) 0 (p + 1) := rsF_h hpl (by rw [hc]; decide) (by decide)
        cases hb : (rnF L N 1 (p + 1) 0).1 with
        | true =>
          obtain ⟨e1, e2⟩ := rn1 hb
          have hrs2 : rsF L N p = mt L N 3 1 1 (p + 2) := by rw [hrs0, mt_rn 1 1 0 (p + 1) 0 (d48_1 rfl), if_pos hb, e1]
          refine zaload_n dX9_readsStatement_0 rfl ?_
          refine zcVf ob_Mo gk_X9_98 dX9_readsStatement_1 (c_X9_here hl hp (by omega)) rfl (by decide) (Nat.le_of_ble_eq_true rfl) ?_ rfl
          refine zistore_n dX9_readsStatement_4 (by decide) rfl ?_
          refine zaload_n dX9_readsStatement_5 rfl ?_
          refine zdup dX9_readsStatement_6 rfl ?_
          refine gf_X9_95 rfl dX9_readsStatement_7 ?_
          rw [hp]
          refine ziconst (v := 1) dX9_readsStatement_10 (by decide) ?_
          refine ziadd dX9_readsStatement_11 ?_
          rw [nI_1]
          refine pf_X9_95 rfl dX9_readsStatement_12 ?_
          have hl1 := hl.fr (frP.rf.plc (v := nI (p + 1)))
          have hp1 : ((S.1, u2 S.2 0 11 (nI (p + 1))) : zSt).2 0 11 = nI (p + 1) := plcS
          have hf1 : frP S (S.1, u2 S.2 0 11 (nI (p + 1))) := frP.rf.plc
          refine ziload_n dX9_readsStatement_15 rfl ?_
          rw [he, hc]
          refine ztableIn (off := 128) (tgt := 144) dX9_readsStatement_16 (by decide +kernel) (by decide +kernel) (by decide +kernel) (by decide) ?_
          refine zaload_n dX9_readsStatement_144 rfl ?_
          refine ziconst (v := nI 0) dX9_readsStatement_145 (by decide) ?_
          refine ziconst (v := nI 1) dX9_readsStatement_146 (by decide) ?_
          refine zcVr ob_Mo gk_X9_109 dX9_readsStatement_147 (c_X9_readsNumber (k := 0) (d := 1) (by decide) (by decide) hl1 hp1 (by omega)) rfl (by decide) (Nat.le_of_ble_eq_true rfl) (fun r2 S2 hp2 => ?_) rfl
          obtain ⟨rfl, hq2, hv2, ho2, hf2⟩ := hp2
          have hl2 := hl1.fr hf2
          refine zistore_n dX9_readsStatement_150 (by decide) rfl ?_
          refine zgoto (tgt := 203) dX9_readsStatement_151 (by decide) ?_
          refine zlvs (lv' := [(0, .ref (zad x 0)), (2, .int (bI true))]) ⟨rfl, by rw [← hb]; rfl, trivial⟩ ?_
          rw [e1] at hq2 hv2
          exact l_tailT (q := p + 2) hl2 hq2 (by omega) (fun z => rsP_f (q := p + 2) (by rw [hrs2, mt_s rfl, if_neg z]) hq2 (hf1.trans hf2)) (fun z => rsP_t (q := p + 2) (by rw [hrs2, mt_s rfl, if_pos z]) (hf1.trans hf2) (numsOk_b hc hv2))
        | false =>
          have hrs2 : rsF L N p = (false, (rnF L N 1 (p + 1) 0).2.1) := by rw [hrs0, mt_rn 1 1 0 (p + 1) 0 (d48_1 rfl), if_neg (by rw [hb]; decide)]
          refine zaload_n dX9_readsStatement_0 rfl ?_
          refine zcVf ob_Mo gk_X9_98 dX9_readsStatement_1 (c_X9_here hl hp (by omega)) rfl (by decide) (Nat.le_of_ble_eq_true rfl) ?_ rfl
          refine zistore_n dX9_readsStatement_4 (by decide) rfl ?_
          refine zaload_n dX9_readsStatement_5 rfl ?_
          refine zdup dX9_readsStatement_6 rfl ?_
          refine gf_X9_95 rfl dX9_readsStatement_7 ?_
          rw [hp]
          refine ziconst (v := 1) dX9_readsStatement_10 (by decide) ?_
          refine ziadd dX9_readsStatement_11 ?_
          rw [nI_1]
          refine pf_X9_95 rfl dX9_readsStatement_12 ?_
          have hl1 := hl.fr (frP.rf.plc (v := nI (p + 1)))
          have hp1 : ((S.1, u2 S.2 0 11 (nI (p + 1))) : zSt).2 0 11 = nI (p + 1) := plcS
          have hf1 : frP S (S.1, u2 S.2 0 11 (nI (p + 1))) := frP.rf.plc
          refine ziload_n dX9_readsStatement_15 rfl ?_
          rw [he, hc]
          refine ztableIn (off := 128) (tgt := 144) dX9_readsStatement_16 (by decide +kernel) (by decide +kernel) (by decide +kernel) (by decide) ?_
          refine zaload_n dX9_readsStatement_144 rfl ?_
          refine ziconst (v := nI 0) dX9_readsStatement_145 (by decide) ?_
          refine ziconst (v := nI 1) dX9_readsStatement_146 (by decide) ?_
          refine zcVr ob_Mo gk_X9_109 dX9_readsStatement_147 (c_X9_readsNumber (k := 0) (d := 1) (by decide) (by decide) hl1 hp1 (by omega)) rfl (by decide) (Nat.le_of_ble_eq_true rfl) (fun r2 S2 hp2 => ?_) rfl
          obtain ⟨rfl, hq2, hv2, ho2, hf2⟩ := hp2
          have hl2 := hl1.fr hf2
          refine zistore_n dX9_readsStatement_150 (by decide) rfl ?_
          refine zgoto (tgt := 203) dX9_readsStatement_151 (by decide) ?_
          refine zlvs (lv' := [(0, .ref (zad x 0)), (2, .int (bI false))]) ⟨rfl, by rw [← hb]; rfl, trivial⟩ ?_
          exact l_tailF (rsP_f hrs2 hq2 (hf1.trans hf2))
      · have hrs0 : rsF L N p = mt L N 4 (1 + 1 + 1) 0 (p + 1) := rsF_h hpl (by rw [hc]; decide) (by decide)
        cases hb : (rnF L N 1 (p + 1) 0).1 with
        | true =>
          obtain ⟨e1, e2⟩ := rn1 hb
          have hrs1 : rsF L N p = mt L N 4 (1 + 1) 1 (p + 2) := by rw [hrs0, mt_rn (1 + 1) 1 0 (p + 1) 0 (d48_1 rfl), if_pos hb, e1, Nat.add_comm 1 1]
          cases hb2 : (rnF L N 1 (p + 2) 0).1 with
          | true =>
            obtain ⟨e3, e4⟩ := rn1 hb2
            have hrs2 : rsF L N p = mt L N 4 1 2 (p + 3) := by rw [hrs1, mt_rn 1 1 1 (p + 2) 0 (d48_1 rfl), if_pos hb2, e3]
            refine zaload_n dX9_readsStatement_0 rfl ?_
            refine zcVf ob_Mo gk_X9_98 dX9_readsStatement_1 (c_X9_here hl hp (by omega)) rfl (by decide) (Nat.le_of_ble_eq_true rfl) ?_ rfl
            refine zistore_n dX9_readsStatement_4 (by decide) rfl ?_
            refine zaload_n dX9_readsStatement_5 rfl ?_
            refine zdup dX9_readsStatement_6 rfl ?_
            refine gf_X9_95 rfl dX9_readsStatement_7 ?_
            rw [hp]
            refine ziconst (v := 1) dX9_readsStatement_10 (by decide) ?_
            refine ziadd dX9_readsStatement_11 ?_
            rw [nI_1]
            refine pf_X9_95 rfl dX9_readsStatement_12 ?_
            have hl1 := hl.fr (frP.rf.plc (v := nI (p + 1)))
            have hp1 : ((S.1, u2 S.2 0 11 (nI (p + 1))) : zSt).2 0 11 = nI (p + 1) := plcS
            have hf1 : frP S (S.1, u2 S.2 0 11 (nI (p + 1))) := frP.rf.plc
            refine ziload_n dX9_readsStatement_15 rfl ?_
            rw [he, hc]
            refine ztableIn (off := 101) (tgt := 117) dX9_readsStatement_16 (by decide +kernel) (by decide +kernel) (by decide +kernel) (by decide) ?_
            refine zaload_n dX9_readsStatement_117 rfl ?_
            refine ziconst (v := nI 0) dX9_readsStatement_118 (by decide) ?_
            refine ziconst (v := nI 1) dX9_readsStatement_119 (by decide) ?_
            refine zcVr ob_Mo gk_X9_109 dX9_readsStatement_120 (c_X9_readsNumber (k := 0) (d := 1) (by decide) (by decide) hl1 hp1 (by omega)) rfl (by decide) (Nat.le_of_ble_eq_true rfl) (fun r2 S2 hp2 => ?_) rfl
            obtain ⟨rfl, hq2, hv2, ho2, hf2⟩ := hp2
            have hl2 := hl1.fr hf2
            rw [e1] at hq2 hv2
            refine zifb_eq (tgt := 139) dX9_readsStatement_123 (by decide) (fun h => absurd (h.symm.trans hb) (by decide)) (fun _ => ?_)
            refine zaload_n dX9_readsStatement_126 rfl ?_
            refine ziconst (v := nI 1) dX9_readsStatement_127 (by decide) ?_
            refine ziconst (v := nI 1) dX9_readsStatement_128 (by decide) ?_
            refine zcVr ob_Mo gk_X9_109 dX9_readsStatement_129 (c_X9_readsNumber (p := p + 2) (k := 1) (d := 1) (by decide) (by decide) hl2 hq2 (by omega)) rfl (by decide) (Nat.le_of_ble_eq_true rfl) (fun r3 S3 hp3 => ?_) rfl
            obtain ⟨rfl, hq3, hv3, ho3, hf3⟩ := hp3
            have hl3 := hl2.fr hf3
            refine zifb_eq (tgt := 139) dX9_readsStatement_132 (by decide) (fun h => absurd (h.symm.trans hb2) (by decide)) (fun _ => ?_)
            refine ziconst (v := 1) dX9_readsStatement_135 (by decide) ?_
            refine zgoto (tgt := 140) dX9_readsStatement_136 (by decide) ?_
            refine zistore_n dX9_readsStatement_140 (by decide) rfl ?_
            refine zgoto (tgt := 203) dX9_readsStatement_141 (by decide) ?_
            refine zlvs (lv' := [(0, .ref (zad x 0)), (2, .int (bI true))]) ⟨rfl, rfl, trivial⟩ ?_
            rw [e3] at hq3 hv3
            exact l_tailT (q := p + 3) hl3 hq3 (by omega) (fun z => rsP_f (q := p + 3) (by rw [hrs2, mt_s rfl, if_neg z]) hq3 ((hf1.trans hf2).trans hf3)) (fun z => rsP_t (q := p + 3) (by rw [hrs2, mt_s rfl, if_pos z]) ((hf1.trans hf2).trans hf3) (numsOk_2 (Or.inl hc) ((ho3 0 (by decide)).trans hv2) hv3))
          | false =>
            have hrs2 : rsF L N p = (false, (rnF L N 1 (p + 2) 0).2.1) := by rw [hrs1, mt_rn 1 1 1 (p + 2) 0 (d48_1 rfl), if_neg (by rw [hb2]; decide)]
            refine zaload_n dX9_readsStatement_0 rfl ?_
            refine zcVf ob_Mo gk_X9_98 dX9_readsStatement_1 (c_X9_here hl hp (by omega)) rfl (by decide) (Nat.le_of_ble_eq_true rfl) ?_ rfl
            refine zistore_n dX9_readsStatement_4 (by decide) rfl ?_
            refine zaload_n dX9_readsStatement_5 rfl ?_
            refine zdup dX9_readsStatement_6 rfl ?_
            refine gf_X9_95 rfl dX9_readsStatement_7 ?_
            rw [hp]
            refine ziconst (v := 1) dX9_readsStatement_10 (by decide) ?_
            refine ziadd dX9_readsStatement_11 ?_
            rw [nI_1]
            refine pf_X9_95 rfl dX9_readsStatement_12 ?_
            have hl1 := hl.fr (frP.rf.plc (v := nI (p + 1)))
            have hp1 : ((S.1, u2 S.2 0 11 (nI (p + 1))) : zSt).2 0 11 = nI (p + 1) := plcS
            have hf1 : frP S (S.1, u2 S.2 0 11 (nI (p + 1))) := frP.rf.plc
            refine ziload_n dX9_readsStatement_15 rfl ?_
            rw [he, hc]
            refine ztableIn (off := 101) (tgt := 117) dX9_readsStatement_16 (by decide +kernel) (by decide +kernel) (by decide +kernel) (by decide) ?_
            refine zaload_n dX9_readsStatement_117 rfl ?_
            refine ziconst (v := nI 0) dX9_readsStatement_118 (by decide) ?_
            refine ziconst (v := nI 1) dX9_readsStatement_119 (by decide) ?_
            refine zcVr ob_Mo gk_X9_109 dX9_readsStatement_120 (c_X9_readsNumber (k := 0) (d := 1) (by decide) (by decide) hl1 hp1 (by omega)) rfl (by decide) (Nat.le_of_ble_eq_true rfl) (fun r2 S2 hp2 => ?_) rfl
            obtain ⟨rfl, hq2, hv2, ho2, hf2⟩ := hp2
            have hl2 := hl1.fr hf2
            rw [e1] at hq2 hv2
            refine zifb_eq (tgt := 139) dX9_readsStatement_123 (by decide) (fun h => absurd (h.symm.trans hb) (by decide)) (fun _ => ?_)
            refine zaload_n dX9_readsStatement_126 rfl ?_
            refine ziconst (v := nI 1) dX9_readsStatement_127 (by decide) ?_
            refine ziconst (v := nI 1) dX9_readsStatement_128 (by decide) ?_
            refine zcVr ob_Mo gk_X9_109 dX9_readsStatement_129 (c_X9_readsNumber (p := p + 2) (k := 1) (d := 1) (by decide) (by decide) hl2 hq2 (by omega)) rfl (by decide) (Nat.le_of_ble_eq_true rfl) (fun r3 S3 hp3 => ?_) rfl
            obtain ⟨rfl, hq3, hv3, ho3, hf3⟩ := hp3
            have hl3 := hl2.fr hf3
            refine zifb_eq (tgt := 139) dX9_readsStatement_132 (by decide) (fun _ => ?_) (fun h => absurd (h.symm.trans hb2) (by decide))
            refine ziconst (v := 0) dX9_readsStatement_139 (by decide) ?_
            refine zistore_n dX9_readsStatement_140 (by decide) rfl ?_
            refine zgoto (tgt := 203) dX9_readsStatement_141 (by decide) ?_
            refine zlvs (lv' := [(0, .ref (zad x 0)), (2, .int (bI false))]) ⟨rfl, rfl, trivial⟩ ?_
            exact l_tailF (rsP_f hrs2 hq3 ((hf1.trans hf2).trans hf3))
        | false =>
          have hrs2 : rsF L N p = (false, (rnF L N 1 (p + 1) 0).2.1) := by rw [hrs0, mt_rn (1 + 1) 1 0 (p + 1) 0 (d48_1 rfl), if_neg (by rw [hb]; decide)]
          refine zaload_n dX9_readsStatement_0 rfl ?_
          refine zcVf ob_Mo gk_X9_98 dX9_readsStatement_1 (c_X9_here hl hp (by omega)) rfl (by decide) (Nat.le_of_ble_eq_true rfl) ?_ rfl
          refine zistore_n dX9_readsStatement_4 (by decide) rfl ?_
          refine zaload_n dX9_readsStatement_5 rfl ?_
          refine zdup dX9_readsStatement_6 rfl ?_
          refine gf_X9_95 rfl dX9_readsStatement_7 ?_
          rw [hp]
          refine ziconst (v := 1) dX9_readsStatement_10 (by decide) ?_
          refine ziadd dX9_readsStatement_11 ?_
          rw [nI_1]
          refine pf_X9_95 rfl dX9_readsStatement_12 ?_
          have hl1 := hl.fr (frP.rf.plc (v := nI (p + 1)))
          have hp1 : ((S.1, u2 S.2 0 11 (nI (p + 1))) : zSt).2 0 11 = nI (p + 1) := plcS
          have hf1 : frP S (S.1, u2 S.2 0 11 (nI (p + 1))) := frP.rf.plc
          refine ziload_n dX9_readsStatement_15 rfl ?_
          rw [he, hc]
          refine ztableIn (off := 101) (tgt := 117) dX9_readsStatement_16 (by decide +kernel) (by decide +kernel) (by decide +kernel) (by decide) ?_
          refine zaload_n dX9_readsStatement_117 rfl ?_
          refine ziconst (v := nI 0) dX9_readsStatement_118 (by decide) ?_
          refine ziconst (v := nI 1) dX9_readsStatement_119 (by decide) ?_
          refine zcVr ob_Mo gk_X9_109 dX9_readsStatement_120 (c_X9_readsNumber (k := 0) (d := 1) (by decide) (by decide) hl1 hp1 (by omega)) rfl (by decide) (Nat.le_of_ble_eq_true rfl) (fun r2 S2 hp2 => ?_) rfl
          obtain ⟨rfl, hq2, hv2, ho2, hf2⟩ := hp2
          have hl2 := hl1.fr hf2
          refine zifb_eq (tgt := 139) dX9_readsStatement_123 (by decide) (fun _ => ?_) (fun h => absurd (h.symm.trans hb) (by decide))
          refine ziconst (v := 0) dX9_readsStatement_139 (by decide) ?_
          refine zistore_n dX9_readsStatement_140 (by decide) rfl ?_
          refine zgoto (tgt := 203) dX9_readsStatement_141 (by decide) ?_
          refine zlvs (lv' := [(0, .ref (zad x 0)), (2, .int (bI false))]) ⟨rfl, rfl, trivial⟩ ?_
          exact l_tailF (rsP_f hrs2 hq2 (hf1.trans hf2))
      · have hrs0 : rsF L N p = mt L N 4 (1 + 1 + 1) 0 (p + 1) := rsF_h hpl (by rw [hc]; decide) (by decide)
        cases hb : (rnF L N 1 (p + 1) 0).1 with
        | true =>
          obtain ⟨e1, e2⟩ := rn1 hb
          have hrs1 : rsF L N p = mt L N 4 (1 + 1) 1 (p + 2) := by rw [hrs0, mt_rn (1 + 1) 1 0 (p + 1) 0 (d48_1 rfl), if_pos hb, e1, Nat.add_comm 1 1]
          cases hb2 : (rnF L N 1 (p + 2) 0).1 with
          | true =>
            obtain ⟨e3, e4⟩ := rn1 hb2
            have hrs2 : rsF L N p = mt L N 4 1 2 (p + 3) := by rw [hrs1, mt_rn 1 1 1 (p + 2) 0 (d48_1 rfl), if_pos hb2, e3]
            refine zaload_n dX9_readsStatement_0 rfl ?_
            refine zcVf ob_Mo gk_X9_98 dX9_readsStatement_1 (c_X9_here hl hp (by omega)) rfl (by decide) (Nat.le_of_ble_eq_true rfl) ?_ rfl
            refine zistore_n dX9_readsStatement_4 (by decide) rfl ?_
            refine zaload_n dX9_readsStatement_5 rfl ?_
            refine zdup dX9_readsStatement_6 rfl ?_
            refine gf_X9_95 rfl dX9_readsStatement_7 ?_
            rw [hp]
            refine ziconst (v := 1) dX9_readsStatement_10 (by decide) ?_
            refine ziadd dX9_readsStatement_11 ?_
            rw [nI_1]
            refine pf_X9_95 rfl dX9_readsStatement_12 ?_
            have hl1 := hl.fr (frP.rf.plc (v := nI (p + 1)))
            have hp1 : ((S.1, u2 S.2 0 11 (nI (p + 1))) : zSt).2 0 11 = nI (p + 1) := plcS
            have hf1 : frP S (S.1, u2 S.2 0 11 (nI (p + 1))) := frP.rf.plc
            refine ziload_n dX9_readsStatement_15 rfl ?_
            rw [he, hc]
            refine ztableIn (off := 101) (tgt := 117) dX9_readsStatement_16 (by decide +kernel) (by decide +kernel) (by decide +kernel) (by decide) ?_
            refine zaload_n dX9_readsStatement_117 rfl ?_
            refine ziconst (v := nI 0) dX9_readsStatement_118 (by decide) ?_
            refine ziconst (v := nI 1) dX9_readsStatement_119 (by decide) ?_
            refine zcVr ob_Mo gk_X9_109 dX9_readsStatement_120 (c_X9_readsNumber (k := 0) (d := 1) (by decide) (by decide) hl1 hp1 (by omega)) rfl (by decide) (Nat.le_of_ble_eq_true rfl) (fun r2 S2 hp2 => ?_) rfl
            obtain ⟨rfl, hq2, hv2, ho2, hf2⟩ := hp2
            have hl2 := hl1.fr hf2
            rw [e1] at hq2 hv2
            refine zifb_eq (tgt := 139) dX9_readsStatement_123 (by decide) (fun h => absurd (h.symm.trans hb) (by decide)) (fun _ => ?_)
            refine zaload_n dX9_readsStatement_126 rfl ?_
            refine ziconst (v := nI 1) dX9_readsStatement_127 (by decide) ?_
            refine ziconst (v := nI 1) dX9_readsStatement_128 (by decide) ?_
            refine zcVr ob_Mo gk_X9_109 dX9_readsStatement_129 (c_X9_readsNumber (p := p + 2) (k := 1) (d := 1) (by decide) (by decide) hl2 hq2 (by omega)) rfl (by decide) (Nat.le_of_ble_eq_true rfl) (fun r3 S3 hp3 => ?_) rfl
            obtain ⟨rfl, hq3, hv3, ho3, hf3⟩ := hp3
            have hl3 := hl2.fr hf3
            refine zifb_eq (tgt := 139) dX9_readsStatement_132 (by decide) (fun h => absurd (h.symm.trans hb2) (by decide)) (fun _ => ?_)
            refine ziconst (v := 1) dX9_readsStatement_135 (by decide) ?_
            refine zgoto (tgt := 140) dX9_readsStatement_136 (by decide) ?_
            refine zistore_n dX9_readsStatement_140 (by decide) rfl ?_
            refine zgoto (tgt := 203) dX9_readsStatement_141 (by decide) ?_
            refine zlvs (lv' := [(0, .ref (zad x 0)), (2, .int (bI true))]) ⟨rfl, rfl, trivial⟩ ?_
            rw [e3] at hq3 hv3
            exact l_tailT (q := p + 3) hl3 hq3 (by omega) (fun z => rsP_f (q := p + 3) (by rw [hrs2, mt_s rfl, if_neg z]) hq3 ((hf1.trans hf2).trans hf3)) (fun z => rsP_t (q := p + 3) (by rw [hrs2, mt_s rfl, if_pos z]) ((hf1.trans hf2).trans hf3) (numsOk_2 (Or.inr hc) ((ho3 0 (by decide)).trans hv2) hv3))
          | false =>
            have hrs2 : rsF L N p = (false, (rnF L N 1 (p + 2) 0).2.1) := by rw [hrs1, mt_rn 1 1 1 (p + 2) 0 (d48_1 rfl), if_neg (by rw [hb2]; decide)]
            refine zaload_n dX9_readsStatement_0 rfl ?_
            refine zcVf ob_Mo gk_X9_98 dX9_readsStatement_1 (c_X9_here hl hp (by omega)) rfl (by decide) (Nat.le_of_ble_eq_true rfl) ?_ rfl
            refine zistore_n dX9_readsStatement_4 (by decide) rfl ?_
            refine zaload_n dX9_readsStatement_5 rfl ?_
            refine zdup dX9_readsStatement_6 rfl ?_
            refine gf_X9_95 rfl dX9_readsStatement_7 ?_
            rw [hp]
            refine ziconst (v := 1) dX9_readsStatement_10 (by decide) ?_
            refine ziadd dX9_readsStatement_11 ?_
            rw [nI_1]
            refine pf_X9_95 rfl dX9_readsStatement_12 ?_
            have hl1 := hl.fr (frP.rf.plc (v := nI (p + 1)))
            have hp1 : ((S.1, u2 S.2 0 11 (nI (p + 1))) : zSt).2 0 11 = nI (p + 1) := plcS
            have hf1 : frP S (S.1, u2 S.2 0 11 (nI (p + 1))) := frP.rf.plc
            refine ziload_n dX9_readsStatement_15 rfl ?_
            rw [he, hc]
            refine ztableIn (off := 101) (tgt := 117) dX9_readsStatement_16 (by decide +kernel) (by decide +kernel) (by decide +kernel) (by decide) ?_
            refine zaload_n dX9_readsStatement_117 rfl ?_
            refine ziconst (v := nI 0) dX9_readsStatement_118 (by decide) ?_
            refine ziconst (v := nI 1) dX9_readsStatement_119 (by decide) ?_
            refine zcVr ob_Mo gk_X9_109 dX9_readsStatement_120 (c_X9_readsNumber (k := 0) (d := 1) (by decide) (by decide) hl1 hp1 (by omega)) rfl (by decide) (Nat.le_of_ble_eq_true rfl) (fun r2 S2 hp2 => ?_) rfl
            obtain ⟨rfl, hq2, hv2, ho2, hf2⟩ := hp2
            have hl2 := hl1.fr hf2
            rw [e1] at hq2 hv2
            refine zifb_eq (tgt := 139) dX9_readsStatement_123 (by decide) (fun h => absurd (h.symm.trans hb) (by decide)) (fun _ => ?_)
            refine zaload_n dX9_readsStatement_126 rfl ?_
            refine ziconst (v := nI 1) dX9_readsStatement_127 (by decide) ?_
            refine ziconst (v := nI 1) dX9_readsStatement_128 (by decide) ?_
            refine zcVr ob_Mo gk_X9_109 dX9_readsStatement_129 (c_X9_readsNumber (p := p + 2) (k := 1) (d := 1) (by decide) (by decide) hl2 hq2 (by omega)) rfl (by decide) (Nat.le_of_ble_eq_true rfl) (fun r3 S3 hp3 => ?_) rfl
            obtain ⟨rfl, hq3, hv3, ho3, hf3⟩ := hp3
            have hl3 := hl2.fr hf3
            refine zifb_eq (tgt := 139) dX9_readsStatement_132 (by decide) (fun _ => ?_) (fun h => absurd (h.symm.trans hb2) (by decide))
            refine ziconst (v := 0) dX9_readsStatement_139 (by decide) ?_
            refine zistore_n dX9_readsStatement_140 (by decide) rfl ?_
            refine zgoto (tgt := 203) dX9_readsStatement_141 (by decide) ?_
            refine zlvs (lv' := [(0, .ref (zad x 0)), (2, .int (bI false))]) ⟨rfl, rfl, trivial⟩ ?_
            exact l_tailF (rsP_f hrs2 hq3 ((hf1.trans hf2).trans hf3))
        | false =>
          have hrs2 : rsF L N p = (false, (rnF L N 1 (p + 1) 0).2.1) := by rw [hrs0, mt_rn (1 + 1) 1 0 (p + 1) 0 (d48_1 rfl), if_neg (by rw [hb]; decide)]
          refine zaload_n dX9_readsStatement_0 rfl ?_
          refine zcVf ob_Mo gk_X9_98 dX9_readsStatement_1 (c_X9_here hl hp (by omega)) rfl (by decide) (Nat.le_of_ble_eq_true rfl) ?_ rfl
          refine zistore_n dX9_readsStatement_4 (by decide) rfl ?_
          refine zaload_n dX9_readsStatement_5 rfl ?_
          refine zdup dX9_readsStatement_6 rfl ?_
          refine gf_X9_95 rfl dX9_readsStatement_7 ?_
          rw [hp]
          refine ziconst (v := 1) dX9_readsStatement_10 (by decide) ?_
          refine ziadd dX9_readsStatement_11 ?_
          rw [nI_1]
          refine pf_X9_95 rfl dX9_readsStatement_12 ?_
          have hl1 := hl.fr (frP.rf.plc (v := nI (p + 1)))
          have hp1 : ((S.1, u2 S.2 0 11 (nI (p + 1))) : zSt).2 0 11 = nI (p + 1) := plcS
          have hf1 : frP S (S.1, u2 S.2 0 11 (nI (p + 1))) := frP.rf.plc
          refine ziload_n dX9_readsStatement_15 rfl ?_
          rw [he, hc]
          refine ztableIn (off := 101) (tgt := 117) dX9_readsStatement_16 (by decide +kernel) (by decide +kernel) (by decide +kernel) (by decide) ?_
          refine zaload_n dX9_readsStatement_117 rfl ?_
          refine ziconst (v := nI 0) dX9_readsStatement_118 (by decide) ?_
          refine ziconst (v := nI 1) dX9_readsStatement_119 (by decide) ?_
          refine zcVr ob_Mo gk_X9_109 dX9_readsStatement_120 (c_X9_readsNumber (k := 0) (d := 1) (by decide) (by decide) hl1 hp1 (by omega)) rfl (by decide) (Nat.le_of_ble_eq_true rfl) (fun r2 S2 hp2 => ?_) rfl
          obtain ⟨rfl, hq2, hv2, ho2, hf2⟩ := hp2
          have hl2 := hl1.fr hf2
          refine zifb_eq (tgt := 139) dX9_readsStatement_123 (by decide) (fun _ => ?_) (fun h => absurd (h.symm.trans hb) (by decide))
          refine ziconst (v := 0) dX9_readsStatement_139 (by decide) ?_
          refine zistore_n dX9_readsStatement_140 (by decide) rfl ?_
          refine zgoto (tgt := 203) dX9_readsStatement_141 (by decide) ?_
          refine zlvs (lv' := [(0, .ref (zad x 0)), (2, .int (bI false))]) ⟨rfl, rfl, trivial⟩ ?_
          exact l_tailF (rsP_f hrs2 hq2 (hf1.trans hf2))
      · have hrs0 : rsF L N p = mt L N 4 (1 + 2) 0 (p + 1) := rsF_h hpl (by rw [hc]; decide) (by decide)
        cases hb : (rnF L N 2 (p + 1) 0).1 with
        | true =>
          obtain ⟨e1, e2⟩ := rn2 hb
          have hrs2 : rsF L N p = mt L N 4 1 2 (p + 3) := by rw [hrs0, mt_rn 1 2 0 (p + 1) 0 (d48_2 rfl rfl), if_pos hb, e1]
          refine zaload_n dX9_readsStatement_0 rfl ?_
          refine zcVf ob_Mo gk_X9_98 dX9_readsStatement_1 (c_X9_here hl hp (by omega)) rfl (by decide) (Nat.le_of_ble_eq_true rfl) ?_ rfl
          refine zistore_n dX9_readsStatement_4 (by decide) rfl ?_
          refine zaload_n dX9_readsStatement_5 rfl ?_
          refine zdup dX9_readsStatement_6 rfl ?_
          refine gf_X9_95 rfl dX9_readsStatement_7 ?_
          rw [hp]
          refine ziconst (v := 1) dX9_readsStatement_10 (by decide) ?_
          refine ziadd dX9_readsStatement_11 ?_
          rw [nI_1]
          refine pf_X9_95 rfl dX9_readsStatement_12 ?_
          have hl1 := hl.fr (frP.rf.plc (v := nI (p + 1)))
          have hp1 : ((S.1, u2 S.2 0 11 (nI (p + 1))) : zSt).2 0 11 = nI (p + 1) := plcS
          have hf1 : frP S (S.1, u2 S.2 0 11 (nI (p + 1))) := frP.rf.plc
          refine ziload_n dX9_readsStatement_15 rfl ?_
          rw [he, hc]
          refine ztableIn (off := 165) (tgt := 181) dX9_readsStatement_16 (by decide +kernel) (by decide +kernel) (by decide +kernel) (by decide) ?_
          refine zaload_n dX9_readsStatement_181 rfl ?_
          refine ziconst (v := nI 0) dX9_readsStatement_182 (by decide) ?_
          refine ziconst (v := nI 2) dX9_readsStatement_183 (by decide) ?_
          refine zcVr ob_Mo gk_X9_109 dX9_readsStatement_184 (c_X9_readsNumber (k := 0) (d := 2) (by decide) (by decide) hl1 hp1 (by omega)) rfl (by decide) (Nat.le_of_ble_eq_true rfl) (fun r2 S2 hp2 => ?_) rfl
          obtain ⟨rfl, hq2, hv2, ho2, hf2⟩ := hp2
          have hl2 := hl1.fr hf2
          refine zistore_n dX9_readsStatement_187 (by decide) rfl ?_
          refine zgoto (tgt := 203) dX9_readsStatement_188 (by decide) ?_
          refine zlvs (lv' := [(0, .ref (zad x 0)), (2, .int (bI true))]) ⟨rfl, by rw [← hb]; rfl, trivial⟩ ?_
          rw [e1] at hq2 hv2
          exact l_tailT (q := p + 3) hl2 hq2 (by omega) (fun z => rsP_f (q := p + 3) (by rw [hrs2, mt_s rfl, if_neg z]) hq2 (hf1.trans hf2)) (fun z => rsP_t (q := p + 3) (by rw [hrs2, mt_s rfl, if_pos z]) (hf1.trans hf2) (numsOk_m hc hv2))
        | false =>
          have hrs2 : rsF L N p = (false, (rnF L N 2 (p + 1) 0).2.1) := by rw [hrs0, mt_rn 1 2 0 (p + 1) 0 (d48_2 rfl rfl), if_neg (by rw [hb]; decide)]
          refine zaload_n dX9_readsStatement_0 rfl ?_
          refine zcVf ob_Mo gk_X9_98 dX9_readsStatement_1 (c_X9_here hl hp (by omega)) rfl (by decide) (Nat.le_of_ble_eq_true rfl) ?_ rfl
          refine zistore_n dX9_readsStatement_4 (by decide) rfl ?_
          refine zaload_n dX9_readsStatement_5 rfl ?_
          refine zdup dX9_readsStatement_6 rfl ?_
          refine gf_X9_95 rfl dX9_readsStatement_7 ?_
          rw [hp]
          refine ziconst (v := 1) dX9_readsStatement_10 (by decide) ?_
          refine ziadd dX9_readsStatement_11 ?_
          rw [nI_1]
          refine pf_X9_95 rfl dX9_readsStatement_12 ?_
          have hl1 := hl.fr (frP.rf.plc (v := nI (p + 1)))
          have hp1 : ((S.1, u2 S.2 0 11 (nI (p + 1))) : zSt).2 0 11 = nI (p + 1) := plcS
          have hf1 : frP S (S.1, u2 S.2 0 11 (nI (p + 1))) := frP.rf.plc
          refine ziload_n dX9_readsStatement_15 rfl ?_
          rw [he, hc]
          refine ztableIn (off := 165) (tgt := 181) dX9_readsStatement_16 (by decide +kernel) (by decide +kernel) (by decide +kernel) (by decide) ?_
          refine zaload_n dX9_readsStatement_181 rfl ?_
          refine ziconst (v := nI 0) dX9_readsStatement_182 (by decide) ?_
          refine ziconst (v := nI 2) dX9_readsStatement_183 (by decide) ?_
          refine zcVr ob_Mo gk_X9_109 dX9_readsStatement_184 (c_X9_readsNumber (k := 0) (d := 2) (by decide) (by decide) hl1 hp1 (by omega)) rfl (by decide) (Nat.le_of_ble_eq_true rfl) (fun r2 S2 hp2 => ?_) rfl
          obtain ⟨rfl, hq2, hv2, ho2, hf2⟩ := hp2
          have hl2 := hl1.fr hf2
          refine zistore_n dX9_readsStatement_187 (by decide) rfl ?_
          refine zgoto (tgt := 203) dX9_readsStatement_188 (by decide) ?_
          refine zlvs (lv' := [(0, .ref (zad x 0)), (2, .int (bI false))]) ⟨rfl, by rw [← hb]; rfl, trivial⟩ ?_
          exact l_tailF (rsP_f hrs2 hq2 (hf1.trans hf2))
      · have hrs0 : rsF L N p = mt L N 5 (2 + 1 + 1) 0 (p + 1) := rsF_h hpl (by rw [hc]; decide) (by decide)
        cases hb : (rnF L N 1 (p + 1) 0).1 with
        | true =>
          obtain ⟨e1, e2⟩ := rn1 hb
          have hrs1 : rsF L N p = mt L N 5 (1 + 2) 1 (p + 2) := by rw [hrs0, mt_rn (2 + 1) 1 0 (p + 1) 0 (d48_1 rfl), if_pos hb, e1, Nat.add_comm 2 1]
          cases hb2 : (rnF L N 2 (p + 2) 0).1 with
          | true =>
            obtain ⟨e3, e4⟩ := rn2 hb2
            have hrs2 : rsF L N p = mt L N 5 1 3 (p + 4) := by rw [hrs1, mt_rn 1 2 1 (p + 2) 0 (d48_2 rfl rfl), if_pos hb2, e3]
            refine zaload_n dX9_readsStatement_0 rfl ?_
            refine zcVf ob_Mo gk_X9_98 dX9_readsStatement_1 (c_X9_here hl hp (by omega)) rfl (by decide) (Nat.le_of_ble_eq_true rfl) ?_ rfl
            refine zistore_n dX9_readsStatement_4 (by decide) rfl ?_
            refine zaload_n dX9_readsStatement_5 rfl ?_
            refine zdup dX9_readsStatement_6 rfl ?_
            refine gf_X9_95 rfl dX9_readsStatement_7 ?_
            rw [hp]
            refine ziconst (v := 1) dX9_readsStatement_10 (by decide) ?_
            refine ziadd dX9_readsStatement_11 ?_
            rw [nI_1]
            refine pf_X9_95 rfl dX9_readsStatement_12 ?_
            have hl1 := hl.fr (frP.rf.plc (v := nI (p + 1)))
            have hp1 : ((S.1, u2 S.2 0 11 (nI (p + 1))) : zSt).2 0 11 = nI (p + 1) := plcS
            have hf1 : frP S (S.1, u2 S.2 0 11 (nI (p + 1))) := frP.rf.plc
            refine ziload_n dX9_readsStatement_15 rfl ?_
            rw [he, hc]
            refine ztableIn (off := 138) (tgt := 154) dX9_readsStatement_16 (by decide +kernel) (by decide +kernel) (by decide +kernel) (by decide) ?_
            refine zaload_n dX9_readsStatement_154 rfl ?_
            refine ziconst (v := nI 0) dX9_readsStatement_155 (by decide) ?_
            refine ziconst (v := nI 1) dX9_readsStatement_156 (by decide) ?_
            refine zcVr ob_Mo gk_X9_109 dX9_readsStatement_157 (c_X9_readsNumber (k := 0) (d := 1) (by decide) (by decide) hl1 hp1 (by omega)) rfl (by decide) (Nat.le_of_ble_eq_true rfl) (fun r2 S2 hp2 => ?_) rfl
            obtain ⟨rfl, hq2, hv2, ho2, hf2⟩ := hp2
            have hl2 := hl1.fr hf2
            rw [e1] at hq2 hv2
            refine zifb_eq (tgt := 176) dX9_readsStatement_160 (by decide) (fun h => absurd (h.symm.trans hb) (by decide)) (fun _ => ?_)
            refine zaload_n dX9_readsStatement_163 rfl ?_
            refine ziconst (v := nI 1) dX9_readsStatement_164 (by decide) ?_
            refine ziconst (v := nI 2) dX9_readsStatement_165 (by decide) ?_
            refine zcVr ob_Mo gk_X9_109 dX9_readsStatement_166 (c_X9_readsNumber (p := p + 2) (k := 1) (d := 2) (by decide) (by decide) hl2 hq2 (by omega)) rfl (by decide) (Nat.le_of_ble_eq_true rfl) (fun r3 S3 hp3 => ?_) rfl
            obtain ⟨rfl, hq3, hv3, ho3, hf3⟩ := hp3
            have hl3 := hl2.fr hf3
            refine zifb_eq (tgt := 176) dX9_readsStatement_169 (by decide) (fun h => absurd (h.symm.trans hb2) (by decide)) (fun _ => ?_)
            refine ziconst (v := 1) dX9_readsStatement_172 (by decide) ?_
            refine zgoto (tgt := 177) dX9_readsStatement_173 (by decide) ?_
            refine zistore_n dX9_readsStatement_177 (by decide) rfl ?_
            refine zgoto (tgt := 203) dX9_readsStatement_178 (by decide) ?_
            refine zlvs (lv' := [(0, .ref (zad x 0)), (2, .int (bI true))]) ⟨rfl, rfl, trivial⟩ ?_
            rw [e3] at hq3 hv3
            exact l_tailT (q := p + 4) hl3 hq3 (by omega) (fun z => rsP_f (q := p + 4) (by rw [hrs2, mt_s rfl, if_neg z]) hq3 ((hf1.trans hf2).trans hf3)) (fun z => rsP_t (q := p + 4) (by rw [hrs2, mt_s rfl, if_pos z]) ((hf1.trans hf2).trans hf3) (numsOk_f hc ((ho3 0 (by decide)).trans hv2) hv3))
          | false =>
            have hrs2 : rsF L N p = (false, (rnF L N 2 (p + 2) 0).2.1) := by rw [hrs1, mt_rn 1 2 1 (p + 2) 0 (d48_2 rfl rfl), if_neg (by rw [hb2]; decide)]
            refine zaload_n dX9_readsStatement_0 rfl ?_
            refine zcVf ob_Mo gk_X9_98 dX9_readsStatement_1 (c_X9_here hl hp (by omega)) rfl (by decide) (Nat.le_of_ble_eq_true rfl) ?_ rfl
            refine zistore_n dX9_readsStatement_4 (by decide) rfl ?_
            refine zaload_n dX9_readsStatement_5 rfl ?_
            refine zdup dX9_readsStatement_6 rfl ?_
            refine gf_X9_95 rfl dX9_readsStatement_7 ?_
            rw [hp]
            refine ziconst (v := 1) dX9_readsStatement_10 (by decide) ?_
            refine ziadd dX9_readsStatement_11 ?_
            rw [nI_1]
            refine pf_X9_95 rfl dX9_readsStatement_12 ?_
            have hl1 := hl.fr (frP.rf.plc (v := nI (p + 1)))
            have hp1 : ((S.1, u2 S.2 0 11 (nI (p + 1))) : zSt).2 0 11 = nI (p + 1) := plcS
            have hf1 : frP S (S.1, u2 S.2 0 11 (nI (p + 1))) := frP.rf.plc
            refine ziload_n dX9_readsStatement_15 rfl ?_
            rw [he, hc]
            refine ztableIn (off := 138) (tgt := 154) dX9_readsStatement_16 (by decide +kernel) (by decide +kernel) (by decide +kernel) (by decide) ?_
            refine zaload_n dX9_readsStatement_154 rfl ?_
            refine ziconst (v := nI 0) dX9_readsStatement_155 (by decide) ?_
            refine ziconst (v := nI 1) dX9_readsStatement_156 (by decide) ?_
            refine zcVr ob_Mo gk_X9_109 dX9_readsStatement_157 (c_X9_readsNumber (k := 0) (d := 1) (by decide) (by decide) hl1 hp1 (by omega)) rfl (by decide) (Nat.le_of_ble_eq_true rfl) (fun r2 S2 hp2 => ?_) rfl
            obtain ⟨rfl, hq2, hv2, ho2, hf2⟩ := hp2
            have hl2 := hl1.fr hf2
            rw [e1] at hq2 hv2
            refine zifb_eq (tgt := 176) dX9_readsStatement_160 (by decide) (fun h => absurd (h.symm.trans hb) (by decide)) (fun _ => ?_)
            refine zaload_n dX9_readsStatement_163 rfl ?_
            refine ziconst (v := nI 1) dX9_readsStatement_164 (by decide) ?_
            refine ziconst (v := nI 2) dX9_readsStatement_165 (by decide) ?_
            refine zcVr ob_Mo gk_X9_109 dX9_readsStatement_166 (c_X9_readsNumber (p := p + 2) (k := 1) (d := 2) (by decide) (by decide) hl2 hq2 (by omega)) rfl (by decide) (Nat.le_of_ble_eq_true rfl) (fun r3 S3 hp3 => ?_) rfl
            obtain ⟨rfl, hq3, hv3, ho3, hf3⟩ := hp3
            have hl3 := hl2.fr hf3
            refine zifb_eq (tgt := 176) dX9_readsStatement_169 (by decide) (fun _ => ?_) (fun h => absurd (h.symm.trans hb2) (by decide))
            refine ziconst (v := 0) dX9_readsStatement_176 (by decide) ?_
            refine zistore_n dX9_readsStatement_177 (by decide) rfl ?_
            refine zgoto (tgt := 203) dX9_readsStatement_178 (by decide) ?_
            refine zlvs (lv' := [(0, .ref (zad x 0)), (2, .int (bI false))]) ⟨rfl, rfl, trivial⟩ ?_
            exact l_tailF (rsP_f hrs2 hq3 ((hf1.trans hf2).trans hf3))
        | false =>
          have hrs2 : rsF L N p = (false, (rnF L N 1 (p + 1) 0).2.1) := by rw [hrs0, mt_rn (2 + 1) 1 0 (p + 1) 0 (d48_1 rfl), if_neg (by rw [hb]; decide)]
          refine zaload_n dX9_readsStatement_0 rfl ?_
          refine zcVf ob_Mo gk_X9_98 dX9_readsStatement_1 (c_X9_here hl hp (by omega)) rfl (by decide) (Nat.le_of_ble_eq_true rfl) ?_ rfl
          refine zistore_n dX9_readsStatement_4 (by decide) rfl ?_
          refine zaload_n dX9_readsStatement_5 rfl ?_
          refine zdup dX9_readsStatement_6 rfl ?_
          refine gf_X9_95 rfl dX9_readsStatement_7 ?_
          rw [hp]
          refine ziconst (v := 1) dX9_readsStatement_10 (by decide) ?_
          refine ziadd dX9_readsStatement_11 ?_
          rw [nI_1]
          refine pf_X9_95 rfl dX9_readsStatement_12 ?_
          have hl1 := hl.fr (frP.rf.plc (v := nI (p + 1)))
          have hp1 : ((S.1, u2 S.2 0 11 (nI (p + 1))) : zSt).2 0 11 = nI (p + 1) := plcS
          have hf1 : frP S (S.1, u2 S.2 0 11 (nI (p + 1))) := frP.rf.plc
          refine ziload_n dX9_readsStatement_15 rfl ?_
          rw [he, hc]
          refine ztableIn (off := 138) (tgt := 154) dX9_readsStatement_16 (by decide +kernel) (by decide +kernel) (by decide +kernel) (by decide) ?_
          refine zaload_n dX9_readsStatement_154 rfl ?_
          refine ziconst (v := nI 0) dX9_readsStatement_155 (by decide) ?_
          refine ziconst (v := nI 1) dX9_readsStatement_156 (by decide) ?_
          refine zcVr ob_Mo gk_X9_109 dX9_readsStatement_157 (c_X9_readsNumber (k := 0) (d := 1) (by decide) (by decide) hl1 hp1 (by omega)) rfl (by decide) (Nat.le_of_ble_eq_true rfl) (fun r2 S2 hp2 => ?_) rfl
          obtain ⟨rfl, hq2, hv2, ho2, hf2⟩ := hp2
          have hl2 := hl1.fr hf2
          refine zifb_eq (tgt := 176) dX9_readsStatement_160 (by decide) (fun _ => ?_) (fun h => absurd (h.symm.trans hb) (by decide))
          refine ziconst (v := 0) dX9_readsStatement_176 (by decide) ?_
          refine zistore_n dX9_readsStatement_177 (by decide) rfl ?_
          refine zgoto (tgt := 203) dX9_readsStatement_178 (by decide) ?_
          refine zlvs (lv' := [(0, .ref (zad x 0)), (2, .int (bI false))]) ⟨rfl, rfl, trivial⟩ ?_
          exact l_tailF (rsP_f hrs2 hq2 (hf1.trans hf2))
  · have he : hereI L N p = -1 := if_neg hpl
    have hrs : rsF L N p = (false, p) := by unfold rsF; rw [if_neg (fun z => hpl z.1)]
    refine zaload_n dX9_readsStatement_0 rfl ?_
    refine zcVf ob_Mo gk_X9_98 dX9_readsStatement_1 (c_X9_here hl hp (by omega)) rfl (by decide) (Nat.le_of_ble_eq_true rfl) ?_ rfl
    refine zistore_n dX9_readsStatement_4 (by decide) rfl ?_
    refine zaload_n dX9_readsStatement_5 rfl ?_
    refine zdup dX9_readsStatement_6 rfl ?_
    refine gf_X9_95 rfl dX9_readsStatement_7 ?_
    rw [hp]
    refine ziconst (v := 1) dX9_readsStatement_10 (by decide) ?_
    refine ziadd dX9_readsStatement_11 ?_
    rw [nI_1]
    refine pf_X9_95 rfl dX9_readsStatement_12 ?_
    have hl1 := hl.fr (frP.rf.plc (v := nI (p + 1)))
    have hp1 : ((S.1, u2 S.2 0 11 (nI (p + 1))) : zSt).2 0 11 = nI (p + 1) := plcS
    have hf1 : frP S (S.1, u2 S.2 0 11 (nI (p + 1))) := frP.rf.plc
    refine ziload_n dX9_readsStatement_15 rfl ?_
    rw [he]
    refine ztableOut (tgt := 191) dX9_readsStatement_16 (by decide +kernel) (by decide) ?_
    refine zaload_n dX9_readsStatement_191 rfl ?_
    refine zdup dX9_readsStatement_192 rfl ?_
    refine gf_X9_95 rfl dX9_readsStatement_193 ?_
    rw [hp1]
    refine ziconst (v := 1) dX9_readsStatement_196 (by decide) ?_
    refine zisub dX9_readsStatement_197 ?_
    rw [nI_pred]
    refine pf_X9_95 rfl dX9_readsStatement_198 ?_
    refine ziconst (v := 0) dX9_readsStatement_201 (by decide) ?_
    exact zbret (q := false) dX9_readsStatement_202 rfl rfl (rsP_f hrs plcS frP.rf.plc.plc)
end TELL4
