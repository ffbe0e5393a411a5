/-! The public methods, tenth part: two -/
section PUB10
variable {x : zCx} {S : zSt} {σ σ' : Sig}

set_option maxRecDepth 100000 in
set_option maxHeartbeats 4000000 in
theorem fsc0 {post : Option Value → zSt → Prop} (hy : S.1 37 2 ≤ S.1 37 0 ∧ S.1 38 1 ≤ S.1 38 0 → post (some (.int 0)) S) (hn : ¬ (S.1 37 2 ≤ S.1 37 0 ∧ S.1 38 1 ≤ S.1 38 0) → zZ x true mX8_firstSettledChoice post 2 [(0, .ref (zad x 0)), (1, .int (nI 1))] [] S) : zZ x true mX8_firstSettledChoice post 2 [(0, .ref (zad x 0)), (1, .int (nI 0))] [] S := by
  by_cases g1 : S.1 37 2 ≤ S.1 37 0
  · by_cases g2 : S.1 38 1 ≤ S.1 38 0
    · refine ziload_n dX8_firstSettledChoice_2 rfl ?_
      refine ziconst (v := 4) dX8_firstSettledChoice_3 (by decide) ?_
      refine zicmp_ge (tgt := 78) dX8_firstSettledChoice_4 (by decide) (fun h => absurd h (nI_ge (b := 4) (by decide) (by decide))) (fun _ => ?_)
      refine zaload_n dX8_firstSettledChoice_7 rfl ?_
      refine gf_X8_59 rfl dX8_firstSettledChoice_8 ?_
      refine ziload_n dX8_firstSettledChoice_11 rfl ?_
      refine ziconst (v := 2) dX8_firstSettledChoice_12 (by decide) ?_
      refine zixor dX8_firstSettledChoice_13 ?_
      rw [show nI 0 ^^^ 2 = nI 2 from by decide]
      refine ziald dX8_firstSettledChoice_14 (by decide) rfl (by decide) (by decide) ?_
      refine zaload_n dX8_firstSettledChoice_15 rfl ?_
      refine gf_X8_59 rfl dX8_firstSettledChoice_16 ?_
      refine ziload_n dX8_firstSettledChoice_19 rfl ?_
      refine ziald dX8_firstSettledChoice_20 (by decide) rfl (by decide) (by decide) ?_
      refine zicmp_gt (tgt := 28) dX8_firstSettledChoice_21 (by decide) (fun h => absurd h (Int32.not_lt.mpr g1)) (fun _ => ?_)
      refine ziconst (v := 1) dX8_firstSettledChoice_24 (by decide) ?_
      refine zgoto (tgt := 29) dX8_firstSettledChoice_25 (by decide) ?_
      refine zistore_n dX8_firstSettledChoice_29 (by decide) rfl ?_
      refine zaload_n dX8_firstSettledChoice_30 rfl ?_
      refine gf_X8_62 rfl dX8_firstSettledChoice_31 ?_
      refine ziload_n dX8_firstSettledChoice_34 rfl ?_
      refine ziconst (v := 1) dX8_firstSettledChoice_35 (by decide) ?_
      refine zixor dX8_firstSettledChoice_36 ?_
      rw [show nI 0 ^^^ 1 = nI 1 from by decide]
      refine ziald dX8_firstSettledChoice_37 (by decide) rfl (by decide) (by decide) ?_
      refine zaload_n dX8_firstSettledChoice_38 rfl ?_
      refine gf_X8_62 rfl dX8_firstSettledChoice_39 ?_
      refine ziload_n dX8_firstSettledChoice_42 rfl ?_
      refine ziald dX8_firstSettledChoice_43 (by decide) rfl (by decide) (by decide) ?_
      refine zicmp_gt (tgt := 51) dX8_firstSettledChoice_44 (by decide) (fun h => absurd h (Int32.not_lt.mpr g2)) (fun _ => ?_)
      refine ziconst (v := 1) dX8_firstSettledChoice_47 (by decide) ?_
      refine zgoto (tgt := 52) dX8_firstSettledChoice_48 (by decide) ?_
      refine zistore_n dX8_firstSettledChoice_52 (by decide) rfl ?_
      refine ziload_n dX8_firstSettledChoice_53 rfl ?_
      refine zif_eq (tgt := 72) dX8_firstSettledChoice_54 (by decide) (fun h => absurd h (by decide)) (fun _ => ?_)
      refine ziload_n dX8_firstSettledChoice_57 rfl ?_
      refine zif_eq (tgt := 72) dX8_firstSettledChoice_58 (by decide) (fun h => absurd h (by decide)) (fun _ => ?_)
      refine zbipush (v := 10) dX8_firstSettledChoice_61 (by decide) ?_
      refine ziload_n dX8_firstSettledChoice_63 rfl ?_
      refine ziconst (v := 2) dX8_firstSettledChoice_64 (by decide) ?_
      refine zidiv dX8_firstSettledChoice_65 (by decide) ?_
      refine zimul dX8_firstSettledChoice_66 ?_
      refine ziload_n dX8_firstSettledChoice_67 rfl ?_
      refine ziconst (v := 2) dX8_firstSettledChoice_68 (by decide) ?_
      refine zirem dX8_firstSettledChoice_69 (by decide) ?_
      refine ziadd dX8_firstSettledChoice_70 ?_
      exact zireturn dX8_firstSettledChoice_71 rfl rfl (by rw [show (10 : Int32) * (nI 0 / 2) + (nI 0 - nI 0 / 2 * 2) = 0 from by decide]; exact hy ⟨g1, g2⟩)
    · refine ziload_n dX8_firstSettledChoice_2 rfl ?_
      refine ziconst (v := 4) dX8_firstSettledChoice_3 (by decide) ?_
      refine zicmp_ge (tgt := 78) dX8_firstSettledChoice_4 (by decide) (fun h => absurd h (nI_ge (b := 4) (by decide) (by decide))) (fun _ => ?_)
      refine zaload_n dX8_firstSettledChoice_7 rfl ?_
      refine gf_X8_59 rfl dX8_firstSettledChoice_8 ?_
      refine ziload_n dX8_firstSettledChoice_11 rfl ?_
      refine ziconst (v := 2) dX8_firstSettledChoice_12 (by decide) ?_
      refine zixor dX8_firstSettledChoice_13 ?_
      rw [show nI 0 ^^^ 2 = nI 2 from by decide]
      refine ziald dX8_firstSettledChoice_14 (by decide) rfl (by decide) (by decide) ?_
      refine zaload_n dX8_firstSettledChoice_15 rfl ?_
      refine gf_X8_59 rfl dX8_firstSettledChoice_16 ?_
      refine ziload_n dX8_firstSettledChoice_19 rfl ?_
      refine ziald dX8_firstSettledChoice_20 (by decide) rfl (by decide) (by decide) ?_
      refine zicmp_gt (tgt := 28) dX8_firstSettledChoice_21 (by decide) (fun h => absurd h (Int32.not_lt.mpr g1)) (fun _ => ?_)
      refine ziconst (v := 1) dX8_firstSettledChoice_24 (by decide) ?_
      refine zgoto (tgt := 29) dX8_firstSettledChoice_25 (by decide) ?_
      refine zistore_n dX8_firstSettledChoice_29 (by decide) rfl ?_
      refine zaload_n dX8_firstSettledChoice_30 rfl ?_
      refine gf_X8_62 rfl dX8_firstSettledChoice_31 ?_
      refine ziload_n dX8_firstSettledChoice_34 rfl ?_
      refine ziconst (v := 1) dX8_firstSettledChoice_35 (by decide) ?_
      refine zixor dX8_firstSettledChoice_36 ?_
      rw [show nI 0 ^^^ 1 = nI 1 from by decide]
      refine ziald dX8_firstSettledChoice_37 (by decide) rfl (by decide) (by decide) ?_
      refine zaload_n dX8_firstSettledChoice_38 rfl ?_
      refine gf_X8_62 rfl dX8_firstSettledChoice_39 ?_
      refine ziload_n dX8_firstSettledChoice_42 rfl ?_
      refine ziald dX8_firstSettledChoice_43 (by decide) rfl (by decide) (by decide) ?_
      refine zicmp_gt (tgt := 51) dX8_firstSettledChoice_44 (by decide) (fun _ => ?_) (fun h => absurd (Int32.not_le.mp g2) h)
      refine ziconst (v := 0) dX8_firstSettledChoice_51 (by decide) ?_
      refine zistore_n dX8_firstSettledChoice_52 (by decide) rfl ?_
      refine ziload_n dX8_firstSettledChoice_53 rfl ?_
      refine zif_eq (tgt := 72) dX8_firstSettledChoice_54 (by decide) (fun h => absurd h (by decide)) (fun _ => ?_)
      refine ziload_n dX8_firstSettledChoice_57 rfl ?_
      refine zif_eq (tgt := 72) dX8_firstSettledChoice_58 (by decide) (fun _ => ?_) (fun h => absurd rfl h)
      refine ziinc dX8_firstSettledChoice_72 rfl rfl (by decide) rfl ?_
      refine zgoto (tgt := 2) dX8_firstSettledChoice_75 (by decide) ?_
      refine zlvs (lv' := [(0, .ref (zad x 0)), (1, .int (nI 1))]) ⟨rfl, rfl, trivial⟩ ?_
      exact hn (fun z => absurd z.2 g2)
  · by_cases g2 : S.1 38 1 ≤ S.1 38 0
    · refine ziload_n dX8_firstSettledChoice_2 rfl ?_
      refine ziconst (v := 4) dX8_firstSettledChoice_3 (by decide) ?_
      refine zicmp_ge (tgt := 78) dX8_firstSettledChoice_4 (by decide) (fun h => absurd h (nI_ge (b := 4) (by decide) (by decide))) (fun _ => ?_)
      refine zaload_n dX8_firstSettledChoice_7 rfl ?_
      refine gf_X8_59 rfl dX8_firstSettledChoice_8 ?_
      refine ziload_n dX8_firstSettledChoice_11 rfl ?_
      refine ziconst (v := 2) dX8_firstSettledChoice_12 (by decide) ?_
      refine zixor dX8_firstSettledChoice_13 ?_
      rw [show nI 0 ^^^ 2 = nI 2 from by decide]
      refine ziald dX8_firstSettledChoice_14 (by decide) rfl (by decide) (by decide) ?_
      refine zaload_n dX8_firstSettledChoice_15 rfl ?_
      refine gf_X8_59 rfl dX8_firstSettledChoice_16 ?_
      refine ziload_n dX8_firstSettledChoice_19 rfl ?_
      refine ziald dX8_firstSettledChoice_20 (by decide) rfl (by decide) (by decide) ?_
      refine zicmp_gt (tgt := 28) dX8_firstSettledChoice_21 (by decide) (fun _ => ?_) (fun h => absurd (Int32.not_le.mp g1) h)
      refine ziconst (v := 0) dX8_firstSettledChoice_28 (by decide) ?_
      refine zistore_n dX8_firstSettledChoice_29 (by decide) rfl ?_
      refine zaload_n dX8_firstSettledChoice_30 rfl ?_
      refine gf_X8_62 rfl dX8_firstSettledChoice_31 ?_
      refine ziload_n dX8_firstSettledChoice_34 rfl ?_
      refine ziconst (v := 1) dX8_firstSettledChoice_35 (by decide) ?_
      refine zixor dX8_firstSettledChoice_36 ?_
      rw [show nI 0 ^^^ 1 = nI 1 from by decide]
      refine ziald dX8_firstSettledChoice_37 (by decide) rfl (by decide) (by decide) ?_
      refine zaload_n dX8_firstSettledChoice_38 rfl ?_
      refine gf_X8_62 rfl dX8_firstSettledChoice_39 ?_
      refine ziload_n dX8_firstSettledChoice_42 rfl ?_
      refine ziald dX8_firstSettledChoice_43 (by decide) rfl (by decide) (by decide) ?_
      refine zicmp_gt (tgt := 51) dX8_firstSettledChoice_44 (by decide) (fun h => absurd h (Int32.not_lt.mpr g2)) (fun _ => ?_)
      refine ziconst (v := 1) dX8_firstSettledChoice_47 (by decide) ?_
      refine zgoto (tgt := 52) dX8_firstSettledChoice_48 (by decide) ?_
      refine zistore_n dX8_firstSettledChoice_52 (by decide) rfl ?_
      refine ziload_n dX8_firstSettledChoice_53 rfl ?_
      refine zif_eq (tgt := 72) dX8_firstSettledChoice_54 (by decide) (fun _ => ?_) (fun h => absurd rfl h)
      refine ziinc dX8_firstSettledChoice_72 rfl rfl (by decide) rfl ?_
      refine zgoto (tgt := 2) dX8_firstSettledChoice_75 (by decide) ?_
      refine zlvs (lv' := [(0, .ref (zad x 0)), (1, .int (nI 1))]) ⟨rfl, rfl, trivial⟩ ?_
      exact hn (fun z => absurd z.1 g1)
    · refine ziload_n dX8_firstSettledChoice_2 rfl ?_
      refine ziconst (v := 4) dX8_firstSettledChoice_3 (by decide) ?_
      refine zicmp_ge (tgt := 78) dX8_firstSettledChoice_4 (by decide) (fun h => absurd h (nI_ge (b := 4) (by decide) (by decide))) (fun _ => ?_)
      refine zaload_n dX8_firstSettledChoice_7 rfl ?_
      refine gf_X8_59 rfl dX8_firstSettledChoice_8 ?_
      refine ziload_n dX8_firstSettledChoice_11 rfl ?_
      refine ziconst (v := 2) dX8_firstSettledChoice_12 (by decide) ?_
      refine zixor dX8_firstSettledChoice_13 ?_
      rw [show nI 0 ^^^ 2 = nI 2 from by decide]
      refine ziald dX8_firstSettledChoice_14 (by decide) rfl (by decide) (by decide) ?_
      refine zaload_n dX8_firstSettledChoice_15 rfl ?_
      refine gf_X8_59 rfl dX8_firstSettledChoice_16 ?_
      refine ziload_n dX8_firstSettledChoice_19 rfl ?_
      refine ziald dX8_firstSettledChoice_20 (by decide) rfl (by decide) (by decide) ?_
      refine zicmp_gt (tgt := 28) dX8_firstSettledChoice_21 (by decide) (fun _ => ?_) (fun h => absurd (Int32.not_le.mp g1) h)
      refine ziconst (v := 0) dX8_firstSettledChoice_28 (by decide) ?_
      refine zistore_n dX8_firstSettledChoice_29 (by decide) rfl ?_
      refine zaload_n dX8_firstSettledChoice_30 rfl ?_
      refine gf_X8_62 rfl dX8_firstSettledChoice_31 ?_
      refine ziload_n dX8_firstSettledChoice_34 rfl ?_
      refine ziconst (v := 1) dX8_firstSettledChoice_35 (by decide) ?_
      refine zixor dX8_firstSettledChoice_36 ?_
      rw [show nI 0 ^^^ 1 = nI 1 from by decide]
      refine ziald dX8_firstSettledChoice_37 (by decide) rfl (by decide) (by decide) ?_
      refine zaload_n dX8_firstSettledChoice_38 rfl ?_
      refine gf_X8_62 rfl dX8_firstSettledChoice_39 ?_
      refine ziload_n dX8_firstSettledChoice_42 rfl ?_
      refine ziald dX8_firstSettledChoice_43 (by decide) rfl (by decide) (by decide) ?_
      refine zicmp_gt (tgt := 51) dX8_firstSettledChoice_44 (by decide) (fun _ => ?_) (fun h => absurd (Int32.not_le.mp g2) h)
      refine ziconst (v := 0) dX8_firstSettledChoice_51 (by decide) ?_
      refine zistore_n dX8_firstSettledChoice_52 (by decide) rfl ?_
      refine ziload_n dX8_firstSettledChoice_53 rfl ?_
      refine zif_eq (tgt := 72) dX8_firstSettledChoice_54 (by decide) (fun _ => ?_) (fun h => absurd rfl h)
      refine ziinc dX8_firstSettledChoice_72 rfl rfl (by decide) rfl ?_
      refine zgoto (tgt := 2) dX8_firstSettledChoice_75 (by decide) ?_
      refine zlvs (lv' := [(0, .ref (zad x 0)), (1, .int (nI 1))]) ⟨rfl, rfl, trivial⟩ ?_
      exact hn (fun z => absurd z.1 g1)
set_option maxRecDepth 100000 in
set_option maxHeartbeats 4000000 in
theorem fsc1 {post : Option Value → zSt → Prop} (hy : S.1 37 3 ≤ S.1 37 1 ∧ S.1 38 0 ≤ S.1 38 1 → post (some (.int 1)) S) (hn : ¬ (S.1 37 3 ≤ S.1 37 1 ∧ S.1 38 0 ≤ S.1 38 1) → zZ x true mX8_firstSettledChoice post 2 [(0, .ref (zad x 0)), (1, .int (nI 2))] [] S) : zZ x true mX8_firstSettledChoice post 2 [(0, .ref (zad x 0)), (1, .int (nI 1))] [] S := by
  by_cases g1 : S.1 37 3 ≤ S.1 37 1
  · by_cases g2 : S.1 38 0 ≤ S.1 38 1
    · refine ziload_n dX8_firstSettledChoice_2 rfl ?_
      refine ziconst (v := 4) dX8_firstSettledChoice_3 (by decide) ?_
      refine zicmp_ge (tgt := 78) dX8_firstSettledChoice_4 (by decide) (fun h => absurd h (nI_ge (b := 4) (by decide) (by decide))) (fun _ => ?_)
      refine zaload_n dX8_firstSettledChoice_7 rfl ?_
      refine gf_X8_59 rfl dX8_firstSettledChoice_8 ?_
      refine ziload_n dX8_firstSettledChoice_11 rfl ?_
      refine ziconst (v := 2) dX8_firstSettledChoice_12 (by decide) ?_
      refine zixor dX8_firstSettledChoice_13 ?_
      rw [show nI 1 ^^^ 2 = nI 3 from by decide]
      refine ziald dX8_firstSettledChoice_14 (by decide) rfl (by decide) (by decide) ?_
      refine zaload_n dX8_firstSettledChoice_15 rfl ?_
      refine gf_X8_59 rfl dX8_firstSettledChoice_16 ?_
      refine ziload_n dX8_firstSettledChoice_19 rfl ?_
      refine ziald dX8_firstSettledChoice_20 (by decide) rfl (by decide) (by decide) ?_
      refine zicmp_gt (tgt := 28) dX8_firstSettledChoice_21 (by decide) (fun h => absurd h (Int32.not_lt.mpr g1)) (fun _ => ?_)
      refine ziconst (v := 1) dX8_firstSettledChoice_24 (by decide) ?_
      refine zgoto (tgt := 29) dX8_firstSettledChoice_25 (by decide) ?_
      refine zistore_n dX8_firstSettledChoice_29 (by decide) rfl ?_
      refine zaload_n dX8_firstSettledChoice_30 rfl ?_
      refine gf_X8_62 rfl dX8_firstSettledChoice_31 ?_
      refine ziload_n dX8_firstSettledChoice_34 rfl ?_
      refine ziconst (v := 1) dX8_firstSettledChoice_35 (by decide) ?_
      refine zixor dX8_firstSettledChoice_36 ?_
      rw [show nI 1 ^^^ 1 = nI 0 from by decide]
      refine ziald dX8_firstSettledChoice_37 (by decide) rfl (by decide) (by decide) ?_
      refine zaload_n dX8_firstSettledChoice_38 rfl ?_
      refine gf_X8_62 rfl dX8_firstSettledChoice_39 ?_
      refine ziload_n dX8_firstSettledChoice_42 rfl ?_
      refine ziald dX8_firstSettledChoice_43 (by decide) rfl (by decide) (by decide) ?_
      refine zicmp_gt (tgt := 51) dX8_firstSettledChoice_44 (by decide) (fun h => absurd h (Int32.not_lt.mpr g2)) (fun _ => ?_)
      refine ziconst (v := 1) dX8_firstSettledChoice_47 (by decide) ?_
      refine zgoto (tgt := 52) dX8_firstSettledChoice_48 (by decide) ?_
      refine zistore_n dX8_firstSettledChoice_52 (by decide) rfl ?_
      refine ziload_n dX8_firstSettledChoice_53 rfl ?_
      refine zif_eq (tgt := 72) dX8_firstSettledChoice_54 (by decide) (fun h => absurd h (by decide)) (fun _ => ?_)
      refine ziload_n dX8_firstSettledChoice_57 rfl ?_
      refine zif_eq (tgt := 72) dX8_firstSettledChoice_58 (by decide) (fun h => absurd h (by decide)) (fun _ => ?_)
      refine zbipush (v := 10) dX8_firstSettledChoice_61 (by decide) ?_
      refine ziload_n dX8_firstSettledChoice_63 rfl ?_
      refine ziconst (v := 2) dX8_firstSettledChoice_64 (by decide) ?_
      refine zidiv dX8_firstSettledChoice_65 (by decide) ?_
      refine zimul dX8_firstSettledChoice_66 ?_
      refine ziload_n dX8_firstSettledChoice_67 rfl ?_
      refine ziconst (v := 2) dX8_firstSettledChoice_68 (by decide) ?_
      refine zirem dX8_firstSettledChoice_69 (by decide) ?_
      refine ziadd dX8_firstSettledChoice_70 ?_
      exact zireturn dX8_firstSettledChoice_71 rfl rfl (by rw [show (10 : Int32) * (nI 1 / 2) + (nI 1 - nI 1 / 2 * 2) = 1 from by decide]; exact hy ⟨g1, g2⟩)
    · refine ziload_n dX8_firstSettledChoice_2 rfl ?_
      refine ziconst (v := 4) dX8_firstSettledChoice_3 (by decide) ?_
      refine zicmp_ge (tgt := 78) dX8_firstSettledChoice_4 (by decide) (fun h => absurd h (nI_ge (b := 4) (by decide) (by decide))) (fun _ => ?_)
      refine zaload_n dX8_firstSettledChoice_7 rfl ?_
      refine gf_X8_59 rfl dX8_firstSettledChoice_8 ?_
      refine ziload_n dX8_firstSettledChoice_11 rfl ?_
      refine ziconst (v := 2) dX8_firstSettledChoice_12 (by decide) ?_
      refine zixor dX8_firstSettledChoice_13 ?_
      rw [show nI 1 ^^^ 2 = nI 3 from by decide]
      refine ziald dX8_firstSettledChoice_14 (by decide) rfl (by decide) (by decide) ?_
      refine zaload_n dX8_firstSettledChoice_15 rfl ?_
      refine gf_X8_59 rfl dX8_firstSettledChoice_16 ?_
      refine ziload_n dX8_firstSettledChoice_19 rfl ?_
      refine ziald dX8_firstSettledChoice_20 (by decide) rfl (by decide) (by decide) ?_
      refine zicmp_gt (tgt := 28) dX8_firstSettledChoice_21 (by decide) (fun h => absurd h (Int32.not_lt.mpr g1)) (fun _ => ?_)
      refine ziconst (v := 1) dX8_firstSettledChoice_24 (by decide) ?_
      refine zgoto (tgt := 29) dX8_firstSettledChoice_25 (by decide) ?_
      refine zistore_n dX8_firstSettledChoice_29 (by decide) rfl ?_
      refine zaload_n dX8_firstSettledChoice_30 rfl ?_
      refine gf_X8_62 rfl dX8_firstSettledChoice_31 ?_
      refine ziload_n dX8_firstSettledChoice_34 rfl ?_
      refine ziconst (v := 1) dX8_firstSettledChoice_35 (by decide) ?_
      refine zixor dX8_firstSettledChoice_36 ?_
      rw [show nI 1 ^^^ 1 = nI 0 from by decide]
      refine ziald dX8_firstSettledChoice_37 (by decide) rfl (by decide) (by decide) ?_
      refine zaload_n dX8_firstSettledChoice_38 rfl ?_
      refine gf_X8_62 rfl dX8_firstSettledChoice_39 ?_
      refine ziload_n dX8_firstSettledChoice_42 rfl ?_
      refine ziald dX8_firstSettledChoice_43 (by decide) rfl (by decide) (by decide) ?_
      refine zicmp_gt (tgt := 51) dX8_firstSettledChoice_44 (by decide) (fun _ => ?_) (fun h => absurd (Int32.not_le.mp g2) h)
      refine ziconst (v := 0) dX8_firstSettledChoice_51 (by decide) ?_
      refine zistore_n dX8_firstSettledChoice_52 (by decide) rfl ?_
      refine ziload_n dX8_firstSettledChoice_53 rfl ?_
      refine zif_eq (tgt := 72) dX8_firstSettledChoice_54 (by decide) (fun h => absurd h (by decide)) (fun _ => ?_)
      refine ziload_n dX8_firstSettledChoice_57 rfl ?_
      refine zif_eq (tgt := 72) dX8_firstSettledChoice_58 (by decide) (fun _ => ?_) (fun h => absurd rfl h)
      refine ziinc dX8_firstSettledChoice_72 rfl rfl (by decide) rfl ?_
      refine zgoto (tgt := 2) dX8_firstSettledChoice_75 (by decide) ?_
      refine zlvs (lv' := [(0, .ref (zad x 0)), (1, .int (nI 2))]) ⟨rfl, rfl, trivial⟩ ?_
      exact hn (fun z => absurd z.2 g2)
  · by_cases g2 : S.1 38 0 ≤ S.1 38 1
    · refine ziload_n dX8_firstSettledChoice_2 rfl ?_
      refine ziconst (v := 4) dX8_firstSettledChoice_3 (by decide) ?_
      refine zicmp_ge (tgt := 78) dX8_firstSettledChoice_4 (by decide) (fun h => absurd h (nI_ge (b := 4) (by decide) (by decide))) (fun _ => ?_)
      refine zaload_n dX8_firstSettledChoice_7 rfl ?_
      refine gf_X8_59 rfl dX8_firstSettledChoice_8 ?_
      refine ziload_n dX8_firstSettledChoice_11 rfl ?_
      refine ziconst (v := 2) dX8_firstSettledChoice_12 (by decide) ?_
      refine zixor dX8_firstSettledChoice_13 ?_
      rw [show nI 1 ^^^ 2 = nI 3 from by decide]
      refine ziald dX8_firstSettledChoice_14 (by decide) rfl (by decide) (by decide) ?_
      refine zaload_n dX8_firstSettledChoice_15 rfl ?_
      refine gf_X8_59 rfl dX8_firstSettledChoice_16 ?_
      refine ziload_n dX8_firstSettledChoice_19 rfl ?_
      refine ziald dX8_firstSettledChoice_20 (by decide) rfl (by decide) (by decide) ?_
      refine zicmp_gt (tgt := 28) dX8_firstSettledChoice_21 (by decide) (fun _ => ?_) (fun h => absurd (Int32.not_le.mp g1) h)
      refine ziconst (v := 0) dX8_firstSettledChoice_28 (by decide) ?_
      refine zistore_n dX8_firstSettledChoice_29 (by decide) rfl ?_
      refine zaload_n dX8_firstSettledChoice_30 rfl ?_
      refine gf_X8_62 rfl dX8_firstSettledChoice_31 ?_
      refine ziload_n dX8_firstSettledChoice_34 rfl ?_
      refine ziconst (v := 1) dX8_firstSettledChoice_35 (by decide) ?_
      refine zixor dX8_firstSettledChoice_36 ?_
      rw [show nI 1 ^^^ 1 = nI 0 from by decide]
      refine ziald dX8_firstSettledChoice_37 (by decide) rfl (by decide) (by decide) ?_
      refine zaload_n dX8_firstSettledChoice_38 rfl ?_
      refine gf_X8_62 rfl dX8_firstSettledChoice_39 ?_
      refine ziload_n dX8_firstSettledChoice_42 rfl ?_
      refine ziald dX8_firstSettledChoice_43 (by decide) rfl (by decide) (by decide) ?_
      refine zicmp_gt (tgt := 51) dX8_firstSettledChoice_44 (by decide) (fun h => absurd h (Int32.not_lt.mpr g2)) (fun _ => ?_)
      refine ziconst (v := 1) dX8_firstSettledChoice_47 (by decide) ?_
      refine zgoto (tgt := 52) dX8_firstSettledChoice_48 (by decide) ?_
      refine zistore_n dX8_firstSettledChoice_52 (by decide) rfl ?_
      refine ziload_n dX8_firstSettledChoice_53 rfl ?_
      refine zif_eq (tgt := 72) dX8_firstSettledChoice_54 (by decide) (fun _ => ?_) (fun h => absurd rfl h)
      refine ziinc dX8_firstSettledChoice_72 rfl rfl (by decide) rfl ?_
      refine zgoto (tgt := 2) dX8_firstSettledChoice_75 (by decide) ?_
      refine zlvs (lv' := [(0, .ref (zad x 0)), (1, .int (nI 2))]) ⟨rfl, rfl, trivial⟩ ?_
      exact hn (fun z => absurd z.1 g1)
    · refine ziload_n dX8_firstSettledChoice_2 rfl ?_
      refine ziconst (v := 4) dX8_firstSettledChoice_3 (by decide) ?_
      refine zicmp_ge (tgt := 78) dX8_firstSettledChoice_4 (by decide) (fun h => absurd h (nI_ge (b := 4) (by decide) (by decide))) (fun _ => ?_)
      refine zaload_n dX8_firstSettledChoice_7 rfl ?_
      refine gf_X8_59 rfl dX8_firstSettledChoice_8 ?_
      refine ziload_n dX8_firstSettledChoice_11 rfl ?_
      refine ziconst (v := 2) dX8_firstSettledChoice_12 (by decide) ?_
      refine zixor dX8_firstSettledChoice_13 ?_
      rw [show nI 1 ^^^ 2 = nI 3 from by decide]
      refine ziald dX8_firstSettledChoice_14 (by decide) rfl (by decide) (by decide) ?_
      refine zaload_n dX8_firstSettledChoice_15 rfl ?_
      refine gf_X8_59 rfl dX8_firstSettledChoice_16 ?_
      refine ziload_n dX8_firstSettledChoice_19 rfl ?_
      refine ziald dX8_firstSettledChoice_20 (by decide) rfl (by decide) (by decide) ?_
      refine zicmp_gt (tgt := 28) dX8_firstSettledChoice_21 (by decide) (fun _ => ?_) (fun h => absurd (Int32.not_le.mp g1) h)
      refine ziconst (v := 0) dX8_firstSettledChoice_28 (by decide) ?_
      refine zistore_n dX8_firstSettledChoice_29 (by decide) rfl ?_
      refine zaload_n dX8_firstSettledChoice_30 rfl ?_
      refine gf_X8_62 rfl dX8_firstSettledChoice_31 ?_
      refine ziload_n dX8_firstSettledChoice_34 rfl ?_
      refine ziconst (v := 1) dX8_firstSettledChoice_35 (by decide) ?_
      refine zixor dX8_firstSettledChoice_36 ?_
      rw [show nI 1 ^^^ 1 = nI 0 from by decide]
      refine ziald dX8_firstSettledChoice_37 (by decide) rfl (by decide) (by decide) ?_
      refine zaload_n dX8_firstSettledChoice_38 rfl ?_
      refine gf_X8_62 rfl dX8_firstSettledChoice_39 ?_
      refine ziload_n dX8_firstSettledChoice_42 rfl ?_
      refine ziald dX8_firstSettledChoice_43 (by decide) rfl (by decide) (by decide) ?_
      refine zicmp_gt (tgt := 51) dX8_firstSettledChoice_44 (by decide) (fun _ => ?_) (fun h => absurd (Int32.not_le.mp g2) h)
      refine ziconst (v := 0) dX8_firstSettledChoice_51 (by decide) ?_
      refine zistore_n dX8_firstSettledChoice_52 (by decide) rfl ?_
      refine ziload_n dX8_firstSettledChoice_53 rfl ?_
      refine zif_eq (tgt := 72) dX8_firstSettledChoice_54 (by decide) (fun _ => ?_) (fun h => absurd rfl h)
      refine ziinc dX8_firstSettledChoice_72 rfl rfl (by decide) rfl ?_
      refine zgoto (tgt := 2) dX8_firstSettledChoice_75 (by decide) ?_
      refine zlvs (lv' := [(0, .ref (zad x 0)), (1, .int (nI 2))]) ⟨rfl, rfl, trivial⟩ ?_
      exact hn (fun z => absurd z.1 g1)
set_option maxRecDepth 100000 in
set_option maxHeartbeats 4000000 in
theorem fsc2 {post : Option Value → zSt → Prop} (hy : S.1 37 0 ≤ S.1 37 2 ∧ S.1 38 3 ≤ S.1 38 2 → post (some (.int 10)) S) (hn : ¬ (S.1 37 0 ≤ S.1 37 2 ∧ S.1 38 3 ≤ S.1 38 2) → zZ x true mX8_firstSettledChoice post 2 [(0, .ref (zad x 0)), (1, .int (nI 3))] [] S) : zZ x true mX8_firstSettledChoice post 2 [(0, .ref (zad x 0)), (1, .int (nI 2))] [] S := by
  by_cases g1 : S.1 37 0 ≤ S.1 37 2
  · by_cases g2 : S.1 38 3 ≤ S.1 38 2
    · refine ziload_n dX8_firstSettledChoice_2 rfl ?_
      refine ziconst (v := 4) dX8_firstSettledChoice_3 (by decide) ?_
      refine zicmp_ge (tgt := 78) dX8_firstSettledChoice_4 (by decide) (fun h => absurd h (nI_ge (b := 4) (by decide) (by decide))) (fun _ => ?_)
      refine zaload_n dX8_firstSettledChoice_7 rfl ?_
      refine gf_X8_59 rfl dX8_firstSettledChoice_8 ?_
      refine ziload_n dX8_firstSettledChoice_11 rfl ?_
      refine ziconst (v := 2) dX8_firstSettledChoice_12 (by decide) ?_
      refine zixor dX8_firstSettledChoice_13 ?_
      rw [show nI 2 ^^^ 2 = nI 0 from by decide]
      refine ziald dX8_firstSettledChoice_14 (by decide) rfl (by decide) (by decide) ?_
      refine zaload_n dX8_firstSettledChoice_15 rfl ?_
      refine gf_X8_59 rfl dX8_firstSettledChoice_16 ?_
      refine ziload_n dX8_firstSettledChoice_19 rfl ?_
      refine ziald dX8_firstSettledChoice_20 (by decide) rfl (by decide) (by decide) ?_
      refine zicmp_gt (tgt := 28) dX8_firstSettledChoice_21 (by decide) (fun h => absurd h (Int32.not_lt.mpr g1)) (fun _ => ?_)
      refine ziconst (v := 1) dX8_firstSettledChoice_24 (by decide) ?_
      refine zgoto (tgt := 29) dX8_firstSettledChoice_25 (by decide) ?_
      refine zistore_n dX8_firstSettledChoice_29 (by decide) rfl ?_
      refine zaload_n dX8_firstSettledChoice_30 rfl ?_
      refine gf_X8_62 rfl dX8_firstSettledChoice_31 ?_
      refine ziload_n dX8_firstSettledChoice_34 rfl ?_
      refine ziconst (v := 1) dX8_firstSettledChoice_35 (by decide) ?_
      refine zixor dX8_firstSettledChoice_36 ?_
      rw [show nI 2 ^^^ 1 = nI 3 from by decide]
      refine ziald dX8_firstSettledChoice_37 (by decide) rfl (by decide) (by decide) ?_
      refine zaload_n dX8_firstSettledChoice_38 rfl ?_
      refine gf_X8_62 rfl dX8_firstSettledChoice_39 ?_
      refine ziload_n dX8_firstSettledChoice_42 rfl ?_
      refine ziald dX8_firstSettledChoice_43 (by decide) rfl (by decide) (by decide) ?_
      refine zicmp_gt (tgt := 51) dX8_firstSettledChoice_44 (by decide) (fun h => absurd h (Int32.not_lt.mpr g2)) (fun _ => ?_)
      refine ziconst (v := 1) dX8_firstSettledChoice_47 (by decide) ?_
      refine zgoto (tgt := 52) dX8_firstSettledChoice_48 (by decide) ?_
      refine zistore_n dX8_firstSettledChoice_52 (by decide) rfl ?_
      refine ziload_n dX8_firstSettledChoice_53 rfl ?_
      refine zif_eq (tgt := 72) dX8_firstSettledChoice_54 (by decide) (fun h => absurd h (by decide)) (fun _ => ?_)
      refine ziload_n dX8_firstSettledChoice_57 rfl ?_
      refine zif_eq (tgt := 72) dX8_firstSettledChoice_58 (by decide) (fun h => absurd h (by decide)) (fun _ => ?_)
      refine zbipush (v := 10) dX8_firstSettledChoice_61 (by decide) ?_
      refine ziload_n dX8_firstSettledChoice_63 rfl ?_
      refine ziconst (v := 2) dX8_firstSettledChoice_64 (by decide) ?_
      refine zidiv dX8_firstSettledChoice_65 (by decide) ?_
      refine zimul dX8_firstSettledChoice_66 ?_
      refine ziload_n dX8_firstSettledChoice_67 rfl ?_
      refine ziconst (v := 2) dX8_firstSettledChoice_68 (by decide) ?_
      refine zirem dX8_firstSettledChoice_69 (by decide) ?_
      refine ziadd dX8_firstSettledChoice_70 ?_
      exact zireturn dX8_firstSettledChoice_71 rfl rfl (by rw [show (10 : Int32) * (nI 2 / 2) + (nI 2 - nI 2 / 2 * 2) = 10 from by decide]; exact hy ⟨g1, g2⟩)
    · refine ziload_n dX8_firstSettledChoice_2 rfl ?_
      refine ziconst (v := 4) dX8_firstSettledChoice_3 (by decide) ?_
      refine zicmp_ge (tgt := 78) dX8_firstSettledChoice_4 (by decide) (fun h => absurd h (nI_ge (b := 4) (by decide) (by decide))) (fun _ => ?_)
      refine zaload_n dX8_firstSettledChoice_7 rfl ?_
      refine gf_X8_59 rfl dX8_firstSettledChoice_8 ?_
      refine ziload_n dX8_firstSettledChoice_11 rfl ?_
      refine ziconst (v := 2) dX8_firstSettledChoice_12 (by decide) ?_
      refine zixor dX8_firstSettledChoice_13 ?_
      rw [show nI 2 ^^^ 2 = nI 0 from by decide]
      refine ziald dX8_firstSettledChoice_14 (by decide) rfl (by decide) (by decide) ?_
      refine zaload_n dX8_firstSettledChoice_15 rfl ?_
      refine gf_X8_59 rfl dX8_firstSettledChoice_16 ?_
      refine ziload_n dX8_firstSettledChoice_19 rfl ?_
      refine ziald dX8_firstSettledChoice_20 (by decide) rfl (by decide) (by decide) ?_
      refine zicmp_gt (tgt := 28) dX8_firstSettledChoice_21 (by decide) (fun h => absurd h (Int32.not_lt.mpr g1)) (fun _ => ?_)
      refine ziconst (v := 1) dX8_firstSettledChoice_24 (by decide) ?_
      refine zgoto (tgt := 29) dX8_firstSettledChoice_25 (by decide) ?_
      refine zistore_n dX8_firstSettledChoice_29 (by decide) rfl ?_
      refine zaload_n dX8_firstSettledChoice_30 rfl ?_
      refine gf_X8_62 rfl dX8_firstSettledChoice_31 ?_
      refine ziload_n dX8_firstSettledChoice_34 rfl ?_
      refine ziconst (v := 1) dX8_firstSettledChoice_35 (by decide) ?_
      refine zixor dX8_firstSettledChoice_36 ?_
      rw [show nI 2 ^^^ 1 = nI 3 from by decide]
      refine ziald dX8_firstSettledChoice_37 (by decide) rfl (by decide) (by decide) ?_
      refine zaload_n dX8_firstSettledChoice_38 rfl ?_
      refine gf_X8_62 rfl dX8_firstSettledChoice_39 ?_
      refine ziload_n dX8_firstSettledChoice_42 rfl ?_
      refine ziald dX8_firstSettledChoice_43 (by decide) rfl (by decide) (by decide) ?_
      refine zicmp_gt (tgt := 51) dX8_firstSettledChoice_44 (by decide) (fun _ => ?_) (fun h => absurd (Int32.not_le.mp g2) h)
      refine ziconst (v := 0) dX8_firstSettledChoice_51 (by decide) ?_
      refine zistore_n dX8_firstSettledChoice_52 (by decide) rfl ?_
      refine ziload_n dX8_firstSettledChoice_53 rfl ?_
      refine zif_eq (tgt := 72) dX8_firstSettledChoice_54 (by decide) (fun h => absurd h (by decide)) (fun _ => ?_)
      refine ziload_n dX8_firstSettledChoice_57 rfl ?_
      refine zif_eq (tgt := 72) dX8_firstSettledChoice_58 (by decide) (fun _ => ?_) (fun h => absurd rfl h)
      refine ziinc dX8_firstSettledChoice_72 rfl rfl (by decide) rfl ?_
      refine zgoto (tgt := 2) dX8_firstSettledChoice_75 (by decide) ?_
      refine zlvs (lv' := [(0, .ref (zad x 0)), (1, .int (nI 3))]) ⟨rfl, rfl, trivial⟩ ?_
      exact hn (fun z => absurd z.2 g2)
  · by_cases g2 : S.1 38 3 ≤ S.1 38 2
    · refine ziload_n dX8_firstSettledChoice_2 rfl ?_
      refine ziconst (v := 4) dX8_firstSettledChoice_3 (by decide) ?_
      refine zicmp_ge (tgt := 78) dX8_firstSettledChoice_4 (by decide) (fun h => absurd h (nI_ge (b := 4) (by decide) (by decide))) (fun _ => ?_)
      refine zaload_n dX8_firstSettledChoice_7 rfl ?_
      refine gf_X8_59 rfl dX8_firstSettledChoice_8 ?_
      refine ziload_n dX8_firstSettledChoice_11 rfl ?_
      refine ziconst (v := 2) dX8_firstSettledChoice_12 (by decide) ?_
      refine zixor dX8_firstSettledChoice_13 ?_
      rw [show nI 2 ^^^ 2 = nI 0 from by decide]
      refine ziald dX8_firstSettledChoice_14 (by decide) rfl (by decide) (by decide) ?_
      refine zaload_n dX8_firstSettledChoice_15 rfl ?_
      refine gf_X8_59 rfl dX8_firstSettledChoice_16 ?_
      refine ziload_n dX8_firstSettledChoice_19 rfl ?_
      refine ziald dX8_firstSettledChoice_20 (by decide) rfl (by decide) (by decide) ?_
      refine zicmp_gt (tgt := 28) dX8_firstSettledChoice_21 (by decide) (fun _ => ?_) (fun h => absurd (Int32.not_le.mp g1) h)
      refine ziconst (v := 0) dX8_firstSettledChoice_28 (by decide) ?_
      refine zistore_n dX8_firstSettledChoice_29 (by decide) rfl ?_
      refine zaload_n dX8_firstSettledChoice_30 rfl ?_
      refine gf_X8_62 rfl dX8_firstSettledChoice_31 ?_
      refine ziload_n dX8_firstSettledChoice_34 rfl ?_
      refine ziconst (v := 1) dX8_firstSettledChoice_35 (by decide) ?_
      refine zixor dX8_firstSettledChoice_36 ?_
      rw [show nI 2 ^^^ 1 = nI 3 from by decide]
      refine ziald dX8_firstSettledChoice_37 (by decide) rfl (by decide) (by decide) ?_
      refine zaload_n dX8_firstSettledChoice_38 rfl ?_
      refine gf_X8_62 rfl dX8_firstSettledChoice_39 ?_
      refine ziload_n dX8_firstSettledChoice_42 rfl ?_
      refine ziald dX8_firstSettledChoice_43 (by decide) rfl (by decide) (by decide) ?_
      refine zicmp_gt (tgt := 51) dX8_firstSettledChoice_44 (by decide) (fun h => absurd h (Int32.not_lt.mpr g2)) (fun _ => ?_)
      refine ziconst (v := 1) dX8_firstSettledChoice_47 (by decide) ?_
      refine zgoto (tgt := 52) dX8_firstSettledChoice_48 (by decide) ?_
      refine zistore_n dX8_firstSettledChoice_52 (by decide) rfl ?_
      refine ziload_n dX8_firstSettledChoice_53 rfl ?_
      refine zif_eq (tgt := 72) dX8_firstSettledChoice_54 (by decide) (fun _ => ?_) (fun h => absurd rfl h)
      refine ziinc dX8_firstSettledChoice_72 rfl rfl (by decide) rfl ?_
      refine zgoto (tgt := 2) dX8_firstSettledChoice_75 (by decide) ?_
      refine zlvs (lv' := [(0, .ref (zad x 0)), (1, .int (nI 3))]) ⟨rfl, rfl, trivial⟩ ?_
      exact hn (fun z => absurd z.1 g1)
    · refine ziload_n dX8_firstSettledChoice_2 rfl ?_
      refine ziconst (v := 4) dX8_firstSettledChoice_3 (by decide) ?_
      refine zicmp_ge (tgt := 78) dX8_firstSettledChoice_4 (by decide) (fun h => absurd h (nI_ge (b := 4) (by decide) (by decide))) (fun _ => ?_)
      refine zaload_n dX8_firstSettledChoice_7 rfl ?_
      refine gf_X8_59 rfl dX8_firstSettledChoice_8 ?_
      refine ziload_n dX8_firstSettledChoice_11 rfl ?_
      refine ziconst (v := 2) dX8_firstSettledChoice_12 (by decide) ?_
      refine zixor dX8_firstSettledChoice_13 ?_
      rw [show nI 2 ^^^ 2 = nI 0 from by decide]
      refine ziald dX8_firstSettledChoice_14 (by decide) rfl (by decide) (by decide) ?_
      refine zaload_n dX8_firstSettledChoice_15 rfl ?_
      refine gf_X8_59 rfl dX8_firstSettledChoice_16 ?_
      refine ziload_n dX8_firstSettledChoice_19 rfl ?_
      refine ziald dX8_firstSettledChoice_20 (by decide) rfl (by decide) (by decide) ?_
      refine zicmp_gt (tgt := 28) dX8_firstSettledChoice_21 (by decide) (fun _ => ?_) (fun h => absurd (Int32.not_le.mp g1) h)
      refine ziconst (v := 0) dX8_firstSettledChoice_28 (by decide) ?_
      refine zistore_n dX8_firstSettledChoice_29 (by decide) rfl ?_
      refine zaload_n dX8_firstSettledChoice_30 rfl ?_
      refine gf_X8_62 rfl dX8_firstSettledChoice_31 ?_
      refine ziload_n dX8_firstSettledChoice_34 rfl ?_
      refine ziconst (v := 1) dX8_firstSettledChoice_35 (by decide) ?_
      refine zixor dX8_firstSettledChoice_36 ?_
      rw [show nI 2 ^^^ 1 = nI 3 from by decide]
      refine ziald dX8_firstSettledChoice_37 (by decide) rfl (by decide) (by decide) ?_
      refine zaload_n dX8_firstSettledChoice_38 rfl ?_
      refine gf_X8_62 rfl dX8_firstSettledChoice_39 ?_
      refine ziload_n dX8_firstSettledChoice_42 rfl ?_
      refine ziald dX8_firstSettledChoice_43 (by decide) rfl (by decide) (by decide) ?_
      refine zicmp_gt (tgt := 51) dX8_firstSettledChoice_44 (by decide) (fun _ => ?_) (fun h => absurd (Int32.not_le.mp g2) h)
      refine ziconst (v := 0) dX8_firstSettledChoice_51 (by decide) ?_
      refine zistore_n dX8_firstSettledChoice_52 (by decide) rfl ?_
      refine ziload_n dX8_firstSettledChoice_53 rfl ?_
      refine zif_eq (tgt := 72) dX8_firstSettledChoice_54 (by decide) (fun _ => ?_) (fun h => absurd rfl h)
      refine ziinc dX8_firstSettledChoice_72 rfl rfl (by decide) rfl ?_
      refine zgoto (tgt := 2) dX8_firstSettledChoice_75 (by decide) ?_
      refine zlvs (lv' := [(0, .ref (zad x 0)), (1, .int (nI 3))]) ⟨rfl, rfl, trivial⟩ ?_
      exact hn (fun z => absurd z.1 g1)
set_option maxRecDepth 100000 in
set_option maxHeartbeats 4000000 in
theorem fsc3 {post : Option Value → zSt → Prop} (hy : S.1 37 1 ≤ S.1 37 3 ∧ S.1 38 2 ≤ S.1 38 3 → post (some (.int 11)) S) (hn : ¬ (S.1 37 1 ≤ S.1 37 3 ∧ S.1 38 2 ≤ S.1 38 3) → zZ x true mX8_firstSettledChoice post 2 [(0, .ref (zad x 0)), (1, .int (nI 4))] [] S) : zZ x true mX8_firstSettledChoice post 2 [(0, .ref (zad x 0)), (1, .int (nI 3))] [] S := by
  by_cases g1 : S.1 37 1 ≤ S.1 37 3
  · by_cases g2 : S.1 38 2 ≤ S.1 38 3
    · refine ziload_n dX8_firstSettledChoice_2 rfl ?_
      refine ziconst (v := 4) dX8_firstSettledChoice_3 (by decide) ?_
      refine zicmp_ge (tgt := 78) dX8_firstSettledChoice_4 (by decide) (fun h => absurd h (nI_ge (b := 4) (by decide) (by decide))) (fun _ => ?_)
      refine zaload_n dX8_firstSettledChoice_7 rfl ?_
      refine gf_X8_59 rfl dX8_firstSettledChoice_8 ?_
      refine ziload_n dX8_firstSettledChoice_11 rfl ?_
      refine ziconst (v := 2) dX8_firstSettledChoice_12 (by decide) ?_
      refine zixor dX8_firstSettledChoice_13 ?_
      rw [show nI 3 ^^^ 2 = nI 1 from by decide]
      refine ziald dX8_firstSettledChoice_14 (by decide) rfl (by decide) (by decide) ?_
      refine zaload_n dX8_firstSettledChoice_15 rfl ?_
      refine gf_X8_59 rfl dX8_firstSettledChoice_16 ?_
      refine ziload_n dX8_firstSettledChoice_19 rfl ?_
      refine ziald dX8_firstSettledChoice_20 (by decide) rfl (by decide) (by decide) ?_
      refine zicmp_gt (tgt := 28) dX8_firstSettledChoice_21 (by decide) (fun h => absurd h (Int32.not_lt.mpr g1)) (fun _ => ?_)
      refine ziconst (v := 1) dX8_firstSettledChoice_24 (by decide) ?_
      refine zgoto (tgt := 29) dX8_firstSettledChoice_25 (by decide) ?_
      refine zistore_n dX8_firstSettledChoice_29 (by decide) rfl ?_
      refine zaload_n dX8_firstSettledChoice_30 rfl ?_
      refine gf_X8_62 rfl dX8_firstSettledChoice_31 ?_
      refine ziload_n dX8_firstSettledChoice_34 rfl ?_
      refine ziconst (v := 1) dX8_firstSettledChoice_35 (by decide) ?_
      refine zixor dX8_firstSettledChoice_36 ?_
      rw [show nI 3 ^^^ 1 = nI 2 from by decide]
      refine ziald dX8_firstSettledChoice_37 (by decide) rfl (by decide) (by decide) ?_
      refine zaload_n dX8_firstSettledChoice_38 rfl ?_
      refine gf_X8_62 rfl dX8_firstSettledChoice_39 ?_
      refine ziload_n dX8_firstSettledChoice_42 rfl ?_
      refine ziald dX8_firstSettledChoice_43 (by decide) rfl (by decide) (by decide) ?_
      refine zicmp_gt (tgt := 51) dX8_firstSettledChoice_44 (by decide) (fun h => absurd h (Int32.not_lt.mpr g2)) (fun _ => ?_)
      refine ziconst (v := 1) dX8_firstSettledChoice_47 (by decide) ?_
      refine zgoto (tgt := 52) dX8_firstSettledChoice_48 (by decide) ?_
      refine zistore_n dX8_firstSettledChoice_52 (by decide) rfl ?_
      refine ziload_n dX8_firstSettledChoice_53 rfl ?_
      refine zif_eq (tgt := 72) dX8_firstSettledChoice_54 (by decide) (fun h => absurd h (by decide)) (fun _ => ?_)
      refine ziload_n dX8_firstSettledChoice_57 rfl ?_
      refine zif_eq (tgt := 72) dX8_firstSettledChoice_58 (by decide) (fun h => absurd h (by decide)) (fun _ => ?_)
      refine zbipush (v := 10) dX8_firstSettledChoice_61 (by decide) ?_
      refine ziload_n dX8_firstSettledChoice_63 rfl ?_
      refine ziconst (v := 2) dX8_firstSettledChoice_64 (by decide) ?_
      refine zidiv dX8_firstSettledChoice_65 (by decide) ?_
      refine zimul dX8_firstSettledChoice_66 ?_
      refine ziload_n dX8_firstSettledChoice_67 rfl ?_
      refine ziconst (v := 2) dX8_firstSettledChoice_68 (by decide) ?_
      refine zirem dX8_firstSettledChoice_69 (by decide) ?_
      refine ziadd dX8_firstSettledChoice_70 ?_
      exact zireturn dX8_firstSettledChoice_71 rfl rfl (by rw [show (10 : Int32) * (nI 3 / 2) + (nI 3 - nI 3 / 2 * 2) = 11 from by decide]; exact hy ⟨g1, g2⟩)
    · refine ziload_n dX8_firstSettledChoice_2 rfl ?_
      refine ziconst (v := 4) dX8_firstSettledChoice_3 (by decide) ?_
      refine zicmp_ge (tgt := 78) dX8_firstSettledChoice_4 (by decide) (fun h => absurd h (nI_ge (b := 4) (by decide) (by decide))) (fun _ => ?_)
      refine zaload_n dX8_firstSettledChoice_7 rfl ?_
      refine gf_X8_59 rfl dX8_firstSettledChoice_8 ?_
      refine ziload_n dX8_firstSettledChoice_11 rfl ?_
      refine ziconst (v := 2) dX8_firstSettledChoice_12 (by decide) ?_
      refine zixor dX8_firstSettledChoice_13 ?_
      rw [show nI 3 ^^^ 2 = nI 1 from by decide]
      refine ziald dX8_firstSettledChoice_14 (by decide) rfl (by decide) (by decide) ?_
      refine zaload_n dX8_firstSettledChoice_15 rfl ?_
      refine gf_X8_59 rfl dX8_firstSettledChoice_16 ?_
      refine ziload_n dX8_firstSettledChoice_19 rfl ?_
      refine ziald dX8_firstSettledChoice_20 (by decide) rfl (by decide) (by decide) ?_
      refine zicmp_gt (tgt := 28) dX8_firstSettledChoice_21 (by decide) (fun h => absurd h (Int32.not_lt.mpr g1)) (fun _ => ?_)
      refine ziconst (v := 1) dX8_firstSettledChoice_24 (by decide) ?_
      refine zgoto (tgt := 29) dX8_firstSettledChoice_25 (by decide) ?_
      refine zistore_n dX8_firstSettledChoice_29 (by decide) rfl ?_
      refine zaload_n dX8_firstSettledChoice_30 rfl ?_
      refine gf_X8_62 rfl dX8_firstSettledChoice_31 ?_
      refine ziload_n dX8_firstSettledChoice_34 rfl ?_
      refine ziconst (v := 1) dX8_firstSettledChoice_35 (by decide) ?_
      refine zixor dX8_firstSettledChoice_36 ?_
      rw [show nI 3 ^^^ 1 = nI 2 from by decide]
      refine ziald dX8_firstSettledChoice_37 (by decide) rfl (by decide) (by decide) ?_
      refine zaload_n dX8_firstSettledChoice_38 rfl ?_
      refine gf_X8_62 rfl dX8_firstSettledChoice_39 ?_
      refine ziload_n dX8_firstSettledChoice_42 rfl ?_
      refine ziald dX8_firstSettledChoice_43 (by decide) rfl (by decide) (by decide) ?_
      refine zicmp_gt (tgt := 51) dX8_firstSettledChoice_44 (by decide) (fun _ => ?_) (fun h => absurd (Int32.not_le.mp g2) h)
      refine ziconst (v := 0) dX8_firstSettledChoice_51 (by decide) ?_
      refine zistore_n dX8_firstSettledChoice_52 (by decide) rfl ?_
      refine ziload_n dX8_firstSettledChoice_53 rfl ?_
      refine zif_eq (tgt := 72) dX8_firstSettledChoice_54 (by decide) (fun h => absurd h (by decide)) (fun _ => ?_)
      refine ziload_n dX8_firstSettledChoice_57 rfl ?_
      refine zif_eq (tgt := 72) dX8_firstSettledChoice_58 (by decide) (fun _ => ?_) (fun h => absurd rfl h)
      refine ziinc dX8_firstSettledChoice_72 rfl rfl (by decide) rfl ?_
      refine zgoto (tgt := 2) dX8_firstSettledChoice_75 (by decide) ?_
      refine zlvs (lv' := [(0, .ref (zad x 0)), (1, .int (nI 4))]) ⟨rfl, rfl, trivial⟩ ?_
      exact hn (fun z => absurd z.2 g2)
  · by_cases g2 : S.1 38 2 ≤ S.1 38 3
    · refine ziload_n dX8_firstSettledChoice_2 rfl ?_
      refine ziconst (v := 4) dX8_firstSettledChoice_3 (by decide) ?_
      refine zicmp_ge (tgt := 78) dX8_firstSettledChoice_4 (by decide) (fun h => absurd h (nI_ge (b := 4) (by decide) (by decide))) (fun _ => ?_)
      refine zaload_n dX8_firstSettledChoice_7 rfl ?_
      refine gf_X8_59 rfl dX8_firstSettledChoice_8 ?_
      refine ziload_n dX8_firstSettledChoice_11 rfl ?_
      refine ziconst (v := 2) dX8_firstSettledChoice_12 (by decide) ?_
      refine zixor dX8_firstSettledChoice_13 ?_
      rw [show nI 3 ^^^ 2 = nI 1 from by decide]
      refine ziald dX8_firstSettledChoice_14 (by decide) rfl (by decide) (by decide) ?_
      refine zaload_n dX8_firstSettledChoice_15 rfl ?_
      refine gf_X8_59 rfl dX8_firstSettledChoice_16 ?_
      refine ziload_n dX8_firstSettledChoice_19 rfl ?_
      refine ziald dX8_firstSettledChoice_20 (by decide) rfl (by decide) (by decide) ?_
      refine zicmp_gt (tgt := 28) dX8_firstSettledChoice_21 (by decide) (fun _ => ?_) (fun h => absurd (Int32.not_le.mp g1) h)
      refine ziconst (v := 0) dX8_firstSettledChoice_28 (by decide) ?_
      refine zistore_n dX8_firstSettledChoice_29 (by decide) rfl ?_
      refine zaload_n dX8_firstSettledChoice_30 rfl ?_
      refine gf_X8_62 rfl dX8_firstSettledChoice_31 ?_
      refine ziload_n dX8_firstSettledChoice_34 rfl ?_
      refine ziconst (v := 1) dX8_firstSettledChoice_35 (by decide) ?_
      refine zixor dX8_firstSettledChoice_36 ?_
      rw [show nI 3 ^^^ 1 = nI 2 from by decide]
      refine ziald dX8_firstSettledChoice_37 (by decide) rfl (by decide) (by decide) ?_
      refine zaload_n dX8_firstSettledChoice_38 rfl ?_
      refine gf_X8_62 rfl dX8_firstSettledChoice_39 ?_
      refine ziload_n dX8_firstSettledChoice_42 rfl ?_
      refine ziald dX8_firstSettledChoice_43 (by decide) rfl (by decide) (by decide) ?_
      refine zicmp_gt (tgt := 51) dX8_firstSettledChoice_44 (by decide) (fun h => absurd h (Int32.not_lt.mpr g2)) (fun _ => ?_)
      refine ziconst (v := 1) dX8_firstSettledChoice_47 (by decide) ?_
      refine zgoto (tgt := 52) dX8_firstSettledChoice_48 (by decide) ?_
      refine zistore_n dX8_firstSettledChoice_52 (by decide) rfl ?_
      refine ziload_n dX8_firstSettledChoice_53 rfl ?_
      refine zif_eq (tgt := 72) dX8_firstSettledChoice_54 (by decide) (fun _ => ?_) (fun h => absurd rfl h)
      refine ziinc dX8_firstSettledChoice_72 rfl rfl (by decide) rfl ?_
      refine zgoto (tgt := 2) dX8_firstSettledChoice_75 (by decide) ?_
      refine zlvs (lv' := [(0, .ref (zad x 0)), (1, .int (nI 4))]) ⟨rfl, rfl, trivial⟩ ?_
      exact hn (fun z => absurd z.1 g1)
    · refine ziload_n dX8_firstSettledChoice_2 rfl ?_
      refine ziconst (v := 4) dX8_firstSettledChoice_3 (by decide) ?_
      refine zicmp_ge (tgt := 78) dX8_firstSettledChoice_4 (by decide) (fun h => absurd h (nI_ge (b := 4) (by decide) (by decide))) (fun _ => ?_)
      refine zaload_n dX8_firstSettledChoice_7 rfl ?_
      refine gf_X8_59 rfl dX8_firstSettledChoice_8 ?_
      refine ziload_n dX8_firstSettledChoice_11 rfl ?_
      refine ziconst (v := 2) dX8_firstSettledChoice_12 (by decide) ?_
      refine zixor dX8_firstSettledChoice_13 ?_
      rw [show nI 3 ^^^ 2 = nI 1 from by decide]
      refine ziald dX8_firstSettledChoice_14 (by decide) rfl (by decide) (by decide) ?_
      refine zaload_n dX8_firstSettledChoice_15 rfl ?_
      refine gf_X8_59 rfl dX8_firstSettledChoice_16 ?_
      refine ziload_n dX8_firstSettledChoice_19 rfl ?_
      refine ziald dX8_firstSettledChoice_20 (by decide) rfl (by decide) (by decide) ?_
      refine zicmp_gt (tgt := 28) dX8_firstSettledChoice_21 (by decide) (fun _ => ?_) (fun h => absurd (Int32.not_le.mp g1) h)
      refine ziconst (v := 0) dX8_firstSettledChoice_28 (by decide) ?_
      refine zistore_n dX8_firstSettledChoice_29 (by decide) rfl ?_
      refine zaload_n dX8_firstSettledChoice_30 rfl ?_
      refine gf_X8_62 rfl dX8_firstSettledChoice_31 ?_
      refine ziload_n dX8_firstSettledChoice_34 rfl ?_
      refine ziconst (v := 1) dX8_firstSettledChoice_35 (by decide) ?_
      refine zixor dX8_firstSettledChoice_36 ?_
      rw [show nI 3 ^^^ 1 = nI 2 from by decide]
      refine ziald dX8_firstSettledChoice_37 (by decide) rfl (by decide) (by decide) ?_
      refine zaload_n dX8_firstSettledChoice_38 rfl ?_
      refine gf_X8_62 rfl dX8_firstSettledChoice_39 ?_
      refine ziload_n dX8_firstSettledChoice_42 rfl ?_
      refine ziald dX8_firstSettledChoice_43 (by decide) rfl (by decide) (by decide) ?_
      refine zicmp_gt (tgt := 51) dX8_firstSettledChoice_44 (by decide) (fun _ => ?_) (fun h => absurd (Int32.not_le.mp g2) h)
      refine ziconst (v := 0) dX8_firstSettledChoice_51 (by decide) ?_
      refine zistore_n dX8_firstSettledChoice_52 (by decide) rfl ?_
      refine ziload_n dX8_firstSettledChoice_53 rfl ?_
      refine zif_eq (tgt := 72) dX8_firstSettledChoice_54 (by decide) (fun _ => ?_) (fun h => absurd rfl h)
      refine ziinc dX8_firstSettledChoice_72 rfl rfl (by decide) rfl ?_
      refine zgoto (tgt := 2) dX8_firstSettledChoice_75 (by decide) ?_
      refine zlvs (lv' := [(0, .ref (zad x 0)), (1, .int (nI 4))]) ⟨rfl, rfl, trivial⟩ ?_
      exact hn (fun z => absurd z.1 g1)
set_option maxRecDepth 100000 in
set_option maxHeartbeats 4000000 in
theorem fsc4 {post : Option Value → zSt → Prop} (hy : post (some (.int (-9))) S) : zZ x true mX8_firstSettledChoice post 2 [(0, .ref (zad x 0)), (1, .int (nI 4))] [] S := by
  refine ziload_n dX8_firstSettledChoice_2 rfl ?_
  refine ziconst (v := 4) dX8_firstSettledChoice_3 (by decide) ?_
  refine zicmp_ge (tgt := 78) dX8_firstSettledChoice_4 (by decide) (fun _ => ?_) (fun h => absurd (nI_le (a := 4) (by decide) (by decide)) h)
  refine zbipush (v := -9) dX8_firstSettledChoice_78 (by decide) ?_
  exact zireturn dX8_firstSettledChoice_80 rfl rfl hy
set_option maxRecDepth 100000 in
set_option maxHeartbeats 4000000 in
theorem c_X8_firstSettledChoice {n K a c : Nat} {T : Tw} (h0 : S.1 37 0 = twoW n K T a c a false false) (h1 : S.1 37 1 = twoW n K T a c a false true) (h2 : S.1 37 2 = twoW n K T a c a true false) (h3 : S.1 37 3 = twoW n K T a c a true true) (g0 : S.1 38 0 = twoW n K T a c c false false) (g1 : S.1 38 1 = twoW n K T a c c false true) (g2 : S.1 38 2 = twoW n K T a c c true false) (g3 : S.1 38 3 = twoW n K T a c c true true) : zF x true mX8_firstSettledChoice [.ref (zad x 0)] S (some (.int (twoA n K T a c))) S := by
  refine zC_of (by decide +kernel) (Nat.le_of_ble_eq_true rfl) ?_
  refine ziconst (v := 0) dX8_firstSettledChoice_0 (by decide) ?_
  refine zistore_n dX8_firstSettledChoice_1 (by decide) rfl ?_
  refine zlvs (lv' := [(0, .ref (zad x 0)), (1, .int (nI 0))]) ⟨rfl, rfl, trivial⟩ ?_
  unfold twoA twoOk
  refine fsc0 (fun z => ⟨?_, rfl⟩) (fun z0 => ?_)
  · rw [if_pos (decide_eq_true (by rw [h0, h2, g0, g1] at z; exact z))]
  rw [if_neg (fun y => z0 (by rw [h0, h2, g0, g1]; exact of_decide_eq_true y))]
  refine fsc1 (fun z => ⟨?_, rfl⟩) (fun z1 => ?_)
  · rw [if_pos (decide_eq_true (by rw [h1, h3, g1, g0] at z; exact z))]
  rw [if_neg (fun y => z1 (by rw [h1, h3, g1, g0]; exact of_decide_eq_true y))]
  refine fsc2 (fun z => ⟨?_, rfl⟩) (fun z2 => ?_)
  · rw [if_pos (decide_eq_true (by rw [h2, h0, g2, g3] at z; exact z))]
  rw [if_neg (fun y => z2 (by rw [h2, h0, g2, g3]; exact of_decide_eq_true y))]
  refine fsc3 (fun z => ⟨?_, rfl⟩) (fun z3 => ?_)
  · rw [if_pos (decide_eq_true (by rw [h3, h1, g3, g2] at z; exact z))]
  rw [if_neg (fun y => z3 (by rw [h3, h1, g3, g2]; exact of_decide_eq_true y))]
  exact fsc4 ⟨rfl, rfl⟩
set_option maxRecDepth 100000 in
set_option maxHeartbeats 4000000 in
theorem c_X8_two (hR : RepC σ S) (hW : WS σ) (a b k : Int32) : zR x true mX8_two [.ref (zad x 0), .int a, .int b, .int k] S (qC (fO (twF (sN σ) a b) (rgF k 0 24)) (twoA (sN σ) k.toNatClampNeg (sT σ) a.toNatClampNeg b.toNatClampNeg) σ (σ)) := by
  have hT := hR.1
  have hn8 : sN σ ≤ 8 := hT.2.1
  refine zC_of (by decide +kernel) (Nat.le_of_ble_eq_true rfl) ?_
  by_cases he : fO (twF (sN σ) a b) (rgF k 0 24) = 0
  · obtain ⟨h1, h2⟩ := fO_0 he
    have h1t := h1
    obtain ⟨i, j, hi, hj, hij, rfl, rfl⟩ := twF_of (by omega) h1
    obtain ⟨l, hl1, hl2, rfl⟩ := rgF_of (a := 0) (c := 24) (by decide) (by decide) h2
    refine zaload_n dX8_two_0 rfl ?_
    refine ziload_n dX8_two_1 rfl ?_
    refine ziload_n dX8_two_2 rfl ?_
    refine zcVf ob_X gk_X8_127 dX8_two_3 (c_X8_twoFault hT) rfl (by decide) (Nat.le_of_ble_eq_true rfl) ?_ rfl
    refine ziload_n dX8_two_6 rfl ?_
    refine ziconst (v := 0) dX8_two_7 (by decide) ?_
    refine zbipush (v := 24) dX8_two_8 (by decide) ?_
    refine zcSf  gk_X8_73 dX8_two_10 c_X8_rangeFault rfl (by decide) (Nat.le_of_ble_eq_true rfl) ?_ rfl
    refine zcSf  gk_X8_103 dX8_two_13 c_X8_firstOf rfl (by decide) (Nat.le_of_ble_eq_true rfl) ?_ rfl
    refine zistore dX8_two_16 (by decide) rfl ?_
    refine ziload dX8_two_18 rfl ?_
    refine zif_eq (tgt := 30) dX8_two_20 (by decide) (fun _ => ?_) (fun h => absurd he h)
    refine ziconst (v := 0) dX8_two_30 (by decide) ?_
    refine zistore dX8_two_31 (by decide) rfl ?_
    refine zlvs (lv' := [(0, .ref (zad x 0)), (1, .int (nI i)), (2, .int (nI j)), (3, .int (nI l)), (5, .int (nI 0))]) ⟨rfl, rfl, rfl, rfl, rfl, trivial⟩ ?_
    refine l_X8_two0 hR hW hi hj (by omega) (fun S0 hR0 p0 q0 => ?_)
    refine l_X8_two1 hR0 hW hi hj (by omega) (fun S1 hR1 p1 q1 => ?_)
    refine l_X8_two2 hR1 hW hi hj (by omega) (fun S2 hR2 p2 q2 => ?_)
    refine l_X8_two3 hR2 hW hi hj (by omega) (fun S3 hR3 p3 q3 => ?_)
    refine ziload dX8_two_33 rfl ?_
    refine ziconst (v := 4) dX8_two_35 (by decide) ?_
    refine zicmp_ge (tgt := 150) dX8_two_36 (by decide) (fun _ => ?_) (fun h => absurd (nI_le (a := 4) (by decide) (by decide)) h)
    refine zaload_n dX8_two_150 rfl ?_
    refine zcVf ob_X gk_X8_230 dX8_two_151 (c_X8_firstSettledChoice (n := sN σ) (K := l) (a := i) (c := j) (T := sT σ) (by rw [p3, if_neg (by decide), p2, if_neg (by decide), p1, if_neg (by decide), p0, if_pos rfl]) (by rw [p3, if_neg (by decide), p2, if_neg (by decide), p1, if_pos rfl]) (by rw [p3, if_neg (by decide), p2, if_pos rfl]) (by rw [p3, if_pos rfl]) (by rw [q3, if_neg (by decide), q2, if_neg (by decide), q1, if_neg (by decide), q0, if_pos rfl]) (by rw [q3, if_neg (by decide), q2, if_neg (by decide), q1, if_pos rfl]) (by rw [q3, if_neg (by decide), q2, if_pos rfl]) (by rw [q3, if_pos rfl])) rfl (by decide) (Nat.le_of_ble_eq_true rfl) ?_ rfl
    exact zireturn dX8_two_154 rfl rfl ⟨_, rfl, qC_ok he (by rw [nI_clamp (n := i) (by omega), nI_clamp (n := j) (by omega), nI_clamp (n := l) (by omega)]) hR3⟩
  · refine zaload_n dX8_two_0 rfl ?_
    refine ziload_n dX8_two_1 rfl ?_
    refine ziload_n dX8_two_2 rfl ?_
    refine zcVf ob_X gk_X8_127 dX8_two_3 (c_X8_twoFault hT) rfl (by decide) (Nat.le_of_ble_eq_true rfl) ?_ rfl
    refine ziload_n dX8_two_6 rfl ?_
    refine ziconst (v := 0) dX8_two_7 (by decide) ?_
    refine zbipush (v := 24) dX8_two_8 (by decide) ?_
    refine zcSf  gk_X8_73 dX8_two_10 c_X8_rangeFault rfl (by decide) (Nat.le_of_ble_eq_true rfl) ?_ rfl
    refine zcSf  gk_X8_103 dX8_two_13 c_X8_firstOf rfl (by decide) (Nat.le_of_ble_eq_true rfl) ?_ rfl
    refine zistore dX8_two_16 (by decide) rfl ?_
    refine ziload dX8_two_18 rfl ?_
    refine zif_eq (tgt := 30) dX8_two_20 (by decide) (fun h => absurd h he) (fun _ => ?_)
    refine zaload_n dX8_two_23 rfl ?_
    refine ziload dX8_two_24 rfl ?_
    refine zcVf ob_X gk_X8_77 dX8_two_26 (c_X8_refuse (okE.e (okE_fO (okE_twF _ _ _) (okE_rgF _ _ _)) he)) rfl (by decide) (Nat.le_of_ble_eq_true rfl) ?_ rfl
    exact zireturn dX8_two_29 rfl rfl ⟨_, rfl, qC_no rfl (okE.e (okE_fO (okE_twF _ _ _) (okE_rgF _ _ _)) he) hR⟩
set_option maxRecDepth 100000 in
set_option maxHeartbeats 4000000 in
theorem c_X9_worthBoth {n K p a c : Nat} {T : Tw} {u v : Int32} {ub vb : Bool} (hM : isM S 1 n T) (hW : WFT n T) (hu : u = bI ub) (hv : v = bI vb) (hp : p < n) (ha : a < n) (hc : c < n) (hK : K < 2 ^ 31) : zR x false mX9_worthBoth [.ref (zad x 0), .int (nI p), .int (nI a), .int u, .int (nI c), .int v, .int (nI K)] S (fun r S' => r = twoW n K T a c p ub vb ∧ frM 2 S S') := by
  have hn8 := hM.2.1
  subst hu
  subst hv
  refine zC_of (by decide +kernel) (Nat.le_of_ble_eq_true rfl) ?_

  cases ub with
  | false =>
    cases vb with
    | false =>
      have hE : twoT T a c false false = T := rfl
      refine zaload_n dX9_worthBoth_0 rfl ?_
      refine gf_X9_9 rfl dX9_worthBoth_1 ?_
      refine zaload_n dX9_worthBoth_4 rfl ?_
      refine gf_X9_13 rfl dX9_worthBoth_5 ?_
      refine zcSn  gk_X9_133 dX9_worthBoth_8 (c_X9_copies hr1 hr2 (by decide) hM) rfl (by decide) (Nat.le_of_ble_eq_true rfl) (fun S2 hp2 => ?_) rfl
      obtain ⟨hM2, -, hf2⟩ := hp2
      refine ziload_n dX9_worthBoth_11 rfl ?_
      refine ziconst (v := 1) dX9_worthBoth_12 (by decide) ?_
      refine zicmp_ne (tgt := 39) dX9_worthBoth_13 (by decide) (fun _ => ?_) (fun h => absurd h (by decide))
      refine ziload dX9_worthBoth_39 rfl ?_
      refine ziconst (v := 1) dX9_worthBoth_41 (by decide) ?_
      refine zicmp_ne (tgt := 68) dX9_worthBoth_42 (by decide) (fun _ => ?_) (fun h => absurd h (by decide))
      refine zaload_n dX9_worthBoth_68 rfl ?_
      refine ziload_n dX9_worthBoth_69 rfl ?_
      refine ziload dX9_worthBoth_70 rfl ?_
      refine zcVr ob_Mo gk_X9_163 dX9_worthBoth_72 (c_X9_worthBehind hM2 (by rw [← hE]; exact (WFT_lendIf (WFT_lendIf hW hc ha) ha hc).2.1) hp hK) rfl (by decide) (Nat.le_of_ble_eq_true rfl) (fun r S4 hp4 => ?_) rfl
      obtain ⟨rfl, hf4⟩ := hp4
      exact zireturn dX9_worthBoth_75 rfl rfl ⟨_, rfl, by unfold twoW; rw [hE], hf2.trans hf4⟩
    | true =>
      cases h2 : canB T a c with
      | true =>
        have hE : twoT T a c false true = handT T a c := by unfold twoT; rw [show lendIf false T c a = T from rfl]; unfold lendIf; rw [if_pos ⟨rfl, h2⟩]
        refine zaload_n dX9_worthBoth_0 rfl ?_
        refine gf_X9_9 rfl dX9_worthBoth_1 ?_
        refine zaload_n dX9_worthBoth_4 rfl ?_
        refine gf_X9_13 rfl dX9_worthBoth_5 ?_
        refine zcSn  gk_X9_133 dX9_worthBoth_8 (c_X9_copies hr1 hr2 (by decide) hM) rfl (by decide) (Nat.le_of_ble_eq_true rfl) (fun S2 hp2 => ?_) rfl
        obtain ⟨hM2, -, hf2⟩ := hp2
        refine ziload_n dX9_worthBoth_11 rfl ?_
        refine ziconst (v := 1) dX9_worthBoth_12 (by decide) ?_
        refine zicmp_ne (tgt := 39) dX9_worthBoth_13 (by decide) (fun _ => ?_) (fun h => absurd h (by decide))
        refine ziload dX9_worthBoth_39 rfl ?_
        refine ziconst (v := 1) dX9_worthBoth_41 (by decide) ?_
        refine zicmp_ne (tgt := 68) dX9_worthBoth_42 (by decide) (fun h => absurd rfl h) (fun _ => ?_)
        refine zaload_n dX9_worthBoth_45 rfl ?_
        refine gf_X9_13 rfl dX9_worthBoth_46 ?_
        refine ziload_n dX9_worthBoth_49 rfl ?_
        refine ziload dX9_worthBoth_50 rfl ?_
        refine zcSf  gk_X9_118 dX9_worthBoth_52 (show zF x false mX9_canLend _ _ (some (.int (bI (canB _ a c)))) _ from c_X9_canLend hr2 hM2 ha hc) rfl (by decide) (Nat.le_of_ble_eq_true rfl) ?_ rfl
        refine zifb_eq (tgt := 68) dX9_worthBoth_55 (by decide) (fun h => absurd (h.symm.trans h2) (by decide)) (fun _ => ?_)
        refine zaload_n dX9_worthBoth_58 rfl ?_
        refine gf_X9_13 rfl dX9_worthBoth_59 ?_
        refine ziload_n dX9_worthBoth_62 rfl ?_
        refine ziload dX9_worthBoth_63 rfl ?_
        refine zcSv  gk_X9_122 dX9_worthBoth_65 (c_X9_lendsIn hr2 hM2 ha hc) rfl (by decide) (Nat.le_of_ble_eq_true rfl) ?_ rfl
        have hM2 := isM_hand (p := a) (q := c) hM2
        have hf2 := frM_hand (p := a) (q := c) hf2
        refine zaload_n dX9_worthBoth_68 rfl ?_
        refine ziload_n dX9_worthBoth_69 rfl ?_
        refine ziload dX9_worthBoth_70 rfl ?_
        refine zcVr ob_Mo gk_X9_163 dX9_worthBoth_72 (c_X9_worthBehind hM2 (by rw [← hE]; exact (WFT_lendIf (WFT_lendIf hW hc ha) ha hc).2.1) hp hK) rfl (by decide) (Nat.le_of_ble_eq_true rfl) (fun r S4 hp4 => ?_) rfl
        obtain ⟨rfl, hf4⟩ := hp4
        exact zireturn dX9_worthBoth_75 rfl rfl ⟨_, rfl, by unfold twoW; rw [hE], hf2.trans hf4⟩
      | false =>
        have hE : twoT T a c false true = T := by unfold twoT; rw [show lendIf false T c a = T from rfl]; unfold lendIf; rw [if_neg (fun z => by rw [h2] at z; exact absurd z.2 (by decide))]
        refine zaload_n dX9_worthBoth_0 rfl ?_
        refine gf_X9_9 rfl dX9_worthBoth_1 ?_
        refine zaload_n dX9_worthBoth_4 rfl ?_
        refine gf_X9_13 rfl dX9_worthBoth_5 ?_
        refine zcSn  gk_X9_133 dX9_worthBoth_8 (c_X9_copies hr1 hr2 (by decide) hM) rfl (by decide) (Nat.le_of_ble_eq_true rfl) (fun S2 hp2 => ?_) rfl
        obtain ⟨hM2, -, hf2⟩ := hp2
        refine ziload_n dX9_worthBoth_11 rfl ?_
        refine ziconst (v := 1) dX9_worthBoth_12 (by decide) ?_
        refine zicmp_ne (tgt := 39) dX9_worthBoth_13 (by decide) (fun _ => ?_) (fun h => absurd h (by decide))
        refine ziload dX9_worthBoth_39 rfl ?_
        refine ziconst (v := 1) dX9_worthBoth_41 (by decide) ?_
        refine zicmp_ne (tgt := 68) dX9_worthBoth_42 (by decide) (fun h => absurd rfl h) (fun _ => ?_)
        refine zaload_n dX9_worthBoth_45 rfl ?_
        refine gf_X9_13 rfl dX9_worthBoth_46 ?_
        refine ziload_n dX9_worthBoth_49 rfl ?_
        refine ziload dX9_worthBoth_50 rfl ?_
        refine zcSf  gk_X9_118 dX9_worthBoth_52 (show zF x false mX9_canLend _ _ (some (.int (bI (canB _ a c)))) _ from c_X9_canLend hr2 hM2 ha hc) rfl (by decide) (Nat.le_of_ble_eq_true rfl) ?_ rfl
        refine zifb_eq (tgt := 68) dX9_worthBoth_55 (by decide) (fun _ => ?_) (fun h => absurd (h.symm.trans h2) (by decide))
        refine zaload_n dX9_worthBoth_68 rfl ?_
        refine ziload_n dX9_worthBoth_69 rfl ?_
        refine ziload dX9_worthBoth_70 rfl ?_
        refine zcVr ob_Mo gk_X9_163 dX9_worthBoth_72 (c_X9_worthBehind hM2 (by rw [← hE]; exact (WFT_lendIf (WFT_lendIf hW hc ha) ha hc).2.1) hp hK) rfl (by decide) (Nat.le_of_ble_eq_true rfl) (fun r S4 hp4 => ?_) rfl
        obtain ⟨rfl, hf4⟩ := hp4
        exact zireturn dX9_worthBoth_75 rfl rfl ⟨_, rfl, by unfold twoW; rw [hE], hf2.trans hf4⟩
  | true =>
    cases h1 : canB T c a with
    | true =>
      have hL : lendIf true T c a = handT T c a := by unfold lendIf; rw [if_pos ⟨rfl, h1⟩]
      cases vb with
      | false =>
        have hE : twoT T a c true false = handT T c a := by unfold twoT; rw [hL]; rfl
        refine zaload_n dX9_worthBoth_0 rfl ?_
        refine gf_X9_9 rfl dX9_worthBoth_1 ?_
        refine zaload_n dX9_worthBoth_4 rfl ?_
        refine gf_X9_13 rfl dX9_worthBoth_5 ?_
        refine zcSn  gk_X9_133 dX9_worthBoth_8 (c_X9_copies hr1 hr2 (by decide) hM) rfl (by decide) (Nat.le_of_ble_eq_true rfl) (fun S2 hp2 => ?_) rfl
        obtain ⟨hM2, -, hf2⟩ := hp2
        refine ziload_n dX9_worthBoth_11 rfl ?_
        refine ziconst (v := 1) dX9_worthBoth_12 (by decide) ?_
        refine zicmp_ne (tgt := 39) dX9_worthBoth_13 (by decide) (fun h => absurd rfl h) (fun _ => ?_)
        refine zaload_n dX9_worthBoth_16 rfl ?_
        refine gf_X9_13 rfl dX9_worthBoth_17 ?_
        refine ziload dX9_worthBoth_20 rfl ?_
        refine ziload_n dX9_worthBoth_22 rfl ?_
        refine zcSf  gk_X9_118 dX9_worthBoth_23 (show zF x false mX9_canLend _ S2 (some (.int (bI (canB T c a)))) S2 from c_X9_canLend hr2 hM2 hc ha) rfl (by decide) (Nat.le_of_ble_eq_true rfl) ?_ rfl
        refine zifb_eq (tgt := 39) dX9_worthBoth_26 (by decide) (fun h => absurd (h.symm.trans h1) (by decide)) (fun _ => ?_)
        refine zaload_n dX9_worthBoth_29 rfl ?_
        refine gf_X9_13 rfl dX9_worthBoth_30 ?_
        refine ziload dX9_worthBoth_33 rfl ?_
        refine ziload_n dX9_worthBoth_35 rfl ?_
        refine zcSv  gk_X9_122 dX9_worthBoth_36 (c_X9_lendsIn hr2 hM2 hc ha) rfl (by decide) (Nat.le_of_ble_eq_true rfl) ?_ rfl
        have hM2 := isM_hand (p := c) (q := a) hM2
        have hf2 := frM_hand (p := c) (q := a) hf2
        refine ziload dX9_worthBoth_39 rfl ?_
        refine ziconst (v := 1) dX9_worthBoth_41 (by decide) ?_
        refine zicmp_ne (tgt := 68) dX9_worthBoth_42 (by decide) (fun _ => ?_) (fun h => absurd h (by decide))
        refine zaload_n dX9_worthBoth_68 rfl ?_
        refine ziload_n dX9_worthBoth_69 rfl ?_
        refine ziload dX9_worthBoth_70 rfl ?_
        refine zcVr ob_Mo gk_X9_163 dX9_worthBoth_72 (c_X9_worthBehind hM2 (by rw [← hE]; exact (WFT_lendIf (WFT_lendIf hW hc ha) ha hc).2.1) hp hK) rfl (by decide) (Nat.le_of_ble_eq_true rfl) (fun r S4 hp4 => ?_) rfl
        obtain ⟨rfl, hf4⟩ := hp4
        exact zireturn dX9_worthBoth_75 rfl rfl ⟨_, rfl, by unfold twoW; rw [hE], hf2.trans hf4⟩
      | true =>
        cases h2 : canB (handT T c a) a c with
        | true =>
          have hE : twoT T a c true true = handT (handT T c a) a c := by unfold twoT; rw [hL]; unfold lendIf; rw [if_pos ⟨rfl, h2⟩]
          refine zaload_n dX9_worthBoth_0 rfl ?_
          refine gf_X9_9 rfl dX9_worthBoth_1 ?_
          refine zaload_n dX9_worthBoth_4 rfl ?_
          refine gf_X9_13 rfl dX9_worthBoth_5 ?_
          refine zcSn  gk_X9_133 dX9_worthBoth_8 (c_X9_copies hr1 hr2 (by decide) hM) rfl (by decide) (Nat.le_of_ble_eq_true rfl) (fun S2 hp2 => ?_) rfl
          obtain ⟨hM2, -, hf2⟩ := hp2
          refine ziload_n dX9_worthBoth_11 rfl ?_
          refine ziconst (v := 1) dX9_worthBoth_12 (by decide) ?_
          refine zicmp_ne (tgt := 39) dX9_worthBoth_13 (by decide) (fun h => absurd rfl h) (fun _ => ?_)
          refine zaload_n dX9_worthBoth_16 rfl ?_
          refine gf_X9_13 rfl dX9_worthBoth_17 ?_
          refine ziload dX9_worthBoth_20 rfl ?_
          refine ziload_n dX9_worthBoth_22 rfl ?_
          refine zcSf  gk_X9_118 dX9_worthBoth_23 (show zF x false mX9_canLend _ S2 (some (.int (bI (canB T c a)))) S2 from c_X9_canLend hr2 hM2 hc ha) rfl (by decide) (Nat.le_of_ble_eq_true rfl) ?_ rfl
          refine zifb_eq (tgt := 39) dX9_worthBoth_26 (by decide) (fun h => absurd (h.symm.trans h1) (by decide)) (fun _ => ?_)
          refine zaload_n dX9_worthBoth_29 rfl ?_
          refine gf_X9_13 rfl dX9_worthBoth_30 ?_
          refine ziload dX9_worthBoth_33 rfl ?_
          refine ziload_n dX9_worthBoth_35 rfl ?_
          refine zcSv  gk_X9_122 dX9_worthBoth_36 (c_X9_lendsIn hr2 hM2 hc ha) rfl (by decide) (Nat.le_of_ble_eq_true rfl) ?_ rfl
          have hM2 := isM_hand (p := c) (q := a) hM2
          have hf2 := frM_hand (p := c) (q := a) hf2
          refine ziload dX9_worthBoth_39 rfl ?_
          refine ziconst (v := 1) dX9_worthBoth_41 (by decide) ?_
          refine zicmp_ne (tgt := 68) dX9_worthBoth_42 (by decide) (fun h => absurd rfl h) (fun _ => ?_)
          refine zaload_n dX9_worthBoth_45 rfl ?_
          refine gf_X9_13 rfl dX9_worthBoth_46 ?_
          refine ziload_n dX9_worthBoth_49 rfl ?_
          refine ziload dX9_worthBoth_50 rfl ?_
          refine zcSf  gk_X9_118 dX9_worthBoth_52 (show zF x false mX9_canLend _ _ (some (.int (bI (canB _ a c)))) _ from c_X9_canLend hr2 hM2 ha hc) rfl (by decide) (Nat.le_of_ble_eq_true rfl) ?_ rfl
          refine zifb_eq (tgt := 68) dX9_worthBoth_55 (by decide) (fun h => absurd (h.symm.trans h2) (by decide)) (fun _ => ?_)
          refine zaload_n dX9_worthBoth_58 rfl ?_
          refine gf_X9_13 rfl dX9_worthBoth_59 ?_
          refine ziload_n dX9_worthBoth_62 rfl ?_
          refine ziload dX9_worthBoth_63 rfl ?_
          refine zcSv  gk_X9_122 dX9_worthBoth_65 (c_X9_lendsIn hr2 hM2 ha hc) rfl (by decide) (Nat.le_of_ble_eq_true rfl) ?_ rfl
          have hM2 := isM_hand (p := a) (q := c) hM2
          have hf2 := frM_hand (p := a) (q := c) hf2
          refine zaload_n dX9_worthBoth_68 rfl ?_
          refine ziload_n dX9_worthBoth_69 rfl ?_
          refine ziload dX9_worthBoth_70 rfl ?_
          refine zcVr ob_Mo gk_X9_163 dX9_worthBoth_72 (c_X9_worthBehind hM2 (by rw [← hE]; exact (WFT_lendIf (WFT_lendIf hW hc ha) ha hc).2.1) hp hK) rfl (by decide) (Nat.le_of_ble_eq_true rfl) (fun r S4 hp4 => ?_) rfl
          obtain ⟨rfl, hf4⟩ := hp4
          exact zireturn dX9_worthBoth_75 rfl rfl ⟨_, rfl, by unfold twoW; rw [hE], hf2.trans hf4⟩
        | false =>
          have hE : twoT T a c true true = handT T c a := by unfold twoT; rw [hL]; unfold lendIf; rw [if_neg (fun z => by rw [h2] at z; exact absurd z.2 (by decide))]
          refine zaload_n dX9_worthBoth_0 rfl ?_
          refine gf_X9_9 rfl dX9_worthBoth_1 ?_
          refine zaload_n dX9_worthBoth_4 rfl ?_
          refine gf_X9_13 rfl dX9_worthBoth_5 ?_
          refine zcSn  gk_X9_133 dX9_worthBoth_8 (c_X9_copies hr1 hr2 (by decide) hM) rfl (by decide) (Nat.le_of_ble_eq_true rfl) (fun S2 hp2 => ?_) rfl
          obtain ⟨hM2, -, hf2⟩ := hp2
          refine ziload_n dX9_worthBoth_11 rfl ?_
          refine ziconst (v := 1) dX9_worthBoth_12 (by decide) ?_
          refine zicmp_ne (tgt := 39) dX9_worthBoth_13 (by decide) (fun h => absurd rfl h) (fun _ => ?_)
          refine zaload_n dX9_worthBoth_16 rfl ?_
          refine gf_X9_13 rfl dX9_worthBoth_17 ?_
          refine ziload dX9_worthBoth_20 rfl ?_
          refine ziload_n dX9_worthBoth_22 rfl ?_
          refine zcSf  gk_X9_118 dX9_worthBoth_23 (show zF x false mX9_canLend _ S2 (some (.int (bI (canB T c a)))) S2 from c_X9_canLend hr2 hM2 hc ha) rfl (by decide) (Nat.le_of_ble_eq_true rfl) ?_ rfl
          refine zifb_eq (tgt := 39) dX9_worthBoth_26 (by decide) (fun h => absurd (h.symm.trans h1) (by decide)) (fun _ => ?_)
          refine zaload_n dX9_worthBoth_29 rfl ?_
          refine gf_X9_13 rfl dX9_worthBoth_30 ?_
          refine ziload dX9_worthBoth_33 rfl ?_
          refine ziload_n dX9_worthBoth_35 rfl ?_
          refine zcSv  gk_X9_122 dX9_worthBoth_36 (c_X9_lendsIn hr2 hM2 hc ha) rfl (by decide) (Nat.le_of_ble_eq_true rfl) ?_ rfl
          have hM2 := isM_hand (p := c) (q := a) hM2
          have hf2 := frM_hand (p := c) (q := a) hf2
          refine ziload dX9_worthBoth_39 rfl ?_
          refine ziconst (v := 1) dX9_worthBoth_41 (by decide) ?_
          refine zicmp_ne (tgt := 68) dX9_worthBoth_42 (by decide) (fun h => absurd rfl h) (fun _ => ?_)
          refine zaload_n dX9_worthBoth_45 rfl ?_
          refine gf_X9_13 rfl dX9_worthBoth_46 ?_
          refine ziload_n dX9_worthBoth_49 rfl ?_
          refine ziload dX9_worthBoth_50 rfl ?_
          refine zcSf  gk_X9_118 dX9_worthBoth_52 (show zF x false mX9_canLend _ _ (some (.int (bI (canB _ a c)))) _ from c_X9_canLend hr2 hM2 ha hc) rfl (by decide) (Nat.le_of_ble_eq_true rfl) ?_ rfl
          refine zifb_eq (tgt := 68) dX9_worthBoth_55 (by decide) (fun _ => ?_) (fun h => absurd (h.symm.trans h2) (by decide))
          refine zaload_n dX9_worthBoth_68 rfl ?_
          refine ziload_n dX9_worthBoth_69 rfl ?_
          refine ziload dX9_worthBoth_70 rfl ?_
          refine zcVr ob_Mo gk_X9_163 dX9_worthBoth_72 (c_X9_worthBehind hM2 (by rw [← hE]; exact (WFT_lendIf (WFT_lendIf hW hc ha) ha hc).2.1) hp hK) rfl (by decide) (Nat.le_of_ble_eq_true rfl) (fun r S4 hp4 => ?_) rfl
          obtain ⟨rfl, hf4⟩ := hp4
          exact zireturn dX9_worthBoth_75 rfl rfl ⟨_, rfl, by unfold twoW; rw [hE], hf2.trans hf4⟩
    | false =>
      have hL : lendIf true T c a = T := by unfold lendIf; rw [if_neg (fun z => by rw [h1] at z; exact absurd z.2 (by decide))]
      cases vb with
      | false =>
        have hE : twoT T a c true false = T := by unfold twoT; rw [hL]; rfl
        refine zaload_n dX9_worthBoth_0 rfl ?_
        refine gf_X9_9 rfl dX9_worthBoth_1 ?_
        refine zaload_n dX9_worthBoth_4 rfl ?_
        refine gf_X9_13 rfl dX9_worthBoth_5 ?_
        refine zcSn  gk_X9_133 dX9_worthBoth_8 (c_X9_copies hr1 hr2 (by decide) hM) rfl (by decide) (Nat.le_of_ble_eq_true rfl) (fun S2 hp2 => ?_) rfl
        obtain ⟨hM2, -, hf2⟩ := hp2
        refine ziload_n dX9_worthBoth_11 rfl ?_
        refine ziconst (v := 1) dX9_worthBoth_12 (by decide) ?_
        refine zicmp_ne (tgt := 39) dX9_worthBoth_13 (by decide) (fun h => absurd rfl h) (fun _ => ?_)
        refine zaload_n dX9_worthBoth_16 rfl ?_
        refine gf_X9_13 rfl dX9_worthBoth_17 ?_
        refine ziload dX9_worthBoth_20 rfl ?_
        refine ziload_n dX9_worthBoth_22 rfl ?_
        refine zcSf  gk_X9_118 dX9_worthBoth_23 (show zF x false mX9_canLend _ S2 (some (.int (bI (canB T c a)))) S2 from c_X9_canLend hr2 hM2 hc ha) rfl (by decide) (Nat.le_of_ble_eq_true rfl) ?_ rfl
        refine zifb_eq (tgt := 39) dX9_worthBoth_26 (by decide) (fun _ => ?_) (fun h => absurd (h.symm.trans h1) (by decide))
        refine ziload dX9_worthBoth_39 rfl ?_
        refine ziconst (v := 1) dX9_worthBoth_41 (by decide) ?_
        refine zicmp_ne (tgt := 68) dX9_worthBoth_42 (by decide) (fun _ => ?_) (fun h => absurd h (by decide))
        refine zaload_n dX9_worthBoth_68 rfl ?_
        refine ziload_n dX9_worthBoth_69 rfl ?_
        refine ziload dX9_worthBoth_70 rfl ?_
        refine zcVr ob_Mo gk_X9_163 dX9_worthBoth_72 (c_X9_worthBehind hM2 (by rw [← hE]; exact (WFT_lendIf (WFT_lendIf hW hc ha) ha hc).2.1) hp hK) rfl (by decide) (Nat.le_of_ble_eq_true rfl) (fun r S4 hp4 => ?_) rfl
        obtain ⟨rfl, hf4⟩ := hp4
        exact zireturn dX9_worthBoth_75 rfl rfl ⟨_, rfl, by unfold twoW; rw [hE], hf2.trans hf4⟩
      | true =>
        cases h2 : canB T a c with
        | true =>
          have hE : twoT T a c true true = handT T a c := by unfold twoT; rw [hL]; unfold lendIf; rw [if_pos ⟨rfl, h2⟩]
          refine zaload_n dX9_worthBoth_0 rfl ?_
          refine gf_X9_9 rfl dX9_worthBoth_1 ?_
          refine zaload_n dX9_worthBoth_4 rfl ?_
          refine gf_X9_13 rfl dX9_worthBoth_5 ?_
          refine zcSn  gk_X9_133 dX9_worthBoth_8 (c_X9_copies hr1 hr2 (by decide) hM) rfl (by decide) (Nat.le_of_ble_eq_true rfl) (fun S2 hp2 => ?_) rfl
          obtain ⟨hM2, -, hf2⟩ := hp2
          refine ziload_n dX9_worthBoth_11 rfl ?_
          refine ziconst (v := 1) dX9_worthBoth_12 (by decide) ?_
          refine zicmp_ne (tgt := 39) dX9_worthBoth_13 (by decide) (fun h => absurd rfl h) (fun _ => ?_)
          refine zaload_n dX9_worthBoth_16 rfl ?_
          refine gf_X9_13 rfl dX9_worthBoth_17 ?_
          refine ziload dX9_worthBoth_20 rfl ?_
          refine ziload_n dX9_worthBoth_22 rfl ?_
          refine zcSf  gk_X9_118 dX9_worthBoth_23 (show zF x false mX9_canLend _ S2 (some (.int (bI (canB T c a)))) S2 from c_X9_canLend hr2 hM2 hc ha) rfl (by decide) (Nat.le_of_ble_eq_true rfl) ?_ rfl
          refine zifb_eq (tgt := 39) dX9_worthBoth_26 (by decide) (fun _ => ?_) (fun h => absurd (h.symm.trans h1) (by decide))
          refine ziload dX9_worthBoth_39 rfl ?_
          refine ziconst (v := 1) dX9_worthBoth_41 (by decide) ?_
          refine zicmp_ne (tgt := 68) dX9_worthBoth_42 (by decide) (fun h => absurd rfl h) (fun _ => ?_)
          refine zaload_n dX9_worthBoth_45 rfl ?_
          refine gf_X9_13 rfl dX9_worthBoth_46 ?_
          refine ziload_n dX9_worthBoth_49 rfl ?_
          refine ziload dX9_worthBoth_50 rfl ?_
          refine zcSf  gk_X9_118 dX9_worthBoth_52 (show zF x false mX9_canLend _ _ (some (.int (bI (canB _ a c)))) _ from c_X9_canLend hr2 hM2 ha hc) rfl (by decide) (Nat.le_of_ble_eq_true rfl) ?_ rfl
          refine zifb_eq (tgt := 68) dX9_worthBoth_55 (by decide) (fun h => absurd (h.symm.trans h2) (by decide)) (fun _ => ?_)
          refine zaload_n dX9_worthBoth_58 rfl ?_
          refine gf_X9_13 rfl dX9_worthBoth_59 ?_
          refine ziload_n dX9_worthBoth_62 rfl ?_
          refine ziload dX9_worthBoth_63 rfl ?_
          refine zcSv  gk_X9_122 dX9_worthBoth_65 (c_X9_lendsIn hr2 hM2 ha hc) rfl (by decide) (Nat.le_of_ble_eq_true rfl) ?_ rfl
          have hM2 := isM_hand (p := a) (q := c) hM2
          have hf2 := frM_hand (p := a) (q := c) hf2
          refine zaload_n dX9_worthBoth_68 rfl ?_
          refine ziload_n dX9_worthBoth_69 rfl ?_
          refine ziload dX9_worthBoth_70 rfl ?_
          refine zcVr ob_Mo gk_X9_163 dX9_worthBoth_72 (c_X9_worthBehind hM2 (by rw [← hE]; exact (WFT_lendIf (WFT_lendIf hW hc ha) ha hc).2.1) hp hK) rfl (by decide) (Nat.le_of_ble_eq_true rfl) (fun r S4 hp4 => ?_) rfl
          obtain ⟨rfl, hf4⟩ := hp4
          exact zireturn dX9_worthBoth_75 rfl rfl ⟨_, rfl, by unfold twoW; rw [hE], hf2.trans hf4⟩
        | false =>
          have hE : twoT T a c true true = T := by unfold twoT; rw [hL]; unfold lendIf; rw [if_neg (fun z => by rw [h2] at z; exact absurd z.2 (by decide))]
          refine zaload_n dX9_worthBoth_0 rfl ?_
          refine gf_X9_9 rfl dX9_worthBoth_1 ?_
          refine zaload_n dX9_worthBoth_4 rfl ?_
          refine gf_X9_13 rfl dX9_worthBoth_5 ?_
          refine zcSn  gk_X9_133 dX9_worthBoth_8 (c_X9_copies hr1 hr2 (by decide) hM) rfl (by decide) (Nat.le_of_ble_eq_true rfl) (fun S2 hp2 => ?_) rfl
          obtain ⟨hM2, -, hf2⟩ := hp2
          refine ziload_n dX9_worthBoth_11 rfl ?_
          refine ziconst (v := 1) dX9_worthBoth_12 (by decide) ?_
          refine zicmp_ne (tgt := 39) dX9_worthBoth_13 (by decide) (fun h => absurd rfl h) (fun _ => ?_)
          refine zaload_n dX9_worthBoth_16 rfl ?_
          refine gf_X9_13 rfl dX9_worthBoth_17 ?_
          refine ziload dX9_worthBoth_20 rfl ?_
          refine ziload_n dX9_worthBoth_22 rfl ?_
          refine zcSf  gk_X9_118 dX9_worthBoth_23 (show zF x false mX9_canLend _ S2 (some (.int (bI (canB T c a)))) S2 from c_X9_canLend hr2 hM2 hc ha) rfl (by decide) (Nat.le_of_ble_eq_true rfl) ?_ rfl
          refine zifb_eq (tgt := 39) dX9_worthBoth_26 (by decide) (fun _ => ?_) (fun h => absurd (h.symm.trans h1) (by decide))
          refine ziload dX9_worthBoth_39 rfl ?_
          refine ziconst (v := 1) dX9_worthBoth_41 (by decide) ?_
          refine zicmp_ne (tgt := 68) dX9_worthBoth_42 (by decide) (fun h => absurd rfl h) (fun _ => ?_)
          refine zaload_n dX9_worthBoth_45 rfl ?_
          refine gf_X9_13 rfl dX9_worthBoth_46 ?_
          refine ziload_n dX9_worthBoth_49 rfl ?_
          refine ziload dX9_worthBoth_50 rfl ?_
          refine zcSf  gk_X9_118 dX9_worthBoth_52 (show zF x false mX9_canLend _ _ (some (.int (bI (canB _ a c)))) _ from c_X9_canLend hr2 hM2 ha hc) rfl (by decide) (Nat.le_of_ble_eq_true rfl) ?_ rfl
          refine zifb_eq (tgt := 68) dX9_worthBoth_55 (by decide) (fun _ => ?_) (fun h => absurd (h.symm.trans h2) (by decide))
          refine zaload_n dX9_worthBoth_68 rfl ?_
          refine ziload_n dX9_worthBoth_69 rfl ?_
          refine ziload dX9_worthBoth_70 rfl ?_
          refine zcVr ob_Mo gk_X9_163 dX9_worthBoth_72 (c_X9_worthBehind hM2 (by rw [← hE]; exact (WFT_lendIf (WFT_lendIf hW hc ha) ha hc).2.1) hp hK) rfl (by decide) (Nat.le_of_ble_eq_true rfl) (fun r S4 hp4 => ?_) rfl
          obtain ⟨rfl, hf4⟩ := hp4
          exact zireturn dX9_worthBoth_75 rfl rfl ⟨_, rfl, by unfold twoW; rw [hE], hf2.trans hf4⟩
set_option maxRecDepth 100000 in
set_option maxHeartbeats 4000000 in
theorem l_X9_two0 (hR0 : RepM σ S) (hW : WS σ) {i j l : Nat} (hi : i < sN σ) (hj : j < sN σ) (hl : l ≤ 24) {post : Option Value → zSt → Prop} (hy : ∀ S', RepM σ S' → twoOk (sN σ) l (sT σ) i j false false = true → post (some (.int 0)) S') (hn : ∀ S', RepM σ S' → twoOk (sN σ) l (sT σ) i j false false = false → zZ x false mX9_two post 36 [(0, .ref (zad x 0)), (1, .int (nI i)), (2, .int (nI j)), (3, .int (nI l)), (5, .int (nI 1))] [] S') : zZ x false mX9_two post 36 [(0, .ref (zad x 0)), (1, .int (nI i)), (2, .int (nI j)), (3, .int (nI l)), (5, .int (nI 0))] [] S := by
  have hn8 : sN σ ≤ 8 := hR0.1.2.1
  by_cases g1 : twoW (sN σ) l (sT σ) i j i true false ≤ twoW (sN σ) l (sT σ) i j i false false
  · by_cases g2 : twoW (sN σ) l (sT σ) i j j false true ≤ twoW (sN σ) l (sT σ) i j j false false
    · refine ziload dX9_two_36 rfl ?_
      refine ziconst (v := 4) dX9_two_38 (by decide) ?_
      refine zicmp_ge (tgt := 127) dX9_two_39 (by decide) (fun h => absurd h (nI_ge (b := 4) (by decide) (by decide))) (fun _ => ?_)
      refine ziload dX9_two_42 rfl ?_
      refine ziconst (v := 2) dX9_two_44 (by decide) ?_
      refine zidiv dX9_two_45 (by decide) ?_
      refine zistore dX9_two_46 (by decide) rfl ?_
      refine ziload dX9_two_48 rfl ?_
      refine ziconst (v := 2) dX9_two_50 (by decide) ?_
      refine zirem dX9_two_51 (by decide) ?_
      refine zistore dX9_two_52 (by decide) rfl ?_
      refine zaload_n dX9_two_54 rfl ?_
      refine ziload_n dX9_two_55 rfl ?_
      refine ziload_n dX9_two_56 rfl ?_
      refine ziconst (v := 1) dX9_two_57 (by decide) ?_
      refine ziload dX9_two_58 rfl ?_
      refine zisub dX9_two_60 ?_
      refine ziload_n dX9_two_61 rfl ?_
      refine ziload dX9_two_62 rfl ?_
      refine ziload_n dX9_two_64 rfl ?_
      refine zcVr ob_Mo gk_X9_192 dX9_two_65 (c_X9_worthBoth (p := i) (ub := true) (vb := false) hR0.1 hW.1 (by decide) (by decide) (by omega) hi hj (by omega)) rfl (by decide) (Nat.le_of_ble_eq_true rfl) (fun r S1 hp => ?_) rfl
      obtain ⟨rfl, hf⟩ := hp
      have hR1 := hR0.mind hf (Or.inl rfl)
      refine zaload_n dX9_two_68 rfl ?_
      refine ziload_n dX9_two_69 rfl ?_
      refine ziload_n dX9_two_70 rfl ?_
      refine ziload dX9_two_71 rfl ?_
      refine ziload_n dX9_two_73 rfl ?_
      refine ziload dX9_two_74 rfl ?_
      refine ziload_n dX9_two_76 rfl ?_
      refine zcVr ob_Mo gk_X9_192 dX9_two_77 (c_X9_worthBoth (p := i) (ub := false) (vb := false) hR1.1 hW.1 (by decide) (by decide) (by omega) hi hj (by omega)) rfl (by decide) (Nat.le_of_ble_eq_true rfl) (fun r S2 hp => ?_) rfl
      obtain ⟨rfl, hf⟩ := hp
      have hR2 := hR1.mind hf (Or.inl rfl)
      refine zicmp_gt (tgt := 121) dX9_two_80 (by decide) (fun h => absurd h (Int32.not_lt.mpr g1)) (fun _ => ?_)
      refine zaload_n dX9_two_83 rfl ?_
      refine ziload_n dX9_two_84 rfl ?_
      refine ziload_n dX9_two_85 rfl ?_
      refine ziload dX9_two_86 rfl ?_
      refine ziload_n dX9_two_88 rfl ?_
      refine ziconst (v := 1) dX9_two_89 (by decide) ?_
      refine ziload dX9_two_90 rfl ?_
      refine zisub dX9_two_92 ?_
      refine ziload_n dX9_two_93 rfl ?_
      refine zcVr ob_Mo gk_X9_192 dX9_two_94 (c_X9_worthBoth (p := j) (ub := false) (vb := true) hR2.1 hW.1 (by decide) (by decide) (by omega) hi hj (by omega)) rfl (by decide) (Nat.le_of_ble_eq_true rfl) (fun r S3 hp => ?_) rfl
      obtain ⟨rfl, hf⟩ := hp
      have hR3 := hR2.mind hf (Or.inl rfl)
      refine zaload_n dX9_two_97 rfl ?_
      refine ziload_n dX9_two_98 rfl ?_
      refine ziload_n dX9_two_99 rfl ?_
      refine ziload dX9_two_100 rfl ?_
      refine ziload_n dX9_two_102 rfl ?_
      refine ziload dX9_two_103 rfl ?_
      refine ziload_n dX9_two_105 rfl ?_
      refine zcVr ob_Mo gk_X9_192 dX9_two_106 (c_X9_worthBoth (p := j) (ub := false) (vb := false) hR3.1 hW.1 (by decide) (by decide) (by omega) hi hj (by omega)) rfl (by decide) (Nat.le_of_ble_eq_true rfl) (fun r S4 hp => ?_) rfl
      obtain ⟨rfl, hf⟩ := hp
      have hR4 := hR3.mind hf (Or.inl rfl)
      refine zicmp_gt (tgt := 121) dX9_two_109 (by decide) (fun h => absurd h (Int32.not_lt.mpr g2)) (fun _ => ?_)
      refine zbipush (v := 10) dX9_two_112 (by decide) ?_
      refine ziload dX9_two_114 rfl ?_
      refine zimul dX9_two_116 ?_
      refine ziload dX9_two_117 rfl ?_
      refine ziadd dX9_two_119 ?_
      exact zireturn dX9_two_120 rfl rfl (by rw [show (10 : Int32) * (nI 0 / 2) + (nI 0 - nI 0 / 2 * 2) = 0 from by decide]; exact hy S4 hR4 (decide_eq_true ⟨g1, g2⟩))
    · refine ziload dX9_two_36 rfl ?_
      refine ziconst (v := 4) dX9_two_38 (by decide) ?_
      refine zicmp_ge (tgt := 127) dX9_two_39 (by decide) (fun h => absurd h (nI_ge (b := 4) (by decide) (by decide))) (fun _ => ?_)
      refine ziload dX9_two_42 rfl ?_
      refine ziconst (v := 2) dX9_two_44 (by decide) ?_
      refine zidiv dX9_two_45 (by decide) ?_
      refine zistore dX9_two_46 (by decide) rfl ?_
      refine ziload dX9_two_48 rfl ?_
      refine ziconst (v := 2) dX9_two_50 (by decide) ?_
      refine zirem dX9_two_51 (by decide) ?_
      refine zistore dX9_two_52 (by decide) rfl ?_
      refine zaload_n dX9_two_54 rfl ?_
      refine ziload_n dX9_two_55 rfl ?_
      refine ziload_n dX9_two_56 rfl ?_
      refine ziconst (v := 1) dX9_two_57 (by decide) ?_
      refine ziload dX9_two_58 rfl ?_
      refine zisub dX9_two_60 ?_
      refine ziload_n dX9_two_61 rfl ?_
      refine ziload dX9_two_62 rfl ?_
      refine ziload_n dX9_two_64 rfl ?_
      refine zcVr ob_Mo gk_X9_192 dX9_two_65 (c_X9_worthBoth (p := i) (ub := true) (vb := false) hR0.1 hW.1 (by decide) (by decide) (by omega) hi hj (by omega)) rfl (by decide) (Nat.le_of_ble_eq_true rfl) (fun r S1 hp => ?_) rfl
      obtain ⟨rfl, hf⟩ := hp
      have hR1 := hR0.mind hf (Or.inl rfl)
      refine zaload_n dX9_two_68 rfl ?_
      refine ziload_n dX9_two_69 rfl ?_
      refine ziload_n dX9_two_70 rfl ?_
      refine ziload dX9_two_71 rfl ?_
      refine ziload_n dX9_two_73 rfl ?_
      refine ziload dX9_two_74 rfl ?_
      refine ziload_n dX9_two_76 rfl ?_
      refine zcVr ob_Mo gk_X9_192 dX9_two_77 (c_X9_worthBoth (p := i) (ub := false) (vb := false) hR1.1 hW.1 (by decide) (by decide) (by omega) hi hj (by omega)) rfl (by decide) (Nat.le_of_ble_eq_true rfl) (fun r S2 hp => ?_) rfl
      obtain ⟨rfl, hf⟩ := hp
      have hR2 := hR1.mind hf (Or.inl rfl)
      refine zicmp_gt (tgt := 121) dX9_two_80 (by decide) (fun h => absurd h (Int32.not_lt.mpr g1)) (fun _ => ?_)
      refine zaload_n dX9_two_83 rfl ?_
      refine ziload_n dX9_two_84 rfl ?_
      refine ziload_n dX9_two_85 rfl ?_
      refine ziload dX9_two_86 rfl ?_
      refine ziload_n dX9_two_88 rfl ?_
      refine ziconst (v := 1) dX9_two_89 (by decide) ?_
      refine ziload dX9_two_90 rfl ?_
      refine zisub dX9_two_92 ?_
      refine ziload_n dX9_two_93 rfl ?_
      refine zcVr ob_Mo gk_X9_192 dX9_two_94 (c_X9_worthBoth (p := j) (ub := false) (vb := true) hR2.1 hW.1 (by decide) (by decide) (by omega) hi hj (by omega)) rfl (by decide) (Nat.le_of_ble_eq_true rfl) (fun r S3 hp => ?_) rfl
      obtain ⟨rfl, hf⟩ := hp
      have hR3 := hR2.mind hf (Or.inl rfl)
      refine zaload_n dX9_two_97 rfl ?_
      refine ziload_n dX9_two_98 rfl ?_
      refine ziload_n dX9_two_99 rfl ?_
      refine ziload dX9_two_100 rfl ?_
      refine ziload_n dX9_two_102 rfl ?_
      refine ziload dX9_two_103 rfl ?_
      refine ziload_n dX9_two_105 rfl ?_
      refine zcVr ob_Mo gk_X9_192 dX9_two_106 (c_X9_worthBoth (p := j) (ub := false) (vb := false) hR3.1 hW.1 (by decide) (by decide) (by omega) hi hj (by omega)) rfl (by decide) (Nat.le_of_ble_eq_true rfl) (fun r S4 hp => ?_) rfl
      obtain ⟨rfl, hf⟩ := hp
      have hR4 := hR3.mind hf (Or.inl rfl)
      refine zicmp_gt (tgt := 121) dX9_two_109 (by decide) (fun _ => ?_) (fun h => absurd (Int32.not_le.mp g2) h)
      refine ziinc dX9_two_121 rfl rfl (by decide) rfl ?_
      refine zgoto (tgt := 36) dX9_two_124 (by decide) ?_
      refine zlvs (lv' := [(0, .ref (zad x 0)), (1, .int (nI i)), (2, .int (nI j)), (3, .int (nI l)), (5, .int (nI 1))]) ⟨rfl, rfl, rfl, rfl, rfl, trivial⟩ ?_
      exact hn S4 hR4 (decide_eq_false (fun z => absurd z.2 g2))
  · refine ziload dX9_two_36 rfl ?_
    refine ziconst (v := 4) dX9_two_38 (by decide) ?_
    refine zicmp_ge (tgt := 127) dX9_two_39 (by decide) (fun h => absurd h (nI_ge (b := 4) (by decide) (by decide))) (fun _ => ?_)
    refine ziload dX9_two_42 rfl ?_
    refine ziconst (v := 2) dX9_two_44 (by decide) ?_
    refine zidiv dX9_two_45 (by decide) ?_
    refine zistore dX9_two_46 (by decide) rfl ?_
    refine ziload dX9_two_48 rfl ?_
    refine ziconst (v := 2) dX9_two_50 (by decide) ?_
    refine zirem dX9_two_51 (by decide) ?_
    refine zistore dX9_two_52 (by decide) rfl ?_
    refine zaload_n dX9_two_54 rfl ?_
    refine ziload_n dX9_two_55 rfl ?_
    refine ziload_n dX9_two_56 rfl ?_
    refine ziconst (v := 1) dX9_two_57 (by decide) ?_
    refine ziload dX9_two_58 rfl ?_
    refine zisub dX9_two_60 ?_
    refine ziload_n dX9_two_61 rfl ?_
    refine ziload dX9_two_62 rfl ?_
    refine ziload_n dX9_two_64 rfl ?_
    refine zcVr ob_Mo gk_X9_192 dX9_two_65 (c_X9_worthBoth (p := i) (ub := true) (vb := false) hR0.1 hW.1 (by decide) (by decide) (by omega) hi hj (by omega)) rfl (by decide) (Nat.le_of_ble_eq_true rfl) (fun r S1 hp => ?_) rfl
    obtain ⟨rfl, hf⟩ := hp
    have hR1 := hR0.mind hf (Or.inl rfl)
    refine zaload_n dX9_two_68 rfl ?_
    refine ziload_n dX9_two_69 rfl ?_
    refine ziload_n dX9_two_70 rfl ?_
    refine ziload dX9_two_71 rfl ?_
    refine ziload_n dX9_two_73 rfl ?_
    refine ziload dX9_two_74 rfl ?_
    refine ziload_n dX9_two_76 rfl ?_
    refine zcVr ob_Mo gk_X9_192 dX9_two_77 (c_X9_worthBoth (p := i) (ub := false) (vb := false) hR1.1 hW.1 (by decide) (by decide) (by omega) hi hj (by omega)) rfl (by decide) (Nat.le_of_ble_eq_true rfl) (fun r S2 hp => ?_) rfl
    obtain ⟨rfl, hf⟩ := hp
    have hR2 := hR1.mind hf (Or.inl rfl)
    refine zicmp_gt (tgt := 121) dX9_two_80 (by decide) (fun _ => ?_) (fun h => absurd (Int32.not_le.mp g1) h)
    refine ziinc dX9_two_121 rfl rfl (by decide) rfl ?_
    refine zgoto (tgt := 36) dX9_two_124 (by decide) ?_
    refine zlvs (lv' := [(0, .ref (zad x 0)), (1, .int (nI i)), (2, .int (nI j)), (3, .int (nI l)), (5, .int (nI 1))]) ⟨rfl, rfl, rfl, rfl, rfl, trivial⟩ ?_
    exact hn S2 hR2 (decide_eq_false (fun z => absurd z.1 g1))
set_option maxRecDepth 100000 in
set_option maxHeartbeats 4000000 in
theorem l_X9_two1 (hR0 : RepM σ S) (hW : WS σ) {i j l : Nat} (hi : i < sN σ) (hj : j < sN σ) (hl : l ≤ 24) {post : Option Value → zSt → Prop} (hy : ∀ S', RepM σ S' → twoOk (sN σ) l (sT σ) i j false true = true → post (some (.int 1)) S') (hn : ∀ S', RepM σ S' → twoOk (sN σ) l (sT σ) i j false true = false → zZ x false mX9_two post 36 [(0, .ref (zad x 0)), (1, .int (nI i)), (2, .int (nI j)), (3, .int (nI l)), (5, .int (nI 2))] [] S') : zZ x false mX9_two post 36 [(0, .ref (zad x 0)), (1, .int (nI i)), (2, .int (nI j)), (3, .int (nI l)), (5, .int (nI 1))] [] S := by
  have hn8 : sN σ ≤ 8 := hR0.1.2.1
  by_cases g1 : twoW (sN σ) l (sT σ) i j i true true ≤ twoW (sN σ) l (sT σ) i j i false true
  · by_cases g2 : twoW (sN σ) l (sT σ) i j j false false ≤ twoW (sN σ) l (sT σ) i j j false true
    · refine ziload dX9_two_36 rfl ?_
      refine ziconst (v := 4) dX9_two_38 (by decide) ?_
      refine zicmp_ge (tgt := 127) dX9_two_39 (by decide) (fun h => absurd h (nI_ge (b := 4) (by decide) (by decide))) (fun _ => ?_)
      refine ziload dX9_two_42 rfl ?_
      refine ziconst (v := 2) dX9_two_44 (by decide) ?_
      refine zidiv dX9_two_45 (by decide) ?_
      refine zistore dX9_two_46 (by decide) rfl ?_
      refine ziload dX9_two_48 rfl ?_
      refine ziconst (v := 2) dX9_two_50 (by decide) ?_
      refine zirem dX9_two_51 (by decide) ?_
      refine zistore dX9_two_52 (by decide) rfl ?_
      refine zaload_n dX9_two_54 rfl ?_
      refine ziload_n dX9_two_55 rfl ?_
      refine ziload_n dX9_two_56 rfl ?_
      refine ziconst (v := 1) dX9_two_57 (by decide) ?_
      refine ziload dX9_two_58 rfl ?_
      refine zisub dX9_two_60 ?_
      refine ziload_n dX9_two_61 rfl ?_
      refine ziload dX9_two_62 rfl ?_
      refine ziload_n dX9_two_64 rfl ?_
      refine zcVr ob_Mo gk_X9_192 dX9_two_65 (c_X9_worthBoth (p := i) (ub := true) (vb := true) hR0.1 hW.1 (by decide) (by decide) (by omega) hi hj (by omega)) rfl (by decide) (Nat.le_of_ble_eq_true rfl) (fun r S1 hp => ?_) rfl
      obtain ⟨rfl, hf⟩ := hp
      have hR1 := hR0.mind hf (Or.inl rfl)
      refine zaload_n dX9_two_68 rfl ?_
      refine ziload_n dX9_two_69 rfl ?_
      refine ziload_n dX9_two_70 rfl ?_
      refine ziload dX9_two_71 rfl ?_
      refine ziload_n dX9_two_73 rfl ?_
      refine ziload dX9_two_74 rfl ?_
      refine ziload_n dX9_two_76 rfl ?_
      refine zcVr ob_Mo gk_X9_192 dX9_two_77 (c_X9_worthBoth (p := i) (ub := false) (vb := true) hR1.1 hW.1 (by decide) (by decide) (by omega) hi hj (by omega)) rfl (by decide) (Nat.le_of_ble_eq_true rfl) (fun r S2 hp => ?_) rfl
      obtain ⟨rfl, hf⟩ := hp
      have hR2 := hR1.mind hf (Or.inl rfl)
      refine zicmp_gt (tgt := 121) dX9_two_80 (by decide) (fun h => absurd h (Int32.not_lt.mpr g1)) (fun _ => ?_)
      refine zaload_n dX9_two_83 rfl ?_
      refine ziload_n dX9_two_84 rfl ?_
      refine ziload_n dX9_two_85 rfl ?_
      refine ziload dX9_two_86 rfl ?_
      refine ziload_n dX9_two_88 rfl ?_
      refine ziconst (v := 1) dX9_two_89 (by decide) ?_
      refine ziload dX9_two_90 rfl ?_
      refine zisub dX9_two_92 ?_
      refine ziload_n dX9_two_93 rfl ?_
      refine zcVr ob_Mo gk_X9_192 dX9_two_94 (c_X9_worthBoth (p := j) (ub := false) (vb := false) hR2.1 hW.1 (by decide) (by decide) (by omega) hi hj (by omega)) rfl (by decide) (Nat.le_of_ble_eq_true rfl) (fun r S3 hp => ?_) rfl
      obtain ⟨rfl, hf⟩ := hp
      have hR3 := hR2.mind hf (Or.inl rfl)
      refine zaload_n dX9_two_97 rfl ?_
      refine ziload_n dX9_two_98 rfl ?_
      refine ziload_n dX9_two_99 rfl ?_
      refine ziload dX9_two_100 rfl ?_
      refine ziload_n dX9_two_102 rfl ?_
      refine ziload dX9_two_103 rfl ?_
      refine ziload_n dX9_two_105 rfl ?_
      refine zcVr ob_Mo gk_X9_192 dX9_two_106 (c_X9_worthBoth (p := j) (ub := false) (vb := true) hR3.1 hW.1 (by decide) (by decide) (by omega) hi hj (by omega)) rfl (by decide) (Nat.le_of_ble_eq_true rfl) (fun r S4 hp => ?_) rfl
      obtain ⟨rfl, hf⟩ := hp
      have hR4 := hR3.mind hf (Or.inl rfl)
      refine zicmp_gt (tgt := 121) dX9_two_109 (by decide) (fun h => absurd h (Int32.not_lt.mpr g2)) (fun _ => ?_)
      refine zbipush (v := 10) dX9_two_112 (by decide) ?_
      refine ziload dX9_two_114 rfl ?_
      refine zimul dX9_two_116 ?_
      refine ziload dX9_two_117 rfl ?_
      refine ziadd dX9_two_119 ?_
      exact zireturn dX9_two_120 rfl rfl (by rw [show (10 : Int32) * (nI 1 / 2) + (nI 1 - nI 1 / 2 * 2) = 1 from by decide]; exact hy S4 hR4 (decide_eq_true ⟨g1, g2⟩))
    · refine ziload dX9_two_36 rfl ?_
      refine ziconst (v := 4) dX9_two_38 (by decide) ?_
      refine zicmp_ge (tgt := 127) dX9_two_39 (by decide) (fun h => absurd h (nI_ge (b := 4) (by decide) (by decide))) (fun _ => ?_)
      refine ziload dX9_two_42 rfl ?_
      refine ziconst (v := 2) dX9_two_44 (by decide) ?_
      refine zidiv dX9_two_45 (by decide) ?_
      refine zistore dX9_two_46 (by decide) rfl ?_
      refine ziload dX9_two_48 rfl ?_
      refine ziconst (v := 2) dX9_two_50 (by decide) ?_
      refine zirem dX9_two_51 (by decide) ?_
      refine zistore dX9_two_52 (by decide) rfl ?_
      refine zaload_n dX9_two_54 rfl ?_
      refine ziload_n dX9_two_55 rfl ?_
      refine ziload_n dX9_two_56 rfl ?_
      refine ziconst (v := 1) dX9_two_57 (by decide) ?_
      refine ziload dX9_two_58 rfl ?_
      refine zisub dX9_two_60 ?_
      refine ziload_n dX9_two_61 rfl ?_
      refine ziload dX9_two_62 rfl ?_
      refine ziload_n dX9_two_64 rfl ?_
      refine zcVr ob_Mo gk_X9_192 dX9_two_65 (c_X9_worthBoth (p := i) (ub := true) (vb := true) hR0.1 hW.1 (by decide) (by decide) (by omega) hi hj (by omega)) rfl (by decide) (Nat.le_of_ble_eq_true rfl) (fun r S1 hp => ?_) rfl
      obtain ⟨rfl, hf⟩ := hp
      have hR1 := hR0.mind hf (Or.inl rfl)
      refine zaload_n dX9_two_68 rfl ?_
      refine ziload_n dX9_two_69 rfl ?_
      refine ziload_n dX9_two_70 rfl ?_
      refine ziload dX9_two_71 rfl ?_
      refine ziload_n dX9_two_73 rfl ?_
      refine ziload dX9_two_74 rfl ?_
      refine ziload_n dX9_two_76 rfl ?_
      refine zcVr ob_Mo gk_X9_192 dX9_two_77 (c_X9_worthBoth (p := i) (ub := false) (vb := true) hR1.1 hW.1 (by decide) (by decide) (by omega) hi hj (by omega)) rfl (by decide) (Nat.le_of_ble_eq_true rfl) (fun r S2 hp => ?_) rfl
      obtain ⟨rfl, hf⟩ := hp
      have hR2 := hR1.mind hf (Or.inl rfl)
      refine zicmp_gt (tgt := 121) dX9_two_80 (by decide) (fun h => absurd h (Int32.not_lt.mpr g1)) (fun _ => ?_)
      refine zaload_n dX9_two_83 rfl ?_
      refine ziload_n dX9_two_84 rfl ?_
      refine ziload_n dX9_two_85 rfl ?_
      refine ziload dX9_two_86 rfl ?_
      refine ziload_n dX9_two_88 rfl ?_
      refine ziconst (v := 1) dX9_two_89 (by decide) ?_
      refine ziload dX9_two_90 rfl ?_
      refine zisub dX9_two_92 ?_
      refine ziload_n dX9_two_93 rfl ?_
      refine zcVr ob_Mo gk_X9_192 dX9_two_94 (c_X9_worthBoth (p := j) (ub := false) (vb := false) hR2.1 hW.1 (by decide) (by decide) (by omega) hi hj (by omega)) rfl (by decide) (Nat.le_of_ble_eq_true rfl) (fun r S3 hp => ?_) rfl
      obtain ⟨rfl, hf⟩ := hp
      have hR3 := hR2.mind hf (Or.inl rfl)
      refine zaload_n dX9_two_97 rfl ?_
      refine ziload_n dX9_two_98 rfl ?_
      refine ziload_n dX9_two_99 rfl ?_
      refine ziload dX9_two_100 rfl ?_
      refine ziload_n dX9_two_102 rfl ?_
      refine ziload dX9_two_103 rfl ?_
      refine ziload_n dX9_two_105 rfl ?_
      refine zcVr ob_Mo gk_X9_192 dX9_two_106 (c_X9_worthBoth (p := j) (ub := false) (vb := true) hR3.1 hW.1 (by decide) (by decide) (by omega) hi hj (by omega)) rfl (by decide) (Nat.le_of_ble_eq_true rfl) (fun r S4 hp => ?_) rfl
      obtain ⟨rfl, hf⟩ := hp
      have hR4 := hR3.mind hf (Or.inl rfl)
      refine zicmp_gt (tgt := 121) dX9_two_109 (by decide) (fun _ => ?_) (fun h => absurd (Int32.not_le.mp g2) h)
      refine ziinc dX9_two_121 rfl rfl (by decide) rfl ?_
      refine zgoto (tgt := 36) dX9_two_124 (by decide) ?_
      refine zlvs (lv' := [(0, .ref (zad x 0)), (1, .int (nI i)), (2, .int (nI j)), (3, .int (nI l)), (5, .int (nI 2))]) ⟨rfl, rfl, rfl, rfl, rfl, trivial⟩ ?_
      exact hn S4 hR4 (decide_eq_false (fun z => absurd z.2 g2))
  · refine ziload dX9_two_36 rfl ?_
    refine ziconst (v := 4) dX9_two_38 (by decide) ?_
    refine zicmp_ge (tgt := 127) dX9_two_39 (by decide) (fun h => absurd h (nI_ge (b := 4) (by decide) (by decide))) (fun _ => ?_)
    refine ziload dX9_two_42 rfl ?_
    refine ziconst (v := 2) dX9_two_44 (by decide) ?_
    refine zidiv dX9_two_45 (by decide) ?_
    refine zistore dX9_two_46 (by decide) rfl ?_
    refine ziload dX9_two_48 rfl ?_
    refine ziconst (v := 2) dX9_two_50 (by decide) ?_
    refine zirem dX9_two_51 (by decide) ?_
    refine zistore dX9_two_52 (by decide) rfl ?_
    refine zaload_n dX9_two_54 rfl ?_
    refine ziload_n dX9_two_55 rfl ?_
    refine ziload_n dX9_two_56 rfl ?_
    refine ziconst (v := 1) dX9_two_57 (by decide) ?_
    refine ziload dX9_two_58 rfl ?_
    refine zisub dX9_two_60 ?_
    refine ziload_n dX9_two_61 rfl ?_
    refine ziload dX9_two_62 rfl ?_
    refine ziload_n dX9_two_64 rfl ?_
    refine zcVr ob_Mo gk_X9_192 dX9_two_65 (c_X9_worthBoth (p := i) (ub := true) (vb := true) hR0.1 hW.1 (by decide) (by decide) (by omega) hi hj (by omega)) rfl (by decide) (Nat.le_of_ble_eq_true rfl) (fun r S1 hp => ?_) rfl
    obtain ⟨rfl, hf⟩ := hp
    have hR1 := hR0.mind hf (Or.inl rfl)
    refine zaload_n dX9_two_68 rfl ?_
    refine ziload_n dX9_two_69 rfl ?_
    refine ziload_n dX9_two_70 rfl ?_
    refine ziload dX9_two_71 rfl ?_
    refine ziload_n dX9_two_73 rfl ?_
    refine ziload dX9_two_74 rfl ?_
    refine ziload_n dX9_two_76 rfl ?_
    refine zcVr ob_Mo gk_X9_192 dX9_two_77 (c_X9_worthBoth (p := i) (ub := false) (vb := true) hR1.1 hW.1 (by decide) (by decide) (by omega) hi hj (by omega)) rfl (by decide) (Nat.le_of_ble_eq_true rfl) (fun r S2 hp => ?_) rfl
    obtain ⟨rfl, hf⟩ := hp
    have hR2 := hR1.mind hf (Or.inl rfl)
    refine zicmp_gt (tgt := 121) dX9_two_80 (by decide) (fun _ => ?_) (fun h => absurd (Int32.not_le.mp g1) h)
    refine ziinc dX9_two_121 rfl rfl (by decide) rfl ?_
    refine zgoto (tgt := 36) dX9_two_124 (by decide) ?_
    refine zlvs (lv' := [(0, .ref (zad x 0)), (1, .int (nI i)), (2, .int (nI j)), (3, .int (nI l)), (5, .int (nI 2))]) ⟨rfl, rfl, rfl, rfl, rfl, trivial⟩ ?_
    exact hn S2 hR2 (decide_eq_false (fun z => absurd z.1 g1))
set_option maxRecDepth 100000 in
set_option maxHeartbeats 4000000 in
theorem l_X9_two2 (hR0 : RepM σ S) (hW : WS σ) {i j l : Nat} (hi : i < sN σ) (hj : j < sN σ) (hl : l ≤ 24) {post : Option Value → zSt → Prop} (hy : ∀ S', RepM σ S' → twoOk (sN σ) l (sT σ) i j true false = true → post (some (.int 10)) S') (hn : ∀ S', RepM σ S' → twoOk (sN σ) l (sT σ) i j true false = false → zZ x false mX9_two post 36 [(0, .ref (zad x 0)), (1, .int (nI i)), (2, .int (nI j)), (3, .int (nI l)), (5, .int (nI 3))] [] S') : zZ x false mX9_two post 36 [(0, .ref (zad x 0)), (1, .int (nI i)), (2, .int (nI j)), (3, .int (nI l)), (5, .int (nI 2))] [] S := by
  have hn8 : sN σ ≤ 8 := hR0.1.2.1
  by_cases g1 : twoW (sN σ) l (sT σ) i j i false false ≤ twoW (sN σ) l (sT σ) i j i true false
  · by_cases g2 : twoW (sN σ) l (sT σ) i j j true true ≤ twoW (sN σ) l (sT σ) i j j true false
    · refine ziload dX9_two_36 rfl ?_
      refine ziconst (v := 4) dX9_two_38 (by decide) ?_
      refine zicmp_ge (tgt := 127) dX9_two_39 (by decide) (fun h => absurd h (nI_ge (b := 4) (by decide) (by decide))) (fun _ => ?_)
      refine ziload dX9_two_42 rfl ?_
      refine ziconst (v := 2) dX9_two_44 (by decide) ?_
      refine zidiv dX9_two_45 (by decide) ?_
      refine zistore dX9_two_46 (by decide) rfl ?_
      refine ziload dX9_two_48 rfl ?_
      refine ziconst (v := 2) dX9_two_50 (by decide) ?_
      refine zirem dX9_two_51 (by decide) ?_
      refine zistore dX9_two_52 (by decide) rfl ?_
      refine zaload_n dX9_two_54 rfl ?_
      refine ziload_n dX9_two_55 rfl ?_
      refine ziload_n dX9_two_56 rfl ?_
      refine ziconst (v := 1) dX9_two_57 (by decide) ?_
      refine ziload dX9_two_58 rfl ?_
      refine zisub dX9_two_60 ?_
      refine ziload_n dX9_two_61 rfl ?_
      refine ziload dX9_two_62 rfl ?_
      refine ziload_n dX9_two_64 rfl ?_
      refine zcVr ob_Mo gk_X9_192 dX9_two_65 (c_X9_worthBoth (p := i) (ub := false) (vb := false) hR0.1 hW.1 (by decide) (by decide) (by omega) hi hj (by omega)) rfl (by decide) (Nat.le_of_ble_eq_true rfl) (fun r S1 hp => ?_) rfl
      obtain ⟨rfl, hf⟩ := hp
      have hR1 := hR0.mind hf (Or.inl rfl)
      refine zaload_n dX9_two_68 rfl ?_
      refine ziload_n dX9_two_69 rfl ?_
      refine ziload_n dX9_two_70 rfl ?_
      refine ziload dX9_two_71 rfl ?_
      refine ziload_n dX9_two_73 rfl ?_
      refine ziload dX9_two_74 rfl ?_
      refine ziload_n dX9_two_76 rfl ?_
      refine zcVr ob_Mo gk_X9_192 dX9_two_77 (c_X9_worthBoth (p := i) (ub := true) (vb := false) hR1.1 hW.1 (by decide) (by decide) (by omega) hi hj (by omega)) rfl (by decide) (Nat.le_of_ble_eq_true rfl) (fun r S2 hp => ?_) rfl
      obtain ⟨rfl, hf⟩ := hp
      have hR2 := hR1.mind hf (Or.inl rfl)
      refine zicmp_gt (tgt := 121) dX9_two_80 (by decide) (fun h => absurd h (Int32.not_lt.mpr g1)) (fun _ => ?_)
      refine zaload_n dX9_two_83 rfl ?_
      refine ziload_n dX9_two_84 rfl ?_
      refine ziload_n dX9_two_85 rfl ?_
      refine ziload dX9_two_86 rfl ?_
      refine ziload_n dX9_two_88 rfl ?_
      refine ziconst (v := 1) dX9_two_89 (by decide) ?_
      refine ziload dX9_two_90 rfl ?_
      refine zisub dX9_two_92 ?_
      refine ziload_n dX9_two_93 rfl ?_
      refine zcVr ob_Mo gk_X9_192 dX9_two_94 (c_X9_worthBoth (p := j) (ub := true) (vb := true) hR2.1 hW.1 (by decide) (by decide) (by omega) hi hj (by omega)) rfl (by decide) (Nat.le_of_ble_eq_true rfl) (fun r S3 hp => ?_) rfl
      obtain ⟨rfl, hf⟩ := hp
      have hR3 := hR2.mind hf (Or.inl rfl)
      refine zaload_n dX9_two_97 rfl ?_
      refine ziload_n dX9_two_98 rfl ?_
      refine ziload_n dX9_two_99 rfl ?_
      refine ziload dX9_two_100 rfl ?_
      refine ziload_n dX9_two_102 rfl ?_
      refine ziload dX9_two_103 rfl ?_
      refine ziload_n dX9_two_105 rfl ?_
      refine zcVr ob_Mo gk_X9_192 dX9_two_106 (c_X9_worthBoth (p := j) (ub := true) (vb := false) hR3.1 hW.1 (by decide) (by decide) (by omega) hi hj (by omega)) rfl (by decide) (Nat.le_of_ble_eq_true rfl) (fun r S4 hp => ?_) rfl
      obtain ⟨rfl, hf⟩ := hp
      have hR4 := hR3.mind hf (Or.inl rfl)
      refine zicmp_gt (tgt := 121) dX9_two_109 (by decide) (fun h => absurd h (Int32.not_lt.mpr g2)) (fun _ => ?_)
      refine zbipush (v := 10) dX9_two_112 (by decide) ?_
      refine ziload dX9_two_114 rfl ?_
      refine zimul dX9_two_116 ?_
      refine ziload dX9_two_117 rfl ?_
      refine ziadd dX9_two_119 ?_
      exact zireturn dX9_two_120 rfl rfl (by rw [show (10 : Int32) * (nI 2 / 2) + (nI 2 - nI 2 / 2 * 2) = 10 from by decide]; exact hy S4 hR4 (decide_eq_true ⟨g1, g2⟩))
    · refine ziload dX9_two_36 rfl ?_
      refine ziconst (v := 4) dX9_two_38 (by decide) ?_
      refine zicmp_ge (tgt := 127) dX9_two_39 (by decide) (fun h => absurd h (nI_ge (b := 4) (by decide) (by decide))) (fun _ => ?_)
      refine ziload dX9_two_42 rfl ?_
      refine ziconst (v := 2) dX9_two_44 (by decide) ?_
      refine zidiv dX9_two_45 (by decide) ?_
      refine zistore dX9_two_46 (by decide) rfl ?_
      refine ziload dX9_two_48 rfl ?_
      refine ziconst (v := 2) dX9_two_50 (by decide) ?_
      refine zirem dX9_two_51 (by decide) ?_
      refine zistore dX9_two_52 (by decide) rfl ?_
      refine zaload_n dX9_two_54 rfl ?_
      refine ziload_n dX9_two_55 rfl ?_
      refine ziload_n dX9_two_56 rfl ?_
      refine ziconst (v := 1) dX9_two_57 (by decide) ?_
      refine ziload dX9_two_58 rfl ?_
      refine zisub dX9_two_60 ?_
      refine ziload_n dX9_two_61 rfl ?_
      refine ziload dX9_two_62 rfl ?_
      refine ziload_n dX9_two_64 rfl ?_
      refine zcVr ob_Mo gk_X9_192 dX9_two_65 (c_X9_worthBoth (p := i) (ub := false) (vb := false) hR0.1 hW.1 (by decide) (by decide) (by omega) hi hj (by omega)) rfl (by decide) (Nat.le_of_ble_eq_true rfl) (fun r S1 hp => ?_) rfl
      obtain ⟨rfl, hf⟩ := hp
      have hR1 := hR0.mind hf (Or.inl rfl)
      refine zaload_n dX9_two_68 rfl ?_
      refine ziload_n dX9_two_69 rfl ?_
      refine ziload_n dX9_two_70 rfl ?_
      refine ziload dX9_two_71 rfl ?_
      refine ziload_n dX9_two_73 rfl ?_
      refine ziload dX9_two_74 rfl ?_
      refine ziload_n dX9_two_76 rfl ?_
      refine zcVr ob_Mo gk_X9_192 dX9_two_77 (c_X9_worthBoth (p := i) (ub := true) (vb := false) hR1.1 hW.1 (by decide) (by decide) (by omega) hi hj (by omega)) rfl (by decide) (Nat.le_of_ble_eq_true rfl) (fun r S2 hp => ?_) rfl
      obtain ⟨rfl, hf⟩ := hp
      have hR2 := hR1.mind hf (Or.inl rfl)
      refine zicmp_gt (tgt := 121) dX9_two_80 (by decide) (fun h => absurd h (Int32.not_lt.mpr g1)) (fun _ => ?_)
      refine zaload_n dX9_two_83 rfl ?_
      refine ziload_n dX9_two_84 rfl ?_
      refine ziload_n dX9_two_85 rfl ?_
      refine ziload dX9_two_86 rfl ?_
      refine ziload_n dX9_two_88 rfl ?_
      refine ziconst (v := 1) dX9_two_89 (by decide) ?_
      refine ziload dX9_two_90 rfl ?_
      refine zisub dX9_two_92 ?_
      refine ziload_n dX9_two_93 rfl ?_
      refine zcVr ob_Mo gk_X9_192 dX9_two_94 (c_X9_worthBoth (p := j) (ub := true) (vb := true) hR2.1 hW.1 (by decide) (by decide) (by omega) hi hj (by omega)) rfl (by decide) (Nat.le_of_ble_eq_true rfl) (fun r S3 hp => ?_) rfl
      obtain ⟨rfl, hf⟩ := hp
      have hR3 := hR2.mind hf (Or.inl rfl)
      refine zaload_n dX9_two_97 rfl ?_
      refine ziload_n dX9_two_98 rfl ?_
      refine ziload_n dX9_two_99 rfl ?_
      refine ziload dX9_two_100 rfl ?_
      refine ziload_n dX9_two_102 rfl ?_
      refine ziload dX9_two_103 rfl ?_
      refine ziload_n dX9_two_105 rfl ?_
      refine zcVr ob_Mo gk_X9_192 dX9_two_106 (c_X9_worthBoth (p := j) (ub := true) (vb := false) hR3.1 hW.1 (by decide) (by decide) (by omega) hi hj (by omega)) rfl (by decide) (Nat.le_of_ble_eq_true rfl) (fun r S4 hp => ?_) rfl
      obtain ⟨rfl, hf⟩ := hp
      have hR4 := hR3.mind hf (Or.inl rfl)
      refine zicmp_gt (tgt := 121) dX9_two_109 (by decide) (fun _ => ?_) (fun h => absurd (Int32.not_le.mp g2) h)
      refine ziinc dX9_two_121 rfl rfl (by decide) rfl ?_
      refine zgoto (tgt := 36) dX9_two_124 (by decide) ?_
      refine zlvs (lv' := [(0, .ref (zad x 0)), (1, .int (nI i)), (2, .int (nI j)), (3, .int (nI l)), (5, .int (nI 3))]) ⟨rfl, rfl, rfl, rfl, rfl, trivial⟩ ?_
      exact hn S4 hR4 (decide_eq_false (fun z => absurd z.2 g2))
  · refine ziload dX9_two_36 rfl ?_
    refine ziconst (v := 4) dX9_two_38 (by decide) ?_
    refine zicmp_ge (tgt := 127) dX9_two_39 (by decide) (fun h => absurd h (nI_ge (b := 4) (by decide) (by decide))) (fun _ => ?_)
    refine ziload dX9_two_42 rfl ?_
    refine ziconst (v := 2) dX9_two_44 (by decide) ?_
    refine zidiv dX9_two_45 (by decide) ?_
    refine zistore dX9_two_46 (by decide) rfl ?_
    refine ziload dX9_two_48 rfl ?_
    refine ziconst (v := 2) dX9_two_50 (by decide) ?_
    refine zirem dX9_two_51 (by decide) ?_
    refine zistore dX9_two_52 (by decide) rfl ?_
    refine zaload_n dX9_two_54 rfl ?_
    refine ziload_n dX9_two_55 rfl ?_
    refine ziload_n dX9_two_56 rfl ?_
    refine ziconst (v := 1) dX9_two_57 (by decide) ?_
    refine ziload dX9_two_58 rfl ?_
    refine zisub dX9_two_60 ?_
    refine ziload_n dX9_two_61 rfl ?_
    refine ziload dX9_two_62 rfl ?_
    refine ziload_n dX9_two_64 rfl ?_
    refine zcVr ob_Mo gk_X9_192 dX9_two_65 (c_X9_worthBoth (p := i) (ub := false) (vb := false) hR0.1 hW.1 (by decide) (by decide) (by omega) hi hj (by omega)) rfl (by decide) (Nat.le_of_ble_eq_true rfl) (fun r S1 hp => ?_) rfl
    obtain ⟨rfl, hf⟩ := hp
    have hR1 := hR0.mind hf (Or.inl rfl)
    refine zaload_n dX9_two_68 rfl ?_
    refine ziload_n dX9_two_69 rfl ?_
    refine ziload_n dX9_two_70 rfl ?_
    refine ziload dX9_two_71 rfl ?_
    refine ziload_n dX9_two_73 rfl ?_
    refine ziload dX9_two_74 rfl ?_
    refine ziload_n dX9_two_76 rfl ?_
    refine zcVr ob_Mo gk_X9_192 dX9_two_77 (c_X9_worthBoth (p := i) (ub := true) (vb := false) hR1.1 hW.1 (by decide) (by decide) (by omega) hi hj (by omega)) rfl (by decide) (Nat.le_of_ble_eq_true rfl) (fun r S2 hp => ?_) rfl
    obtain ⟨rfl, hf⟩ := hp
    have hR2 := hR1.mind hf (Or.inl rfl)
    refine zicmp_gt (tgt := 121) dX9_two_80 (by decide) (fun _ => ?_) (fun h => absurd (Int32.not_le.mp g1) h)
    refine ziinc dX9_two_121 rfl rfl (by decide) rfl ?_
    refine zgoto (tgt := 36) dX9_two_124 (by decide) ?_
    refine zlvs (lv' := [(0, .ref (zad x 0)), (1, .int (nI i)), (2, .int (nI j)), (3, .int (nI l)), (5, .int (nI 3))]) ⟨rfl, rfl, rfl, rfl, rfl, trivial⟩ ?_
    exact hn S2 hR2 (decide_eq_false (fun z => absurd z.1 g1))
set_option maxRecDepth 100000 in
set_option maxHeartbeats 4000000 in
theorem l_X9_two3 (hR0 : RepM σ S) (hW : WS σ) {i j l : Nat} (hi : i < sN σ) (hj : j < sN σ) (hl : l ≤ 24) {post : Option Value → zSt → Prop} (hy : ∀ S', RepM σ S' → twoOk (sN σ) l (sT σ) i j true true = true → post (some (.int 11)) S') (hn : ∀ S', RepM σ S' → twoOk (sN σ) l (sT σ) i j true true = false → zZ x false mX9_two post 36 [(0, .ref (zad x 0)), (1, .int (nI i)), (2, .int (nI j)), (3, .int (nI l)), (5, .int (nI 4))] [] S') : zZ x false mX9_two post 36 [(0, .ref (zad x 0)), (1, .int (nI i)), (2, .int (nI j)), (3, .int (nI l)), (5, .int (nI 3))] [] S := by
  have hn8 : sN σ ≤ 8 := hR0.1.2.1
  by_cases g1 : twoW (sN σ) l (sT σ) i j i false true ≤ twoW (sN σ) l (sT σ) i j i true true
  · by_cases g2 : twoW (sN σ) l (sT σ) i j j true false ≤ twoW (sN σ) l (sT σ) i j j true true
    · refine ziload dX9_two_36 rfl ?_
      refine ziconst (v := 4) dX9_two_38 (by decide) ?_
      refine zicmp_ge (tgt := 127) dX9_two_39 (by decide) (fun h => absurd h (nI_ge (b := 4) (by decide) (by decide))) (fun _ => ?_)
      refine ziload dX9_two_42 rfl ?_
      refine ziconst (v := 2) dX9_two_44 (by decide) ?_
      refine zidiv dX9_two_45 (by decide) ?_
      refine zistore dX9_two_46 (by decide) rfl ?_
      refine ziload dX9_two_48 rfl ?_
      refine ziconst (v := 2) dX9_two_50 (by decide) ?_
      refine zirem dX9_two_51 (by decide) ?_
      refine zistore dX9_two_52 (by decide) rfl ?_
      refine zaload_n dX9_two_54 rfl ?_
      refine ziload_n dX9_two_55 rfl ?_
      refine ziload_n dX9_two_56 rfl ?_
      refine ziconst (v := 1) dX9_two_57 (by decide) ?_
      refine ziload dX9_two_58 rfl ?_
      refine zisub dX9_two_60 ?_
      refine ziload_n dX9_two_61 rfl ?_
      refine ziload dX9_two_62 rfl ?_
      refine ziload_n dX9_two_64 rfl ?_
      refine zcVr ob_Mo gk_X9_192 dX9_two_65 (c_X9_worthBoth (p := i) (ub := false) (vb := true) hR0.1 hW.1 (by decide) (by decide) (by omega) hi hj (by omega)) rfl (by decide) (Nat.le_of_ble_eq_true rfl) (fun r S1 hp => ?_) rfl
      obtain ⟨rfl, hf⟩ := hp
      have hR1 := hR0.mind hf (Or.inl rfl)
      refine zaload_n dX9_two_68 rfl ?_
      refine ziload_n dX9_two_69 rfl ?_
      refine ziload_n dX9_two_70 rfl ?_
      refine ziload dX9_two_71 rfl ?_
      refine ziload_n dX9_two_73 rfl ?_
      refine ziload dX9_two_74 rfl ?_
      refine ziload_n dX9_two_76 rfl ?_
      refine zcVr ob_Mo gk_X9_192 dX9_two_77 (c_X9_worthBoth (p := i) (ub := true) (vb := true) hR1.1 hW.1 (by decide) (by decide) (by omega) hi hj (by omega)) rfl (by decide) (Nat.le_of_ble_eq_true rfl) (fun r S2 hp => ?_) rfl
      obtain ⟨rfl, hf⟩ := hp
      have hR2 := hR1.mind hf (Or.inl rfl)
      refine zicmp_gt (tgt := 121) dX9_two_80 (by decide) (fun h => absurd h (Int32.not_lt.mpr g1)) (fun _ => ?_)
      refine zaload_n dX9_two_83 rfl ?_
      refine ziload_n dX9_two_84 rfl ?_
      refine ziload_n dX9_two_85 rfl ?_
      refine ziload dX9_two_86 rfl ?_
      refine ziload_n dX9_two_88 rfl ?_
      refine ziconst (v := 1) dX9_two_89 (by decide) ?_
      refine ziload dX9_two_90 rfl ?_
      refine zisub dX9_two_92 ?_
      refine ziload_n dX9_two_93 rfl ?_
      refine zcVr ob_Mo gk_X9_192 dX9_two_94 (c_X9_worthBoth (p := j) (ub := true) (vb := false) hR2.1 hW.1 (by decide) (by decide) (by omega) hi hj (by omega)) rfl (by decide) (Nat.le_of_ble_eq_true rfl) (fun r S3 hp => ?_) rfl
      obtain ⟨rfl, hf⟩ := hp
      have hR3 := hR2.mind hf (Or.inl rfl)
      refine zaload_n dX9_two_97 rfl ?_
      refine ziload_n dX9_two_98 rfl ?_
      refine ziload_n dX9_two_99 rfl ?_
      refine ziload dX9_two_100 rfl ?_
      refine ziload_n dX9_two_102 rfl ?_
      refine ziload dX9_two_103 rfl ?_
      refine ziload_n dX9_two_105 rfl ?_
      refine zcVr ob_Mo gk_X9_192 dX9_two_106 (c_X9_worthBoth (p := j) (ub := true) (vb := true) hR3.1 hW.1 (by decide) (by decide) (by omega) hi hj (by omega)) rfl (by decide) (Nat.le_of_ble_eq_true rfl) (fun r S4 hp => ?_) rfl
      obtain ⟨rfl, hf⟩ := hp
      have hR4 := hR3.mind hf (Or.inl rfl)
      refine zicmp_gt (tgt := 121) dX9_two_109 (by decide) (fun h => absurd h (Int32.not_lt.mpr g2)) (fun _ => ?_)
      refine zbipush (v := 10) dX9_two_112 (by decide) ?_
      refine ziload dX9_two_114 rfl ?_
      refine zimul dX9_two_116 ?_
      refine ziload dX9_two_117 rfl ?_
      refine ziadd dX9_two_119 ?_
      exact zireturn dX9_two_120 rfl rfl (by rw [show (10 : Int32) * (nI 3 / 2) + (nI 3 - nI 3 / 2 * 2) = 11 from by decide]; exact hy S4 hR4 (decide_eq_true ⟨g1, g2⟩))
    · refine ziload dX9_two_36 rfl ?_
      refine ziconst (v := 4) dX9_two_38 (by decide) ?_
      refine zicmp_ge (tgt := 127) dX9_two_39 (by decide) (fun h => absurd h (nI_ge (b := 4) (by decide) (by decide))) (fun _ => ?_)
      refine ziload dX9_two_42 rfl ?_
      refine ziconst (v := 2) dX9_two_44 (by decide) ?_
      refine zidiv dX9_two_45 (by decide) ?_
      refine zistore dX9_two_46 (by decide) rfl ?_
      refine ziload dX9_two_48 rfl ?_
      refine ziconst (v := 2) dX9_two_50 (by decide) ?_
      refine zirem dX9_two_51 (by decide) ?_
      refine zistore dX9_two_52 (by decide) rfl ?_
      refine zaload_n dX9_two_54 rfl ?_
      refine ziload_n dX9_two_55 rfl ?_
      refine ziload_n dX9_two_56 rfl ?_
      refine ziconst (v := 1) dX9_two_57 (by decide) ?_
      refine ziload dX9_two_58 rfl ?_
      refine zisub dX9_two_60 ?_
      refine ziload_n dX9_two_61 rfl ?_
      refine ziload dX9_two_62 rfl ?_
      refine ziload_n dX9_two_64 rfl ?_
      refine zcVr ob_Mo gk_X9_192 dX9_two_65 (c_X9_worthBoth (p := i) (ub := false) (vb := true) hR0.1 hW.1 (by decide) (by decide) (by omega) hi hj (by omega)) rfl (by decide) (Nat.le_of_ble_eq_true rfl) (fun r S1 hp => ?_) rfl
      obtain ⟨rfl, hf⟩ := hp
      have hR1 := hR0.mind hf (Or.inl rfl)
      refine zaload_n dX9_two_68 rfl ?_
      refine ziload_n dX9_two_69 rfl ?_
      refine ziload_n dX9_two_70 rfl ?_
      refine ziload dX9_two_71 rfl ?_
      refine ziload_n dX9_two_73 rfl ?_
      refine ziload dX9_two_74 rfl ?_
      refine ziload_n dX9_two_76 rfl ?_
      refine zcVr ob_Mo gk_X9_192 dX9_two_77 (c_X9_worthBoth (p := i) (ub := true) (vb := true) hR1.1 hW.1 (by decide) (by decide) (by omega) hi hj (by omega)) rfl (by decide) (Nat.le_of_ble_eq_true rfl) (fun r S2 hp => ?_) rfl
      obtain ⟨rfl, hf⟩ := hp
      have hR2 := hR1.mind hf (Or.inl rfl)
      refine zicmp_gt (tgt := 121) dX9_two_80 (by decide) (fun h => absurd h (Int32.not_lt.mpr g1)) (fun _ => ?_)
      refine zaload_n dX9_two_83 rfl ?_
      refine ziload_n dX9_two_84 rfl ?_
      refine ziload_n dX9_two_85 rfl ?_
      refine ziload dX9_two_86 rfl ?_
      refine ziload_n dX9_two_88 rfl ?_
      refine ziconst (v := 1) dX9_two_89 (by decide) ?_
      refine ziload dX9_two_90 rfl ?_
      refine zisub dX9_two_92 ?_
      refine ziload_n dX9_two_93 rfl ?_
      refine zcVr ob_Mo gk_X9_192 dX9_two_94 (c_X9_worthBoth (p := j) (ub := true) (vb := false) hR2.1 hW.1 (by decide) (by decide) (by omega) hi hj (by omega)) rfl (by decide) (Nat.le_of_ble_eq_true rfl) (fun r S3 hp => ?_) rfl
      obtain ⟨rfl, hf⟩ := hp
      have hR3 := hR2.mind hf (Or.inl rfl)
      refine zaload_n dX9_two_97 rfl ?_
      refine ziload_n dX9_two_98 rfl ?_
      refine ziload_n dX9_two_99 rfl ?_
      refine ziload dX9_two_100 rfl ?_
      refine ziload_n dX9_two_102 rfl ?_
      refine ziload dX9_two_103 rfl ?_
      refine ziload_n dX9_two_105 rfl ?_
      refine zcVr ob_Mo gk_X9_192 dX9_two_106 (c_X9_worthBoth (p := j) (ub := true) (vb := true) hR3.1 hW.1 (by decide) (by decide) (by omega) hi hj (by omega)) rfl (by decide) (Nat.le_of_ble_eq_true rfl) (fun r S4 hp => ?_) rfl
      obtain ⟨rfl, hf⟩ := hp
      have hR4 := hR3.mind hf (Or.inl rfl)
      refine zicmp_gt (tgt := 121) dX9_two_109 (by decide) (fun _ => ?_) (fun h => absurd (Int32.not_le.mp g2) h)
      refine ziinc dX9_two_121 rfl rfl (by decide) rfl ?_
      refine zgoto (tgt := 36) dX9_two_124 (by decide) ?_
      refine zlvs (lv' := [(0, .ref (zad x 0)), (1, .int (nI i)), (2, .int (nI j)), (3, .int (nI l)), (5, .int (nI 4))]) ⟨rfl, rfl, rfl, rfl, rfl, trivial⟩ ?_
      exact hn S4 hR4 (decide_eq_false (fun z => absurd z.2 g2))
  · refine ziload dX9_two_36 rfl ?_
    refine ziconst (v := 4) dX9_two_38 (by decide) ?_
    refine zicmp_ge (tgt := 127) dX9_two_39 (by decide) (fun h => absurd h (nI_ge (b := 4) (by decide) (by decide))) (fun _ => ?_)
    refine ziload dX9_two_42 rfl ?_
    refine ziconst (v := 2) dX9_two_44 (by decide) ?_
    refine zidiv dX9_two_45 (by decide) ?_
    refine zistore dX9_two_46 (by decide) rfl ?_
    refine ziload dX9_two_48 rfl ?_
    refine ziconst (v := 2) dX9_two_50 (by decide) ?_
    refine zirem dX9_two_51 (by decide) ?_
    refine zistore dX9_two_52 (by decide) rfl ?_
    refine zaload_n dX9_two_54 rfl ?_
    refine ziload_n dX9_two_55 rfl ?_
    refine ziload_n dX9_two_56 rfl ?_
    refine ziconst (v := 1) dX9_two_57 (by decide) ?_
    refine ziload dX9_two_58 rfl ?_
    refine zisub dX9_two_60 ?_
    refine ziload_n dX9_two_61 rfl ?_
    refine ziload dX9_two_62 rfl ?_
    refine ziload_n dX9_two_64 rfl ?_
    refine zcVr ob_Mo gk_X9_192 dX9_two_65 (c_X9_worthBoth (p := i) (ub := false) (vb := true) hR0.1 hW.1 (by decide) (by decide) (by omega) hi hj (by omega)) rfl (by decide) (Nat.le_of_ble_eq_true rfl) (fun r S1 hp => ?_) rfl
    obtain ⟨rfl, hf⟩ := hp
    have hR1 := hR0.mind hf (Or.inl rfl)
    refine zaload_n dX9_two_68 rfl ?_
    refine ziload_n dX9_two_69 rfl ?_
    refine ziload_n dX9_two_70 rfl ?_
    refine ziload dX9_two_71 rfl ?_
    refine ziload_n dX9_two_73 rfl ?_
    refine ziload dX9_two_74 rfl ?_
    refine ziload_n dX9_two_76 rfl ?_
    refine zcVr ob_Mo gk_X9_192 dX9_two_77 (c_X9_worthBoth (p := i) (ub := true) (vb := true) hR1.1 hW.1 (by decide) (by decide) (by omega) hi hj (by omega)) rfl (by decide) (Nat.le_of_ble_eq_true rfl) (fun r S2 hp => ?_) rfl
    obtain ⟨rfl, hf⟩ := hp
    have hR2 := hR1.mind hf (Or.inl rfl)
    refine zicmp_gt (tgt := 121) dX9_two_80 (by decide) (fun _ => ?_) (fun h => absurd (Int32.not_le.mp g1) h)
    refine ziinc dX9_two_121 rfl rfl (by decide) rfl ?_
    refine zgoto (tgt := 36) dX9_two_124 (by decide) ?_
    refine zlvs (lv' := [(0, .ref (zad x 0)), (1, .int (nI i)), (2, .int (nI j)), (3, .int (nI l)), (5, .int (nI 4))]) ⟨rfl, rfl, rfl, rfl, rfl, trivial⟩ ?_
    exact hn S2 hR2 (decide_eq_false (fun z => absurd z.1 g1))
set_option maxRecDepth 100000 in
set_option maxHeartbeats 4000000 in
theorem c_X9_two (hR : RepM σ S) (hW : WS σ) (a b k : Int32) : zR x false mX9_two [.ref (zad x 0), .int a, .int b, .int k] S (qM (fO (twF (sN σ) a b) (rgF k 0 24)) (twoA (sN σ) k.toNatClampNeg (sT σ) a.toNatClampNeg b.toNatClampNeg) σ (σ)) := by
  have hM := hR.1
  have hn8 : sN σ ≤ 8 := hM.2.1
  refine zC_of (by decide +kernel) (Nat.le_of_ble_eq_true rfl) ?_
  by_cases he : fO (twF (sN σ) a b) (rgF k 0 24) = 0
  · obtain ⟨h1, h2⟩ := fO_0 he
    have h1t := h1
    obtain ⟨i, j, hi, hj, hij, rfl, rfl⟩ := twF_of (by omega) h1
    obtain ⟨l, hl1, hl2, rfl⟩ := rgF_of (a := 0) (c := 24) (by decide) (by decide) h2
    refine zaload_n dX9_two_0 rfl ?_
    refine ziload_n dX9_two_1 rfl ?_
    refine ziload_n dX9_two_2 rfl ?_
    refine zcVf ob_Mo gk_X9_115 dX9_two_3 (c_X9_areTwo hM) rfl (by decide) (Nat.le_of_ble_eq_true rfl) ?_ rfl
    refine zifb_eq (tgt := 18) dX9_two_6 (by decide) (fun h => absurd (h.symm.trans (decide_eq_true h1t)) (by decide)) (fun _ => ?_)
    refine ziload_n dX9_two_9 rfl ?_
    refine zbipush (v := 24) dX9_two_10 (by decide) ?_
    refine zcSf  gk_X9_150 dX9_two_12 c_wrongBy rfl (by decide) (Nat.le_of_ble_eq_true rfl) ?_ rfl
    refine zgoto (tgt := 19) dX9_two_15 (by decide) ?_
    refine zistore dX9_two_19 (by decide) rfl ?_
    refine ziload dX9_two_21 rfl ?_
    refine zif_eq (tgt := 33) dX9_two_23 (by decide) (fun _ => ?_) (fun h => absurd h2 h)
    refine ziconst (v := 0) dX9_two_33 (by decide) ?_
    refine zistore dX9_two_34 (by decide) rfl ?_
    refine zlvs (lv' := [(0, .ref (zad x 0)), (1, .int (nI i)), (2, .int (nI j)), (3, .int (nI l)), (5, .int (nI 0))]) ⟨rfl, rfl, rfl, rfl, rfl, trivial⟩ ?_
    refine l_X9_two0 hR hW hi hj (by omega) (fun S9 hR9 z0 => ⟨_, rfl, qM_ok he (by rw [nI_clamp (n := i) (by omega), nI_clamp (n := j) (by omega), nI_clamp (n := l) (by omega)]; unfold twoA; simp [z0]) hR9⟩) (fun S0 hR0 z0 => ?_)
    refine l_X9_two1 hR0 hW hi hj (by omega) (fun S9 hR9 z1 => ⟨_, rfl, qM_ok he (by rw [nI_clamp (n := i) (by omega), nI_clamp (n := j) (by omega), nI_clamp (n := l) (by omega)]; unfold twoA; simp [z0, z1]) hR9⟩) (fun S1 hR1 z1 => ?_)
    refine l_X9_two2 hR1 hW hi hj (by omega) (fun S9 hR9 z2 => ⟨_, rfl, qM_ok he (by rw [nI_clamp (n := i) (by omega), nI_clamp (n := j) (by omega), nI_clamp (n := l) (by omega)]; unfold twoA; simp [z0, z1, z2]) hR9⟩) (fun S2 hR2 z2 => ?_)
    refine l_X9_two3 hR2 hW hi hj (by omega) (fun S9 hR9 z3 => ⟨_, rfl, qM_ok he (by rw [nI_clamp (n := i) (by omega), nI_clamp (n := j) (by omega), nI_clamp (n := l) (by omega)]; unfold twoA; simp [z0, z1, z2, z3]) hR9⟩) (fun S9 hR9 z3 => ?_)
    refine ziload dX9_two_36 rfl ?_
    refine ziconst (v := 4) dX9_two_38 (by decide) ?_
    refine zicmp_ge (tgt := 127) dX9_two_39 (by decide) (fun _ => ?_) (fun h => absurd (nI_le (a := 4) (by decide) (by decide)) h)
    refine zbipush (v := -9) dX9_two_127 (by decide) ?_
    exact zireturn dX9_two_129 rfl rfl ⟨_, rfl, qM_ok he (by rw [nI_clamp (n := i) (by omega), nI_clamp (n := j) (by omega), nI_clamp (n := l) (by omega)]; unfold twoA; simp [z0, z1, z2, z3]) hR9⟩
  · refine zaload_n dX9_two_0 rfl ?_
    refine ziload_n dX9_two_1 rfl ?_
    refine ziload_n dX9_two_2 rfl ?_
    refine zcVf ob_Mo gk_X9_115 dX9_two_3 (c_X9_areTwo hM) rfl (by decide) (Nat.le_of_ble_eq_true rfl) ?_ rfl
    refine zifb_eq (tgt := 18) dX9_two_6 (by decide) (fun h6 => ?_) (fun h6 => ?_)
    · refine ziconst (v := -1) dX9_two_18 (by decide) ?_
      refine zistore dX9_two_19 (by decide) rfl ?_
      refine ziload dX9_two_21 rfl ?_
      refine zif_eq (tgt := 33) dX9_two_23 (by decide) (fun h => absurd h (isE.ne isE_1)) (fun _ => ?_)
      refine zaload_n dX9_two_26 rfl ?_
      refine ziload dX9_two_27 rfl ?_
      refine zcVf ob_Mo gk_X9_38 dX9_two_29 (c_X9_no isE_1) rfl (by decide) (Nat.le_of_ble_eq_true rfl) ?_ rfl
      exact zireturn dX9_two_32 rfl rfl ⟨_, rfl, qM_no (by rw [twF_1 (of_decide_eq_false h6), fO_1]) isE_1 hR⟩
    · refine ziload_n dX9_two_9 rfl ?_
      refine zbipush (v := 24) dX9_two_10 (by decide) ?_
      refine zcSf  gk_X9_150 dX9_two_12 c_wrongBy rfl (by decide) (Nat.le_of_ble_eq_true rfl) ?_ rfl
      refine zgoto (tgt := 19) dX9_two_15 (by decide) ?_
      refine zistore dX9_two_19 (by decide) rfl ?_
      refine ziload dX9_two_21 rfl ?_
      refine zif_eq (tgt := 33) dX9_two_23 (by decide) (fun h => absurd h (isE.ne (okE.e (okE_rgF k 0 24) (fun z => he (by rw [of_decide_eq_true h6, z]; rfl))))) (fun _ => ?_)
      refine zaload_n dX9_two_26 rfl ?_
      refine ziload dX9_two_27 rfl ?_
      refine zcVf ob_Mo gk_X9_38 dX9_two_29 (c_X9_no (okE.e (okE_rgF k 0 24) (fun z => he (by rw [of_decide_eq_true h6, z]; rfl)))) rfl (by decide) (Nat.le_of_ble_eq_true rfl) ?_ rfl
      exact zireturn dX9_two_32 rfl rfl ⟨_, rfl, qM_no (by rw [of_decide_eq_true h6]; rfl) (okE.e (okE_rgF k 0 24) (fun z => he (by rw [of_decide_eq_true h6, z]; rfl))) hR⟩
end PUB10
