def R_law : String := "EachLendsHisFaceLaw"
def lw_P (b : Addr) (xs : List Int32) (args : Array Value) (s : State) : Prop := args = #[.ref b] ∧ s.IntsAt b xs ∧ xs.length ≤ 3072 ∧ (Jvm.Cond.and given_1 narrow_1).before args s = true
def lw_Q (_ : Array Value) (s : State) (o : Outcome) (t : State) : Prop := o = .returned (some (.int 1)) ∧ Framed s o t [] 49 777
def lw_Z (below : List Frame) (a : Array Value) (s : State) : State → Prop := fun t => ∃ o, t.status = .running ∧ Ended t below o ∧ lw_Q a s o t
/-- the law's own end, with 1 on the stack, nothing written that was there before, its room as the claim has it -/
theorem lw_ret {p : Program} {l : Launch} {e : Env} {s : State} {m : MethodId} {below : List Frame} {meth : Method} {c : Code} {b : Nat} (hx : p.tables.exec = Jvm.exec) (hb : c.code = code) (hr : meth.sig.returnType = ret) (hlocks : meth.locks = false) {pc : Nat} {H : Heap} {ls : Array Slot} (hdg : decode code pc = .ok (.ireturn, 1)) : W p l e room_1 s m #[Value.ref b] below meth c H [] 49 777 (lw_Z below #[Value.ref b] s) (F0 m pc ls [.int 1]) := by
  intro T hT X
  obtain ⟨fs, hret, hrun, hended, hW, hframe⟩ := X.leave (v := some (.int 1)) (hlocks := hlocks) (fun h => by rw [hr] at h; cases h)
  have hmeth' : T.vm.method? m = some meth := X.method'
  refine ⟨T.setFrames fs, ?_, .returned (some (.int 1)), hrun, hended, rfl, ⟨_, rfl⟩, hW, hframe⟩
  jvm_step X.here [X.here.top, hx, hb, hdg, hmeth', hr, ret, narrow_b1]
  (try refine ⟨rfl, ?_⟩); (try refine ⟨rfl, ?_⟩)
  first | (intro acts; rw [hret _ acts rfl rfl rfl]) | rw [hret _ _ rfl rfl rfl]
  exact Steps.refl _
/-- what holds at the law's entry: the machine, the code, the tables' words (any of lw_tbl by 'hts w (by decide +kernel)'), the script of L ints xs at the cell b, what the Statement gives of the start (any of its parts by flat_of_before) -/
def lw_At (p : Program) (s : State) (m : MethodId) (meth : Method) (c : Code) (b L : Nat) (xs : Nat → Int32) : Prop :=
  p.tables.exec = Jvm.exec ∧ c.code = code ∧ meth.sig.returnType = ret ∧ c.maxLocals = 4 ∧ s.vm.findClass R_law = some m.cls ∧ (∀ w ∈ lw_tbl, w.before #[Value.ref b] s = true) ∧ va_X b L xs s s.heap ∧ b < s.heap.size ∧ meth.locks = false ∧ (Jvm.Cond.and given_1 narrow_1).before #[Value.ref b] s = true

/-! what holds at the law's entry -/
section START
variable {p : Program} {s : State} {m : MethodId} {meth : Method} {c : Code} {b L : Nat} {xs : Nat → Int32}
theorem st_word (C0 : lw_At p s m meth c b L xs) : ∀ w ∈ wsL_law, ∀ a : Array Value, w.before a s = true :=
  fun w hw a => word_at (State.WarmedH.refl s) (zWord hw) (C0.2.2.2.2.2.1 w (lwi_all w hw))
theorem st_nest (C0 : lw_At p s m meth c b L xs) : ∀ w ∈ lw_tbl, zNest w = true → va_Nw w s := by
  intro w hw hn
  have h := C0.2.2.2.2.2.1 w hw
  cases w with
  | fieldLinkNest a i r n d t => exact va_Nw.of rfl h
  | methodLinkNest a i r t => exact va_Nw.of rfl h
  | _ => cases hn
theorem st_known (C0 : lw_At p s m meth c b L xs) : ∃ D : va_G, ∀ (k : Nat) (q : vw_C), vwCl[k]? = some q → u_Kn s q.1 q.2.1 q.2.2 (D.1 k) (D.2 k) := by
  have ht : ∀ w ∈ wsL_law, w.before #[] s = true := fun w hw => st_word C0 w hw #[]
  obtain ⟨c0, i0, h0⟩ := u_known (C := RX0) (T := TX0) (N := 0) (n := 0) ht inlX0 (ht _ (List.mem_of_getElem? (i := 16) (by decide +kernel)))
  obtain ⟨c1, i1, h1⟩ := u_known (C := RX1) (T := TX1) (N := 0) (n := 0) ht inlX1 (ht _ (List.mem_of_getElem? (i := 25) (by decide +kernel)))
  obtain ⟨c2, i2, h2⟩ := u_known (C := RX2) (T := TX2) (N := 0) (n := 0) ht inlX2 (ht _ (List.mem_of_getElem? (i := 28) (by decide +kernel)))
  obtain ⟨c3, i3, h3⟩ := u_known (C := RX3) (T := TX3) (N := 0) (n := 0) ht inlX3 (ht _ (List.mem_of_getElem? (i := 22) (by decide +kernel)))
  obtain ⟨c4, i4, h4⟩ := u_known (C := RX4) (T := TX4) (N := 0) (n := 0) ht inlX4 (ht _ (List.mem_of_getElem? (i := 19) (by decide +kernel)))
  obtain ⟨c5, i5, h5⟩ := u_known (C := RX5) (T := TX5) (N := 0) (n := 0) ht inlX5 (ht _ (List.mem_of_getElem? (i := 13) (by decide +kernel)))
  obtain ⟨c6, i6, h6⟩ := u_known (C := RX6) (T := TX6) (N := 2) (n := 2) ht inlX6 (ht _ (List.mem_of_getElem? (i := 37) (by decide +kernel)))
  obtain ⟨c7, i7, h7⟩ := u_known (C := RX7) (T := TX7) (N := 10) (n := 10) ht inlX7 (ht _ (List.mem_of_getElem? (i := 31) (by decide +kernel)))
  obtain ⟨c8, i8, h8⟩ := u_known (C := RX8) (T := TX8) (N := 11) (n := 11) ht inlX8 (ht _ (List.mem_of_getElem? (i := 1) (by decide +kernel)))
  obtain ⟨c9, i9, h9⟩ := u_known (C := RX9) (T := TX9) (N := 14) (n := 14) ht inlX9 (ht _ (List.mem_of_getElem? (i := 4) (by decide +kernel)))
  refine ⟨(fun k => [c0, c1, c2, c3, c4, c5, c6, c7, c8, c9].getD k c0, fun k => [i0, i1, i2, i3, i4, i5, i6, i7, i8, i9].getD k i0), ?_⟩
  intro k q hq
  match k, hq with
  | 0, hq => cases hq; exact h0
  | 1, hq => cases hq; exact h1
  | 2, hq => cases hq; exact h2
  | 3, hq => cases hq; exact h3
  | 4, hq => cases hq; exact h4
  | 5, hq => cases hq; exact h5
  | 6, hq => cases hq; exact h6
  | 7, hq => cases hq; exact h7
  | 8, hq => cases hq; exact h8
  | 9, hq => cases hq; exact h9
  | k + 10, hq => simp at hq
theorem st_env (l : Launch) (C0 : lw_At p s m meth c b L xs) : ∃ (D : va_G) (cyI cyP : ClassId), yEnv (l, D, cyI, cyP) s := by
  obtain ⟨D, hD⟩ := st_known C0
  have ht : ∀ w ∈ lw_tbl, w.before #[Value.ref b] s = true := C0.2.2.2.2.2.1
  obtain ⟨cI, kI, pI, f1, f2, f3⟩ := Cond.arrayClass_spec (st_word C0 (.arrayClass .int) (List.mem_of_getElem? (i := 40) (by decide +kernel)) #[])
  have hO := ht (.arrayOver (.object RX5)) (by decide +kernel)
  obtain ⟨comp, cP, kP, g1, g2, g3, g4, g5⟩ := Cond.arrayOver_spec hO
  refine ⟨D, cI, cP, ⟨hD, fun k q hq => ?_⟩, st_word C0, st_nest C0, va_AO.of hO, va_Nw.of rfl (ht (.castable RX0 RX5) (by decide +kernel)), va_Nw.of rfl (ht (.castable RX4 RX5) (by decide +kernel)), va_Nw.of rfl (ht (.castable RX3 RX5) (by decide +kernel)), va_Nw.of rfl (ht (.castable RX1 RX5) (by decide +kernel)), va_Nw.of rfl (ht (.castable RX2 RX5) (by decide +kernel))⟩
  match k, hq with
  | 0, hq => cases hq; exact ⟨fun n z => ⟨(fun k h => by cases h), kI, f2, pI, f3⟩, f1⟩
  | 1, hq => cases hq; exact ⟨fun n z => ⟨(fun k h => by cases h), kP, g3, comp, g4⟩, kP, comp, g3, g4, g1, g5⟩
  | k + 2, hq => simp at hq
def stT (i : Nat) : Term := .string RX6 ([36, 62, 50, 52, 54, 56].getD i 0)
def stFl : List Cond := flatC (Jvm.Cond.and given_1 narrow_1)
theorem st_F (C0 : lw_At p s m meth c b L xs) : ∀ w ∈ stFl, w.before #[Value.ref b] s = true := flat_of_before _ C0.2.2.2.2.2.2.2.2.2
theorem st_ex : ∀ i, i < 6 → Cond.exactly (stT i) "java/lang/String" ∈ stFl := by decide +kernel
theorem st_co : ∀ i, i < 6 → Cond.eq (.field (stT i) "java/lang/String" "coder" "B") (.int 0) ∈ stFl := by decide +kernel
theorem st_ar : ∀ i, i < 6 → Cond.arrayOf (.field (stT i) "java/lang/String" "value" "[B") .byte ∈ stFl := by decide +kernel
theorem st_le : ∀ i, i < 6 → Cond.eq (.length (.field (stT i) "java/lang/String" "value" "[B")) (.int (Int32.ofNat (sLen.getD i 0))) ∈ stFl := by decide +kernel
theorem st_el : ∀ i, i < 6 → ∀ j, j < sLen.getD i 0 → Cond.eq (.elem (.field (stT i) "java/lang/String" "value" "[B") (.int (Int32.ofNat j))) (.int ((sByt.getD i []).getD j 0)) ∈ stFl := by decide +kernel
theorem st_ne : ∀ i, i < 6 → ∀ j, j < 6 → i ≠ j → Cond.not (Cond.eq (stT i) (stT j)) ∈ stFl ∨ Cond.not (Cond.eq (stT j) (stT i)) ∈ stFl := by decide +kernel
theorem st_str (C0 : lw_At p s m meth c b L xs) : ∃ (adK adV : Nat → Nat) (fa : Option Nat), zStrE (fun q => s.heap.size ≤ q) adK adV fa s := by
  have hF := st_F C0
  have ht : ∀ w ∈ lw_tbl, w.before #[Value.ref b] s = true := C0.2.2.2.2.2.1
  have hA : ∀ a : Nat, a < s.heap.size → ¬ (fun q : Nat => s.heap.size ≤ q) a := fun a h => Nat.not_le.mpr h
  obtain ⟨adK, adV, hS, hv⟩ := vk_Sof (args := #[Value.ref b]) (s := s) (N := 6) (tm := stT) (len := sLen) (byt := sByt) (A := fun q => s.heap.size ≤ q) (fun i hi => Nat.lt_trans (sLen_lt i hi) (by decide)) (fun i hi => hF _ (st_ex i hi)) (fun i hi => hF _ (st_co i hi)) (fun i hi => hF _ (st_ar i hi)) (fun i hi => hF _ (st_le i hi)) (fun i hi j hj => hF _ (st_el i hi j hj)) (fun i j hi hj hij => (st_ne i hi j hj hij).imp (fun h => hF _ h) (fun h => hF _ h)) hA
  have hf : va_Zq "jdk/internal/util/Preconditions" "SIOOBE_FORMATTER" "Ljava/util/function/BiFunction;" (fun q => s.heap.size ≤ q) s s.heap := va_Zqof (ht _ (by decide +kernel)) (ht _ (by decide +kernel)) (hF _ (by decide +kernel)) hA
  have hc : va_Z "java/lang/String" "COMPACT_STRINGS" "Z" (.int 1) (fun q => s.heap.size ≤ q) s s.heap := va_Zof (ht _ (by decide +kernel)) (ht _ (by decide +kernel)) (va_eqi (hF _ (by decide +kernel))) hA
  obtain ⟨fa, hfa⟩ : ∃ fa : Option Nat, va_Z "jdk/internal/util/Preconditions" "SIOOBE_FORMATTER" "Ljava/util/function/BiFunction;" (va_rf fa) (fun q => s.heap.size ≤ q) s s.heap := by
    rcases hf with h | ⟨t, h⟩
    · exact ⟨none, h⟩
    · exact ⟨some t, h⟩
  exact ⟨adK, adV, fa, hS, ⟨vk_R.of (ht _ (by decide +kernel)) (hv 0 (by decide)), vk_R.of (ht _ (by decide +kernel)) (hv 1 (by decide)), vk_R.of (ht _ (by decide +kernel)) (hv 2 (by decide)), vk_R.of (ht _ (by decide +kernel)) (hv 3 (by decide)), vk_R.of (ht _ (by decide +kernel)) (hv 4 (by decide)), vk_R.of (ht _ (by decide +kernel)) (hv 5 (by decide))⟩, hc, hfa⟩
theorem zStrE_narrow {A B : Nat → Prop} {adK adV : Nat → Nat} {fa : Option Nat} {U : State} (h : zStrE A adK adV fa U) (hAB : ∀ q, B q → A q) : zStrE B adK adV fa U :=
  ⟨h.1.narrow hAB, h.2.1, h.2.2.1.narrow hAB, h.2.2.2.narrow hAB⟩
end START
