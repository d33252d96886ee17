/-- what the Statement gives of the start, one by one -/
def fC : List Cond := flatC (Jvm.Cond.and given_1 narrow_1)
def tmS (i : Nat) : Term := .string "CoinsWarden$Reading" (sIx.getD i 0)
def tmA (nm ds : String) : Term := .static "CoinsWarden" nm ds
theorem fA_TENS : Cond.arrayOf (tmA "TENS" "[J") .long ∈ fC ∧ Cond.eq (.length (tmA "TENS" "[J")) (.int (Int32.ofNat 13)) ∈ fC ∧ ∀ j : Fin 13, Cond.eq (.elem (tmA "TENS" "[J") (.int (Int32.ofNat j.1))) (.long (([1, 10, 100, 1000, 10000, 100000, 1000000, 10000000, 100000000, 1000000000, 10000000000, 100000000000, 1000000000000] : List Int64).getD j.1 0)) ∈ fC := by decide +kernel
theorem fA_REFUSALS : Cond.arrayOf (tmA "REFUSALS" "[I") .int ∈ fC ∧ Cond.eq (.length (tmA "REFUSALS" "[I")) (.int (Int32.ofNat 5)) ∈ fC ∧ ∀ j : Fin 5, Cond.eq (.elem (tmA "REFUSALS" "[I") (.int (Int32.ofNat j.1))) (.int (([-1, -2, -3, -5, -6] : List Int32).getD j.1 0)) ∈ fC := by decide +kernel
theorem fA_FACT_HIGH : Cond.arrayOf (tmA "FACT_HIGH" "[I") .int ∈ fC ∧ Cond.eq (.length (tmA "FACT_HIGH" "[I")) (.int (Int32.ofNat 4)) ∈ fC ∧ ∀ j : Fin 4, Cond.eq (.elem (tmA "FACT_HIGH" "[I") (.int (Int32.ofNat j.1))) (.int (([11, 11, 1, 9] : List Int32).getD j.1 0)) ∈ fC := by decide +kernel
theorem fA_TERM_LOW : Cond.arrayOf (tmA "TERM_LOW" "[I") .int ∈ fC ∧ Cond.eq (.length (tmA "TERM_LOW" "[I")) (.int (Int32.ofNat 8)) ∈ fC ∧ ∀ j : Fin 8, Cond.eq (.elem (tmA "TERM_LOW" "[I") (.int (Int32.ofNat j.1))) (.int (([1, 1, 0, 0, 1, 0, 0, 0] : List Int32).getD j.1 0)) ∈ fC := by decide +kernel
theorem fA_TERM_HIGH : Cond.arrayOf (tmA "TERM_HIGH" "[I") .int ∈ fC ∧ Cond.eq (.length (tmA "TERM_HIGH" "[I")) (.int (Int32.ofNat 8)) ∈ fC ∧ ∀ j : Fin 8, Cond.eq (.elem (tmA "TERM_HIGH" "[I") (.int (Int32.ofNat j.1))) (.int (([9, 4, 99, 9, 12, 3, 99, 9] : List Int32).getD j.1 0)) ∈ fC := by decide +kernel
theorem fA_TERM_FIRST : Cond.arrayOf (tmA "TERM_FIRST" "[I") .int ∈ fC ∧ Cond.eq (.length (tmA "TERM_FIRST" "[I")) (.int (Int32.ofNat 8)) ∈ fC ∧ ∀ j : Fin 8, Cond.eq (.elem (tmA "TERM_FIRST" "[I") (.int (Int32.ofNat j.1))) (.int (([1, 1, 40, 0, 12, 1, 20, 0] : List Int32).getD j.1 0)) ∈ fC := by decide +kernel
theorem fS_a : ∀ i : Fin 8, Cond.exactly (tmS i.1) "java/lang/String" ∈ fC ∧ Cond.eq (.field (tmS i.1) "java/lang/String" "coder" "B") (.int 0) ∈ fC ∧ Cond.arrayOf (.field (tmS i.1) "java/lang/String" "value" "[B") .byte ∈ fC ∧ Cond.eq (.length (.field (tmS i.1) "java/lang/String" "value" "[B")) (.int (Int32.ofNat (sLn.getD i.1 0))) ∈ fC ∧ sLn.getD i.1 0 ≤ 37 := by decide +kernel
theorem fS_e : ∀ i : Fin 8, ∀ j : Fin 37, j.1 < sLn.getD i.1 0 → Cond.eq (.elem (.field (tmS i.1) "java/lang/String" "value" "[B") (.int (Int32.ofNat j.1))) (.int ((sBy.getD i.1 []).getD j.1 0)) ∈ fC := by decide +kernel
theorem fS_n : ∀ i j : Fin 8, i ≠ j → Cond.not (.eq (tmS i.1) (tmS j.1)) ∈ fC ∨ Cond.not (.eq (tmS j.1) (tmS i.1)) ∈ fC := by decide +kernel
theorem fZ_a : Cond.eq (.static "java/lang/String" "COMPACT_STRINGS" "Z") (.int 1) ∈ fC ∧ Cond.isRef (.static "jdk/internal/util/Preconditions" "SIOOBE_FORMATTER" "Ljava/util/function/BiFunction;") ∈ fC := by decide +kernel
/-! THE CLAIM OUT OF ONE WALK OF THE LAW'S BODY. Your part is whole_start (and what it stands on); all else here is the same for every law, but numbers. -/
def R_law : String := "CoinsWardenLaw"
def lw_P (b : Addr) (xs : List Int32) (args : Array Value) (s : State) : Prop := args = #[.ref b] ∧ s.IntsAt b xs ∧ xs.length ≤ 3072 ∧ (Jvm.Cond.and given_1 narrow_1).before args s = true
def lw_Q (_ : Array Value) (s : State) (o : Outcome) (t : State) : Prop := o = .returned (some (.int 1)) ∧ Framed s o t [] 600000 7302250
def lw_Z (below : List Frame) (a : Array Value) (s : State) : State → Prop := fun t => ∃ o, t.status = .running ∧ Ended t below o ∧ lw_Q a s o t
/-- the law's own end, with 1 on the stack, nothing written that was there before, its room as the claim has it -/
theorem lw_ret {p : Program} {l : Launch} {e : Env} {s : State} {m : MethodId} {below : List Frame} {meth : Method} {c : Code} {b : Nat} (hx : p.tables.exec = Jvm.exec) (hb : c.code = code) (hr : meth.sig.returnType = ret) (hlocks : meth.locks = false) {pc : Nat} {H : Heap} {ls : Array Slot} (hdg : decode code pc = .ok (.ireturn, 1)) : W p l e room_1 s m #[Value.ref b] below meth c H [] 600000 7302250 (lw_Z below #[Value.ref b] s) (F0 m pc ls [.int 1]) := by
  intro T hT X
  obtain ⟨fs, hret, hrun, hended, hW, hframe⟩ := X.leave (v := some (.int 1)) (hlocks := hlocks) (fun h => by rw [hr] at h; cases h)
  have hmeth' : T.vm.method? m = some meth := X.method'
  refine ⟨T.setFrames fs, ?_, .returned (some (.int 1)), hrun, hended, rfl, ⟨_, rfl⟩, hW, hframe⟩
  jvm_step X.here [X.here.top, hx, hb, hdg, hmeth', hr, ret, narrow_b1]
  (try refine ⟨rfl, ?_⟩); (try refine ⟨rfl, ?_⟩)
  first | (intro acts; rw [hret _ acts rfl rfl rfl]) | rw [hret _ _ rfl rfl rfl]
  exact Steps.refl _
/-- what holds at the law's entry: the machine, the code, the tables' words (any of lw_tbl by 'hts w (by decide +kernel)'), the script of L ints xs at the cell b, what the Statement gives of the start (any of its parts by flat_of_before) -/
def lw_At (p : Program) (s : State) (m : MethodId) (meth : Method) (c : Code) (b L : Nat) (xs : Nat → Int32) : Prop :=
  p.tables.exec = Jvm.exec ∧ c.code = code ∧ meth.sig.returnType = ret ∧ c.maxLocals = 4 ∧ s.vm.findClass R_law = some m.cls ∧ (∀ w ∈ lw_tbl, w.before #[Value.ref b] s = true) ∧ va_X b L xs s s.heap ∧ b < s.heap.size ∧ meth.locks = false ∧ (Jvm.Cond.and given_1 narrow_1).before #[Value.ref b] s = true ∧ meth.name = "law"
/-- the classes, the arrays, the statics and the texts are what the Statement says -/
theorem cU_start {p : Program} {s : State} {m : MethodId} {meth : Method} {c : Code} {b L : Nat} {xs : Nat → Int32} (C0 : lw_At p s m meth c b L xs) : ∃ K : cK, K.1 = s.heap ∧ K.2.1 24 = b ∧ K.2.2.2.2.1 = L ∧ cU K s := by
  obtain ⟨hx, hb, hr, hml, hown, hts, hX, hbl, hlocks, hgv, hname⟩ := id C0
  have hfl : ∀ w ∈ fC, w.before #[Value.ref b] s = true := flat_of_before _ hgv
  have HT : ∀ (i : Nat) {w : Cond}, tables_1[i]? = some w → w.before #[Value.ref b] s = true := fun i w h => hts w (List.mem_append_right _ (List.mem_of_getElem? h))
  have hG : ∀ w ∈ tblG, w.before #[Value.ref b] s = true := fun w hw => hts w (tg_low w hw)
  have hA : ∀ a : Nat, a < s.heap.size → ¬ (fun q : Nat => s.heap.size ≤ q) a := fun a h => Nat.not_le.mpr h
  obtain ⟨c0, iS0, hKn0⟩ := u_known (C := "CoinsWarden$Costs") (T := tc_0) (N := 9) (n := 9) hG li_0 (HT 295 (by decide +kernel))
  obtain ⟨c1, iS1, hKn1⟩ := u_known (C := "CoinsWarden$Day") (T := tc_1) (N := 11) (n := 11) hG li_1 (HT 362 (by decide +kernel))
  obtain ⟨c2, iS2, hKn2⟩ := u_known (C := "CoinsWarden$Game") (T := tc_2) (N := 3) (n := 3) hG li_2 (HT 408 (by decide +kernel))
  obtain ⟨c3, iS3, hKn3⟩ := u_known (C := "CoinsWarden$Plans") (T := tc_3) (N := 8) (n := 8) hG li_3 (HT 331 (by decide +kernel))
  obtain ⟨c4, iS4, hKn4⟩ := u_known (C := "CoinsWarden$Reading") (T := tc_4) (N := 13) (n := 13) hG li_4 (HT 142 (by decide +kernel))
  obtain ⟨c5, iS5, hKn5⟩ := u_known (C := "CoinsWarden$Reckoner") (T := tc_5) (N := 5) (n := 5) hG li_5 (HT 203 (by decide +kernel))
  obtain ⟨c6, iS6, hKn6⟩ := u_known (C := "CoinsWarden$State") (T := tc_6) (N := 14) (n := 14) hG li_6 (HT 31 (by decide +kernel))
  obtain ⟨c7, iS7, hKn7⟩ := u_known (C := "CoinsWarden$Stay") (T := tc_7) (N := 8) (n := 8) hG li_7 (HT 245 (by decide +kernel))
  obtain ⟨c8, iS8, hKn8⟩ := u_known (C := "CoinsWarden$Tape") (T := tc_8) (N := 6) (n := 6) hG li_8 (HT 111 (by decide +kernel))
  obtain ⟨c9, iS9, hKn9⟩ := u_known (C := "CoinsWarden$Text") (T := tc_9) (N := 7) (n := 7) hG li_9 (HT 699 (by decide +kernel))
  obtain ⟨c10, iS10, hKn10⟩ := u_known (C := "CoinsWarden$Warden") (T := tc_10) (N := 5) (n := 5) hG li_10 (HT 197 (by decide +kernel))
  obtain ⟨c11, iS11, hKn11⟩ := u_known (C := "CoinsWarden") (T := tc_11) (N := 17) (n := 17) hG li_11 (HT 23 (by decide +kernel))
  obtain ⟨c12, iS12, hKn12⟩ := u_known (C := "CoinsWardenModel") (T := tc_12) (N := 60) (n := 60) hG li_12 (HT 1156 (by decide +kernel))
  obtain ⟨dC, dI, hKc⟩ : ∃ (dC : Nat → ClassId) (dI : Nat → Nat → Nat), ∀ (k : Nat) (q : vw_C), classes[k]? = some q → u_Kn s q.1 q.2.1 q.2.2 (dC k) (dI k) := by
    refine ⟨fun k => if k = 0 then c0 else if k = 1 then c1 else if k = 2 then c2 else if k = 3 then c3 else if k = 4 then c4 else if k = 5 then c5 else if k = 6 then c6 else if k = 7 then c7 else if k = 8 then c8 else if k = 9 then c9 else if k = 10 then c10 else if k = 11 then c11 else c12, fun k => if k = 0 then iS0 else if k = 1 then iS1 else if k = 2 then iS2 else if k = 3 then iS3 else if k = 4 then iS4 else if k = 5 then iS5 else if k = 6 then iS6 else if k = 7 then iS7 else if k = 8 then iS8 else if k = 9 then iS9 else if k = 10 then iS10 else if k = 11 then iS11 else iS12, ?_⟩
    intro k q hq
    match k, hq with
    | 0, hq => cases hq; exact hKn0
    | 1, hq => cases hq; exact hKn1
    | 2, hq => cases hq; exact hKn2
    | 3, hq => cases hq; exact hKn3
    | 4, hq => cases hq; exact hKn4
    | 5, hq => cases hq; exact hKn5
    | 6, hq => cases hq; exact hKn6
    | 7, hq => cases hq; exact hKn7
    | 8, hq => cases hq; exact hKn8
    | 9, hq => cases hq; exact hKn9
    | 10, hq => cases hq; exact hKn10
    | 11, hq => cases hq; exact hKn11
    | 12, hq => cases hq; exact hKn12
    | k + 13, hq => exact absurd hq (by simp [classes])
  obtain ⟨aI, kI, mI, f1I, f2I, f3I⟩ := Cond.arrayClass_spec (HT 108 (by decide +kernel) : (Cond.arrayClass .int).before #[Value.ref b] s = true)
  obtain ⟨aJ, kJ, mJ, f1J, f2J, f3J⟩ := Cond.arrayClass_spec (HT 226 (by decide +kernel) : (Cond.arrayClass .long).before #[Value.ref b] s = true)
  obtain ⟨aZ, kZ, mZ, f1Z, f2Z, f3Z⟩ := Cond.arrayClass_spec (HT 140 (by decide +kernel) : (Cond.arrayClass .boolean).before #[Value.ref b] s = true)
  have hAOT : (Cond.arrayOver (.object "CoinsWarden$Text")).before #[Value.ref b] s = true := HT 37 (by decide +kernel)
  obtain ⟨mT, aT, kT, f0T, -, f2T, f3T, f1T⟩ := Cond.arrayOver_spec hAOT
  have hAOS : (Cond.arrayOver (.object "CoinsWarden$State")).before #[Value.ref b] s = true := HT 109 (by decide +kernel)
  obtain ⟨mS, aS, kS, f0S, -, f2S, f3S, f1S⟩ := Cond.arrayOver_spec hAOS
  obtain ⟨t0, ht0, hT0⟩ := va_Tof (tm := tmA "TENS" "[J") (ty := .long) (N := 13) (f := stL [1, 10, 100, 1000, 10000, 100000, 1000000, 10000000, 100000000, 1000000000, 10000000000, 100000000000, 1000000000000]) (A := fun q : Nat => s.heap.size ≤ q) (by decide) (hfl _ fA_TENS.1) (va_eqt (hfl _ fA_TENS.2.1)) (fun j hj => va_eqtl (hfl _ (fA_TENS.2.2 ⟨j, hj⟩))) hA
  obtain ⟨t1, ht1, hT1⟩ := va_Tof (tm := tmA "REFUSALS" "[I") (ty := .int) (N := 5) (f := stI [-1, -2, -3, -5, -6]) (A := fun q : Nat => s.heap.size ≤ q) (by decide) (hfl _ fA_REFUSALS.1) (va_eqt (hfl _ fA_REFUSALS.2.1)) (fun j hj => va_eqt (hfl _ (fA_REFUSALS.2.2 ⟨j, hj⟩))) hA
  obtain ⟨t2, ht2, hT2⟩ := va_Tof (tm := tmA "FACT_HIGH" "[I") (ty := .int) (N := 4) (f := stI [11, 11, 1, 9]) (A := fun q : Nat => s.heap.size ≤ q) (by decide) (hfl _ fA_FACT_HIGH.1) (va_eqt (hfl _ fA_FACT_HIGH.2.1)) (fun j hj => va_eqt (hfl _ (fA_FACT_HIGH.2.2 ⟨j, hj⟩))) hA
  obtain ⟨t3, ht3, hT3⟩ := va_Tof (tm := tmA "TERM_LOW" "[I") (ty := .int) (N := 8) (f := stI [1, 1, 0, 0, 1, 0, 0, 0]) (A := fun q : Nat => s.heap.size ≤ q) (by decide) (hfl _ fA_TERM_LOW.1) (va_eqt (hfl _ fA_TERM_LOW.2.1)) (fun j hj => va_eqt (hfl _ (fA_TERM_LOW.2.2 ⟨j, hj⟩))) hA
  obtain ⟨t4, ht4, hT4⟩ := va_Tof (tm := tmA "TERM_HIGH" "[I") (ty := .int) (N := 8) (f := stI [9, 4, 99, 9, 12, 3, 99, 9]) (A := fun q : Nat => s.heap.size ≤ q) (by decide) (hfl _ fA_TERM_HIGH.1) (va_eqt (hfl _ fA_TERM_HIGH.2.1)) (fun j hj => va_eqt (hfl _ (fA_TERM_HIGH.2.2 ⟨j, hj⟩))) hA
  obtain ⟨t5, ht5, hT5⟩ := va_Tof (tm := tmA "TERM_FIRST" "[I") (ty := .int) (N := 8) (f := stI [1, 1, 40, 0, 12, 1, 20, 0]) (A := fun q : Nat => s.heap.size ≤ q) (by decide) (hfl _ fA_TERM_FIRST.1) (va_eqt (hfl _ fA_TERM_FIRST.2.1)) (fun j hj => va_eqt (hfl _ (fA_TERM_FIRST.2.2 ⟨j, hj⟩))) hA
  obtain ⟨adK, adV, hSS, hSt⟩ := vk_Sof (args := #[Value.ref b]) (s := s) (N := 8) (tm := tmS) (len := sLn) (byt := sBy) (A := fun q : Nat => s.heap.size ≤ q) (fun i hi => Nat.lt_of_le_of_lt (fS_a ⟨i, hi⟩).2.2.2.2 (by decide)) (fun i hi => hfl _ (fS_a ⟨i, hi⟩).1) (fun i hi => hfl _ (fS_a ⟨i, hi⟩).2.1) (fun i hi => hfl _ (fS_a ⟨i, hi⟩).2.2.1) (fun i hi => hfl _ (fS_a ⟨i, hi⟩).2.2.2.1) (fun i hi j hj => hfl _ (fS_e ⟨i, hi⟩ ⟨j, Nat.lt_of_lt_of_le hj (fS_a ⟨i, hi⟩).2.2.2.2⟩ hj)) (fun i j hi hj hij => (fS_n ⟨i, hi⟩ ⟨j, hj⟩ (fun z => hij (congrArg Fin.val z))).imp (hfl _) (hfl _)) hA
  obtain ⟨ad, ha0, ha1, ha2, ha3, ha4, ha5, ha8, ha16, ha24⟩ : ∃ ad : Nat → Nat, ad 0 = t0 ∧ ad 1 = t1 ∧ ad 2 = t2 ∧ ad 3 = t3 ∧ ad 4 = t4 ∧ ad 5 = t5 ∧ (∀ i, i < 8 → ad (8 + i) = adK i) ∧ (∀ i, i < 8 → ad (16 + i) = adV i) ∧ ad 24 = b := by
    refine ⟨fun j => if j = 0 then t0 else if j = 1 then t1 else if j = 2 then t2 else if j = 3 then t3 else if j = 4 then t4 else if j = 5 then t5 else if j < 16 then adK (j - 8) else if j < 24 then adV (j - 16) else b, rfl, rfl, rfl, rfl, rfl, rfl, fun i hi => ?_, fun i hi => ?_, rfl⟩
    · show (if 8 + i = 0 then _ else if 8 + i = 1 then _ else if 8 + i = 2 then _ else if 8 + i = 3 then _ else if 8 + i = 4 then _ else if 8 + i = 5 then _ else if 8 + i < 16 then _ else _) = _
      rw [if_neg (by omega), if_neg (by omega), if_neg (by omega), if_neg (by omega), if_neg (by omega), if_neg (by omega), if_pos (by omega)]; congr 1; omega
    · show (if 16 + i = 0 then _ else if 16 + i = 1 then _ else if 16 + i = 2 then _ else if 16 + i = 3 then _ else if 16 + i = 4 then _ else if 16 + i = 5 then _ else if 16 + i < 16 then _ else if 16 + i < 24 then _ else _) = _
      rw [if_neg (by omega), if_neg (by omega), if_neg (by omega), if_neg (by omega), if_neg (by omega), if_neg (by omega), if_neg (by omega), if_pos (by omega)]; congr 1; omega
  refine ⟨(s.heap, ad, (dC, dI), (fun k => if k = 0 then aI else if k = 1 then aJ else if k = 2 then aZ else if k = 3 then aT else aS), L, xs), rfl, ha24, rfl, ⟨⟨hKc, fun k q hq => ?_⟩, ⟨fun w hw => ?_, hAOT, hAOS, va_Nw.of rfl (HT 712 (by decide +kernel))⟩, fun j q hq => ?_, va_Zof (HT 594 (by decide +kernel)) (HT 15 (by decide +kernel)) (va_eqt (hfl _ fZ_a.1)) hA, va_Zqof (HT 610 (by decide +kernel)) (HT 17 (by decide +kernel)) (hfl _ fZ_a.2) hA, fun i hi => ?_, ?_, ?_, ?_⟩⟩
  · match k, hq with
    | 0, hq => cases hq; exact ⟨fun n z => ⟨fun k h => (by cases h), kI, f2I, mI, f3I⟩, f1I⟩
    | 1, hq => cases hq; exact ⟨fun n z => ⟨fun k h => (by cases h), kJ, f2J, mJ, f3J⟩, f1J⟩
    | 2, hq => cases hq; exact ⟨fun n z => ⟨fun k h => (by cases h), kZ, f2Z, mZ, f3Z⟩, f1Z⟩
    | 3, hq => cases hq; exact ⟨fun n z => ⟨fun k h => (by cases h), kT, f2T, mT, f3T⟩, kT, mT, f2T, f3T, f0T, f1T⟩
    | 4, hq => cases hq; exact ⟨fun n z => ⟨fun k h => (by cases h), kS, f2S, mS, f3S⟩, kS, mS, f2S, f3S, f0S, f1S⟩
    | k + 5, hq => exact absurd hq (by simp [tys])
  · simp only [nW, List.mem_cons, List.not_mem_nil, or_false] at hw
    rcases hw with rfl | rfl | rfl | rfl | rfl | rfl | rfl | rfl
    · exact va_Nw.of rfl (HT 112 (by decide +kernel))
    · exact va_Nw.of rfl (HT 198 (by decide +kernel))
    · exact va_Nw.of rfl (HT 204 (by decide +kernel))
    · exact va_Nw.of rfl (HT 246 (by decide +kernel))
    · exact va_Nw.of rfl (HT 301 (by decide +kernel))
    · exact va_Nw.of rfl (HT 409 (by decide +kernel))
    · exact va_Nw.of rfl (HT 38 (by decide +kernel))
    · exact va_Nw.of rfl (HT 925 (by decide +kernel))
  · match j, hq with
    | 0, hq =>
      cases hq
      show va_Z "CoinsWarden" "TENS" "[J" (.ref (ad 0)) _ s s.heap ∧ va_T .long (ad 0) 13 _ _ s s.heap
      rw [ha0]
      exact ⟨va_Zref (HT 926 (by decide +kernel)) (HT 1 (by decide +kernel)) ht0 hA, hT0⟩
    | 1, hq =>
      cases hq
      show va_Z "CoinsWarden" "REFUSALS" "[I" (.ref (ad 1)) _ s s.heap ∧ va_T .int (ad 1) 5 _ _ s s.heap
      rw [ha1]
      exact ⟨va_Zref (HT 426 (by decide +kernel)) (HT 1 (by decide +kernel)) ht1 hA, hT1⟩
    | 2, hq =>
      cases hq
      show va_Z "CoinsWarden" "FACT_HIGH" "[I" (.ref (ad 2)) _ s s.heap ∧ va_T .int (ad 2) 4 _ _ s s.heap
      rw [ha2]
      exact ⟨va_Zref (HT 487 (by decide +kernel)) (HT 1 (by decide +kernel)) ht2 hA, hT2⟩
    | 3, hq =>
      cases hq
      show va_Z "CoinsWarden" "TERM_LOW" "[I" (.ref (ad 3)) _ s s.heap ∧ va_T .int (ad 3) 8 _ _ s s.heap
      rw [ha3]
      exact ⟨va_Zref (HT 521 (by decide +kernel)) (HT 1 (by decide +kernel)) ht3 hA, hT3⟩
    | 4, hq =>
      cases hq
      show va_Z "CoinsWarden" "TERM_HIGH" "[I" (.ref (ad 4)) _ s s.heap ∧ va_T .int (ad 4) 8 _ _ s s.heap
      rw [ha4]
      exact ⟨va_Zref (HT 523 (by decide +kernel)) (HT 1 (by decide +kernel)) ht4 hA, hT4⟩
    | 5, hq =>
      cases hq
      show va_Z "CoinsWarden" "TERM_FIRST" "[I" (.ref (ad 5)) _ s s.heap ∧ va_T .int (ad 5) 8 _ _ s s.heap
      rw [ha5]
      exact ⟨va_Zref (HT 39 (by decide +kernel)) (HT 1 (by decide +kernel)) ht5 hA, hT5⟩
    | j + 6, hq => exact absurd hq (by simp [stA])
  · have hz : i = 0 ∨ i = 1 ∨ i = 2 ∨ i = 3 ∨ i = 4 ∨ i = 5 ∨ i = 6 ∨ i = 7 := by omega
    show vk_R _ _ _ (ad (8 + i)) s
    rw [ha8 i hi]
    rcases hz with rfl | rfl | rfl | rfl | rfl | rfl | rfl | rfl
    · exact vk_R.of (HT 579 (by decide +kernel)) (hSt 0 hi)
    · exact vk_R.of (HT 580 (by decide +kernel)) (hSt 1 hi)
    · exact vk_R.of (HT 674 (by decide +kernel)) (hSt 2 hi)
    · exact vk_R.of (HT 693 (by decide +kernel)) (hSt 3 hi)
    · exact vk_R.of (HT 694 (by decide +kernel)) (hSt 4 hi)
    · exact vk_R.of (HT 695 (by decide +kernel)) (hSt 5 hi)
    · exact vk_R.of (HT 696 (by decide +kernel)) (hSt 6 hi)
    · exact vk_R.of (HT 697 (by decide +kernel)) (hSt 7 hi)
  · refine ⟨fun i hi => ?_, fun i j hi hj hij => ?_⟩
    · have q := hSS.1 i hi
      rw [← ha8 i hi, ← ha16 i hi] at q
      exact q
    · have hij2 : ad (8 + i) = ad (8 + j) := hij
      rw [ha8 i hi, ha8 j hj] at hij2
      exact hSS.2 i j hi hj hij2
  · show va_X (ad 24) L xs s s.heap
    rw [ha24]; exact hX
  · show ad 24 < s.heap.size
    rw [ha24]; exact hbl
