def bt (m k : Nat) : Nat := m / 2 ^ k % 2
theorem bt_lt (m k : Nat) : bt m k < 2 := Nat.mod_lt _ (by decide)
theorem shr_k {m k : Nat} (hm : m < 2147483648) (hk : k < 31) : nI m >>> (nI k &&& 31) = nI (m / 2 ^ k) := by
  refine pk_shrN hm _ k ?_
  have e : nI k &&& 31 = nI (k % 2 ^ 5) := pk_andN (by omega) 5 (by decide)
  rw [e, Nat.mod_eq_of_lt (by omega)]
  have : ∀ j : Fin 31, ((nI j.val).toBitVec.smod 32).toNat = j.val := by decide
  exact this ⟨k, hk⟩
theorem and_1 {m : Nat} (hm : m < 2147483648) : nI m &&& nI 1 = nI (m % 2) := pk_andN (by omega) 1 (by decide)
theorem bt_v {m k : Nat} (hm : m < 2147483648) : nI (m / 2 ^ k) &&& nI 1 = nI (bt m k) := and_1 (Nat.lt_of_le_of_lt (Nat.div_le_self _ _) hm)
def on12 (m : Nat) : Nat → Nat
  | 0 => 0
  | k + 1 => on12 m k + bt m k
theorem on12_le (m : Nat) : ∀ k, on12 m k ≤ k
  | 0 => Nat.le_refl _
  | k + 1 => by have := on12_le m k; have := bt_lt m k; show on12 m k + bt m k ≤ _; omega
def mkI (m : Nat) : Int32 := if m = 0 then -1 else nI (m - 1)
theorem mkI_0 : mkI 0 = -1 := rfl
theorem mkI_p {m : Nat} (h : 0 < m) : mkI m = nI (m - 1) := if_neg (by omega)
theorem mkI_s (m : Nat) : mkI (m + 1) = nI m := if_neg (by omega)
theorem mkI_ti {m : Nat} (h : m < 1000) : (mkI m).toInt = (m : Int) - 1 := by
  by_cases e : m = 0
  · subst e; rfl
  · rw [mkI_p (by omega), nI_ti (by omega)]; omega
def cst (rd mv lim s : Nat) (x : Nat × Nat) : Nat × Nat :=
  if bt rd s = 1 then (if (if bt mv s = 1 then 0 else x.1) = 0 then (s + 1, x.2) else if lim ≤ s + 1 - (if bt mv s = 1 then 0 else x.1) then (s + 1, x.2 + 1) else ((if bt mv s = 1 then 0 else x.1), x.2)) else ((if bt mv s = 1 then 0 else x.1), x.2)
/-- the mark (0: none) and the fines before slot s -/
def ck (rd mv lim : Nat) : Nat → Nat × Nat
  | 0 => (0, 0)
  | s + 1 => cst rd mv lim s (ck rd mv lim s)
theorem ck_le (rd mv lim : Nat) : ∀ s, (ck rd mv lim s).1 ≤ s ∧ (ck rd mv lim s).2 ≤ s
  | 0 => ⟨Nat.le_refl _, Nat.le_refl _⟩
  | s + 1 => by
    obtain ⟨a, b⟩ := ck_le rd mv lim s
    show (cst rd mv lim s _).1 ≤ _ ∧ (cst rd mv lim s _).2 ≤ _
    unfold cst
    repeat' split
    all_goals (refine ⟨?_, ?_⟩ <;> first | omega | (simp only; omega) | (simp; omega) | simp)
set_option maxHeartbeats 200000 in
theorem r12_is {l : Launch} {K : cK} {d : Nat} {h : cH} (m k : Nat) (hm : m < 2147483648) (hk : k < 31) (hd : 0 ≤ d) : CE l K m12_is d [.int (nI m), .int (nI k)] h (.int (if bt m k = 1 then 1 else 0)) h := by
  have hb := bt_lt m k
  refine CC.of ok12_is (Nat.le_of_ble_eq_true rfl) ?_
  refine g_iload_n d12_is_0 rfl ?_
  refine g_iload_n d12_is_1 rfl ?_
  refine g_ishr d12_is_2 ?_
  refine g_topI (nI (m / 2 ^ k)) (shr_k hm hk) ?_
  refine g_iconstv (nI 1) d12_is_3 rfl ?_
  refine g_iand d12_is_4 ?_
  refine g_topI (nI (bt m k)) (bt_v hm) ?_
  refine g_iconstv (nI 1) d12_is_5 rfl ?_
  refine g_ic_ne ((bt m k : Nat) : Int) (1) 13 (nI_ti (by omega)) (by decide) d12_is_6 rfl (fun c6 => ?_) (fun c6 => ?_)
  · refine g_iconstv (nI 0) d12_is_13 rfl ?_
    exact g_zret rfl (by decide) d12_is_14 (⟨congrArg (fun z => some (Value.int z)) (by first | rw [if_pos (by omega)] <;> rfl | rw [if_neg (by omega)] <;> rfl), rfl⟩)
  · refine g_iconstv (nI 1) d12_is_9 rfl ?_
    refine g_goto 14 d12_is_10 rfl ?_
    exact g_zret rfl (by decide) d12_is_14 (⟨congrArg (fun z => some (Value.int z)) (by first | rw [if_pos (by omega)] <;> rfl | rw [if_neg (by omega)] <;> rfl), rfl⟩)
set_option maxHeartbeats 400000 in
theorem r12_onesL {l : Launch} {K : cK} {d : Nat} {h : cH} {Q : Option Value → cH → Prop} (m : Nat) (hm : m < 2147483648)
    (kk : (12 ≤ 12) → GL l K m12_ones d 0 0 24 [(0, .int (nI (m))), (1, .int (nI (on12 m (12))))] [] (h) Q) :
    ∀ (n k : Nat) , k + n = 12 → (k ≤ 12) → GL l K m12_ones d 0 0 4 [(0, .int (nI (m))), (1, .int (nI (on12 m (k)))), (2, .int (nI (k)))] [] (h) Q := by
  intro n
  induction n with
  | zero =>
    intro k  hin hk
    obtain rfl : 12 = k := by omega
    refine g_iload_n d12_ones_4 rfl ?_
    refine g_bipushv (nI 12) d12_ones_5 rfl ?_
    refine g_ic_ge ((12 : Nat) : Int) (12) 24 (nI_ti (by omega)) (by decide) d12_ones_7 rfl (fun _ => ?_) (fun c7 => absurd c7 (by decide))
    refine g_lo [(0, .int (nI (m))), (1, .int (nI (on12 m (12))))] ⟨rfl, rfl, trivial⟩ ?_
    exact kk  hk
  | succ n ih =>
    intro k  hin hk
    have hb := bt_lt m k
    have hb2 := on12_le m k
    refine g_iload_n d12_ones_4 rfl ?_
    refine g_bipushv (nI 12) d12_ones_5 rfl ?_
    refine g_ic_ge ((k : Nat) : Int) (12) 24 (nI_ti (by omega)) (by decide) d12_ones_7 rfl (fun c7 => absurd c7 (by omega)) (fun _ => ?_)
    refine g_iload_n d12_ones_10 rfl ?_
    refine g_iload_n d12_ones_11 rfl ?_
    refine g_iload_n d12_ones_12 rfl ?_
    refine g_ishr d12_ones_13 ?_
    refine g_topI (nI (m / 2 ^ k)) (shr_k hm (by omega)) ?_
    refine g_iconstv (nI 1) d12_ones_14 rfl ?_
    refine g_iand d12_ones_15 ?_
    refine g_topI (nI (bt m k)) (bt_v hm) ?_
    refine g_iaddN d12_ones_16 ?_
    refine g_istore_n d12_ones_17 (by decide) ?_
    refine g_iincN d12_ones_18 rfl (by decide) ?_
    refine g_goto 4 d12_ones_21 rfl ?_
    refine g_lo [(0, .int (nI (m))), (1, .int (nI (on12 m (k + 1)))), (2, .int (nI (k + 1)))] ⟨rfl, rfl, rfl, trivial⟩ ?_
    exact ih (k + 1) (by omega) (by omega)
set_option maxHeartbeats 200000 in
theorem r12_ones {l : Launch} {K : cK} {d : Nat} {h : cH} (m : Nat) (hm : m < 2147483648) (hd : 0 ≤ d) : CE l K m12_ones d [.int (nI m)] h (.int (nI (on12 m 12))) h := by
  refine CC.of ok12_ones (Nat.le_of_ble_eq_true rfl) ?_
  refine g_iconstv (nI 0) d12_ones_0 rfl ?_
  refine g_istore_n d12_ones_1 (by decide) ?_
  refine g_iconstv (nI 0) d12_ones_2 rfl ?_
  refine g_istore_n d12_ones_3 (by decide) ?_
  refine g_lo [(0, .int (nI (m))), (1, .int (nI (on12 m 0))), (2, .int (nI (0)))] ⟨rfl, rfl, rfl, trivial⟩ ?_
  refine r12_onesL m hm (fun _ => ?_) 12 0 (by omega) (by omega)
  refine g_iload_n d12_ones_24 rfl ?_
  exact g_iret rfl d12_ones_25 (⟨rfl, rfl⟩)
set_option maxHeartbeats 800000 in
theorem r12_ckL {l : Launch} {K : cK} {d : Nat} {h : cH} {Q : Option Value → cH → Prop} (rd mv lim : Nat) (hr : rd < 2147483648) (hv : mv < 2147483648) (hl : lim < 1000) (hd : 1 ≤ d)
    (kk : GL l K m12_chalkOf d 0 0 97 [(4, .int (nI (ck rd mv lim 12).2))] [] h Q) :
    ∀ (n s : Nat), s + n = 12 → GL l K m12_chalkOf d 0 0 8 [(0, .int (nI (rd))), (1, .int (nI (mv))), (2, .int (nI (lim))), (3, .int (mkI (ck rd mv lim s).1)), (4, .int (nI ((ck rd mv lim s).2))), (5, .int (nI (s)))] [] h Q := by
  intro n
  induction n with
  | zero =>
    intro s hin
    obtain rfl : 12 = s := by omega
    refine g_iload d12_chalkOf_8 rfl ?_
    refine g_bipushv (nI 12) d12_chalkOf_10 rfl ?_
    refine g_ic_ge ((12 : Nat) : Int) (12) 97 (nI_ti (by omega)) (by decide) d12_chalkOf_12 rfl (fun _ => ?_) (fun c12 => absurd c12 (by decide))
    refine g_lo [(4, .int (nI ((ck rd mv lim 12).2)))] ⟨rfl, trivial⟩ ?_
    exact kk
  | succ n ih =>
    intro s hin
    obtain ⟨hb1, hb2⟩ := ck_le rd mv lim s
    rcases (by omega : (bt mv s = 1 ∧ ¬ bt rd s = 1) ∨ (bt mv s = 1 ∧ bt rd s = 1) ∨ (¬ bt mv s = 1 ∧ ¬ bt rd s = 1) ∨ (¬ bt mv s = 1 ∧ bt rd s = 1 ∧ (ck rd mv lim s).1 = 0) ∨ (¬ bt mv s = 1 ∧ bt rd s = 1 ∧ ¬ (ck rd mv lim s).1 = 0 ∧ lim ≤ s + 1 - (ck rd mv lim s).1) ∨ (¬ bt mv s = 1 ∧ bt rd s = 1 ∧ ¬ (ck rd mv lim s).1 = 0 ∧ ¬ lim ≤ s + 1 - (ck rd mv lim s).1)) with ⟨hmv, hrd⟩ | ⟨hmv, hrd⟩ | ⟨hmv, hrd⟩ | ⟨hmv, hrd, hm0⟩ | ⟨hmv, hrd, hm0, hold⟩ | ⟨hmv, hrd, hm0, hold⟩
    · skip
      have hck : ck rd mv lim (s + 1) = (0, (ck rd mv lim s).2) := by show cst rd mv lim s _ = _; unfold cst; simp only [if_pos hmv, if_neg hrd]
      refine g_iload d12_chalkOf_8 rfl ?_
      refine g_bipushv (nI 12) d12_chalkOf_10 rfl ?_
      refine g_ic_ge ((s : Nat) : Int) (12) 97 (nI_ti (by omega)) (by decide) d12_chalkOf_12 rfl (fun c12 => absurd c12 (by omega)) (fun _ => ?_)
      refine g_iload_n d12_chalkOf_15 rfl ?_
      refine g_iload d12_chalkOf_16 rfl ?_
      refine g_ES2 sm12_is ml12_490 (r12_is (mv) (s) (by omega) (by omega) (Nat.le_refl 0)) (by omega) (Nat.le_of_ble_eq_true rfl) d12_chalkOf_18 ?_
      refine g_bz 28 d12_chalkOf_21 rfl (fun c21 => absurd c21 (by first | exact fun z => z hmv | omega)) (fun _ => ?_)
      refine g_iconstv ((-1 : Int32)) d12_chalkOf_24 rfl ?_
      refine g_goto 29 d12_chalkOf_25 rfl ?_
      refine g_istore_n d12_chalkOf_29 (by decide) ?_
      refine g_iload_n d12_chalkOf_30 rfl ?_
      refine g_iload d12_chalkOf_31 rfl ?_
      refine g_ES2 sm12_is ml12_490 (r12_is (rd) (s) (by omega) (by omega) (Nat.le_refl 0)) (by omega) (Nat.le_of_ble_eq_true rfl) d12_chalkOf_33 ?_
      refine g_bz 91 d12_chalkOf_36 rfl (fun _ => ?_) (fun c36 => absurd c36 (by omega))
      refine g_iincN d12_chalkOf_91 rfl (by decide) ?_
      refine g_goto 8 d12_chalkOf_94 rfl ?_
      refine g_lo [(0, .int (nI (rd))), (1, .int (nI (mv))), (2, .int (nI (lim))), (3, .int (mkI (ck rd mv lim (s + 1)).1)), (4, .int (nI ((ck rd mv lim (s + 1)).2))), (5, .int (nI (s + 1)))] ⟨rfl, rfl, rfl, by rw [hck]; first | rfl | (show some (Value.int (nI s)) = some (Value.int (mkI (s + 1))); rw [mkI_s]), by rw [hck]; rfl, rfl, trivial⟩ ?_
      exact ih (s + 1) (by omega)
    · skip
      have hck : ck rd mv lim (s + 1) = (s + 1, (ck rd mv lim s).2) := by show cst rd mv lim s _ = _; unfold cst; simp only [if_pos hmv, if_pos hrd, if_true]
      refine g_iload d12_chalkOf_8 rfl ?_
      refine g_bipushv (nI 12) d12_chalkOf_10 rfl ?_
      refine g_ic_ge ((s : Nat) : Int) (12) 97 (nI_ti (by omega)) (by decide) d12_chalkOf_12 rfl (fun c12 => absurd c12 (by omega)) (fun _ => ?_)
      refine g_iload_n d12_chalkOf_15 rfl ?_
      refine g_iload d12_chalkOf_16 rfl ?_
      refine g_ES2 sm12_is ml12_490 (r12_is (mv) (s) (by omega) (by omega) (Nat.le_refl 0)) (by omega) (Nat.le_of_ble_eq_true rfl) d12_chalkOf_18 ?_
      refine g_bz 28 d12_chalkOf_21 rfl (fun c21 => absurd c21 (by first | exact fun z => z hmv | omega)) (fun _ => ?_)
      refine g_iconstv ((-1 : Int32)) d12_chalkOf_24 rfl ?_
      refine g_goto 29 d12_chalkOf_25 rfl ?_
      refine g_istore_n d12_chalkOf_29 (by decide) ?_
      refine g_iload_n d12_chalkOf_30 rfl ?_
      refine g_iload d12_chalkOf_31 rfl ?_
      refine g_ES2 sm12_is ml12_490 (r12_is (rd) (s) (by omega) (by omega) (Nat.le_refl 0)) (by omega) (Nat.le_of_ble_eq_true rfl) d12_chalkOf_33 ?_
      refine g_bz 91 d12_chalkOf_36 rfl (fun c36 => absurd c36 (by omega)) (fun _ => ?_)
      refine g_iload_n d12_chalkOf_39 rfl ?_
      refine g_iconstv ((-1 : Int32)) d12_chalkOf_40 rfl ?_
      refine g_ic_eq (-1) (-1) 56 (by decide) (by decide) d12_chalkOf_41 rfl (fun _ => ?_) (fun c41 => absurd c41 (by omega))
      refine g_iconstv (nI 0) d12_chalkOf_56 rfl ?_
      refine g_istore d12_chalkOf_57 (by decide) ?_
      refine g_iload d12_chalkOf_59 rfl ?_
      refine g_iload d12_chalkOf_61 rfl ?_
      refine g_iz_eq (0) 70 (by decide) d12_chalkOf_63 rfl (fun _ => ?_) (fun c63 => absurd c63 (by decide))
      refine g_iconstv (nI 0) d12_chalkOf_70 rfl ?_
      refine g_iaddN d12_chalkOf_71 ?_
      refine g_istore d12_chalkOf_72 (by decide) ?_
      refine g_iload_n d12_chalkOf_74 rfl ?_
      refine g_iconstv ((-1 : Int32)) d12_chalkOf_75 rfl ?_
      refine g_ic_eq (-1) (-1) 84 (by decide) (by decide) d12_chalkOf_76 rfl (fun _ => ?_) (fun c76 => absurd c76 (by omega))
      refine g_iload d12_chalkOf_84 rfl ?_
      refine g_goto 90 d12_chalkOf_86 rfl ?_
      refine g_istore_n d12_chalkOf_90 (by decide) ?_
      refine g_iincN d12_chalkOf_91 rfl (by decide) ?_
      refine g_goto 8 d12_chalkOf_94 rfl ?_
      refine g_lo [(0, .int (nI (rd))), (1, .int (nI (mv))), (2, .int (nI (lim))), (3, .int (mkI (ck rd mv lim (s + 1)).1)), (4, .int (nI ((ck rd mv lim (s + 1)).2))), (5, .int (nI (s + 1)))] ⟨rfl, rfl, rfl, by rw [hck]; first | rfl | (show some (Value.int (nI s)) = some (Value.int (mkI (s + 1))); rw [mkI_s]), by rw [hck]; rfl, rfl, trivial⟩ ?_
      exact ih (s + 1) (by omega)
    · skip
      have hck : ck rd mv lim (s + 1) = ((ck rd mv lim s).1, (ck rd mv lim s).2) := by show cst rd mv lim s _ = _; unfold cst; simp only [if_neg hmv, if_neg hrd]
      refine g_iload d12_chalkOf_8 rfl ?_
      refine g_bipushv (nI 12) d12_chalkOf_10 rfl ?_
      refine g_ic_ge ((s : Nat) : Int) (12) 97 (nI_ti (by omega)) (by decide) d12_chalkOf_12 rfl (fun c12 => absurd c12 (by omega)) (fun _ => ?_)
      refine g_iload_n d12_chalkOf_15 rfl ?_
      refine g_iload d12_chalkOf_16 rfl ?_
      refine g_ES2 sm12_is ml12_490 (r12_is (mv) (s) (by omega) (by omega) (Nat.le_refl 0)) (by omega) (Nat.le_of_ble_eq_true rfl) d12_chalkOf_18 ?_
      refine g_bz 28 d12_chalkOf_21 rfl (fun _ => ?_) (fun c21 => absurd c21 (by omega))
      refine g_iload_n d12_chalkOf_28 rfl ?_
      refine g_istore_n d12_chalkOf_29 (by decide) ?_
      refine g_iload_n d12_chalkOf_30 rfl ?_
      refine g_iload d12_chalkOf_31 rfl ?_
      refine g_ES2 sm12_is ml12_490 (r12_is (rd) (s) (by omega) (by omega) (Nat.le_refl 0)) (by omega) (Nat.le_of_ble_eq_true rfl) d12_chalkOf_33 ?_
      refine g_bz 91 d12_chalkOf_36 rfl (fun _ => ?_) (fun c36 => absurd c36 (by omega))
      refine g_iincN d12_chalkOf_91 rfl (by decide) ?_
      refine g_goto 8 d12_chalkOf_94 rfl ?_
      refine g_lo [(0, .int (nI (rd))), (1, .int (nI (mv))), (2, .int (nI (lim))), (3, .int (mkI (ck rd mv lim (s + 1)).1)), (4, .int (nI ((ck rd mv lim (s + 1)).2))), (5, .int (nI (s + 1)))] ⟨rfl, rfl, rfl, by rw [hck]; first | rfl | (show some (Value.int (nI s)) = some (Value.int (mkI (s + 1))); rw [mkI_s]), by rw [hck]; rfl, rfl, trivial⟩ ?_
      exact ih (s + 1) (by omega)
    · skip
      have hck : ck rd mv lim (s + 1) = (s + 1, (ck rd mv lim s).2) := by show cst rd mv lim s _ = _; unfold cst; simp only [if_neg hmv, if_pos hrd, if_pos hm0]
      refine g_iload d12_chalkOf_8 rfl ?_
      refine g_bipushv (nI 12) d12_chalkOf_10 rfl ?_
      refine g_ic_ge ((s : Nat) : Int) (12) 97 (nI_ti (by omega)) (by decide) d12_chalkOf_12 rfl (fun c12 => absurd c12 (by omega)) (fun _ => ?_)
      refine g_iload_n d12_chalkOf_15 rfl ?_
      refine g_iload d12_chalkOf_16 rfl ?_
      refine g_ES2 sm12_is ml12_490 (r12_is (mv) (s) (by omega) (by omega) (Nat.le_refl 0)) (by omega) (Nat.le_of_ble_eq_true rfl) d12_chalkOf_18 ?_
      refine g_bz 28 d12_chalkOf_21 rfl (fun _ => ?_) (fun c21 => absurd c21 (by omega))
      refine g_iload_n d12_chalkOf_28 rfl ?_
      refine g_istore_n d12_chalkOf_29 (by decide) ?_
      refine g_iload_n d12_chalkOf_30 rfl ?_
      refine g_iload d12_chalkOf_31 rfl ?_
      refine g_ES2 sm12_is ml12_490 (r12_is (rd) (s) (by omega) (by omega) (Nat.le_refl 0)) (by omega) (Nat.le_of_ble_eq_true rfl) d12_chalkOf_33 ?_
      refine g_bz 91 d12_chalkOf_36 rfl (fun c36 => absurd c36 (by omega)) (fun _ => ?_)
      refine g_iload_n d12_chalkOf_39 rfl ?_
      refine g_iconstv ((-1 : Int32)) d12_chalkOf_40 rfl ?_
      refine g_ic_eq ((((ck rd mv lim s).1 : Nat) : Int) - 1) (-1) 56 (mkI_ti (by omega)) (by decide) d12_chalkOf_41 rfl (fun _ => ?_) (fun c41 => absurd c41 (by omega))
      refine g_iconstv (nI 0) d12_chalkOf_56 rfl ?_
      refine g_istore d12_chalkOf_57 (by decide) ?_
      refine g_iload d12_chalkOf_59 rfl ?_
      refine g_iload d12_chalkOf_61 rfl ?_
      refine g_iz_eq (0) 70 (by decide) d12_chalkOf_63 rfl (fun _ => ?_) (fun c63 => absurd c63 (by decide))
      refine g_iconstv (nI 0) d12_chalkOf_70 rfl ?_
      refine g_iaddN d12_chalkOf_71 ?_
      refine g_istore d12_chalkOf_72 (by decide) ?_
      refine g_iload_n d12_chalkOf_74 rfl ?_
      refine g_iconstv ((-1 : Int32)) d12_chalkOf_75 rfl ?_
      refine g_ic_eq ((((ck rd mv lim s).1 : Nat) : Int) - 1) (-1) 84 (mkI_ti (by omega)) (by decide) d12_chalkOf_76 rfl (fun _ => ?_) (fun c76 => absurd c76 (by omega))
      refine g_iload d12_chalkOf_84 rfl ?_
      refine g_goto 90 d12_chalkOf_86 rfl ?_
      refine g_istore_n d12_chalkOf_90 (by decide) ?_
      refine g_iincN d12_chalkOf_91 rfl (by decide) ?_
      refine g_goto 8 d12_chalkOf_94 rfl ?_
      refine g_lo [(0, .int (nI (rd))), (1, .int (nI (mv))), (2, .int (nI (lim))), (3, .int (mkI (ck rd mv lim (s + 1)).1)), (4, .int (nI ((ck rd mv lim (s + 1)).2))), (5, .int (nI (s + 1)))] ⟨rfl, rfl, rfl, by rw [hck]; first | rfl | (show some (Value.int (nI s)) = some (Value.int (mkI (s + 1))); rw [mkI_s]), by rw [hck]; rfl, rfl, trivial⟩ ?_
      exact ih (s + 1) (by omega)
    · skip
      have hck : ck rd mv lim (s + 1) = (s + 1, (ck rd mv lim s).2 + 1) := by show cst rd mv lim s _ = _; unfold cst; simp only [if_neg hmv, if_pos hrd, if_neg hm0, if_pos hold]
      refine g_iload d12_chalkOf_8 rfl ?_
      refine g_bipushv (nI 12) d12_chalkOf_10 rfl ?_
      refine g_ic_ge ((s : Nat) : Int) (12) 97 (nI_ti (by omega)) (by decide) d12_chalkOf_12 rfl (fun c12 => absurd c12 (by omega)) (fun _ => ?_)
      refine g_iload_n d12_chalkOf_15 rfl ?_
      refine g_iload d12_chalkOf_16 rfl ?_
      refine g_ES2 sm12_is ml12_490 (r12_is (mv) (s) (by omega) (by omega) (Nat.le_refl 0)) (by omega) (Nat.le_of_ble_eq_true rfl) d12_chalkOf_18 ?_
      refine g_bz 28 d12_chalkOf_21 rfl (fun _ => ?_) (fun c21 => absurd c21 (by omega))
      refine g_iload_n d12_chalkOf_28 rfl ?_
      refine g_istore_n d12_chalkOf_29 (by decide) ?_
      refine g_iload_n d12_chalkOf_30 rfl ?_
      refine g_iload d12_chalkOf_31 rfl ?_
      refine g_ES2 sm12_is ml12_490 (r12_is (rd) (s) (by omega) (by omega) (Nat.le_refl 0)) (by omega) (Nat.le_of_ble_eq_true rfl) d12_chalkOf_33 ?_
      refine g_bz 91 d12_chalkOf_36 rfl (fun c36 => absurd c36 (by omega)) (fun _ => ?_)
      refine g_iload_n d12_chalkOf_39 rfl ?_
      refine g_iconstv ((-1 : Int32)) d12_chalkOf_40 rfl ?_
      refine g_ic_eq ((((ck rd mv lim s).1 : Nat) : Int) - 1) (-1) 56 (mkI_ti (by omega)) (by decide) d12_chalkOf_41 rfl (fun c41 => absurd c41 (by omega)) (fun _ => ?_)
      refine g_iload d12_chalkOf_44 rfl ?_
      refine g_iload_n d12_chalkOf_46 rfl ?_
      refine g_topI (nI ((ck rd mv lim s).1 - 1)) (mkI_p (by omega)) ?_
      refine g_isubN (by omega) d12_chalkOf_47 ?_
      refine g_iload_n d12_chalkOf_48 rfl ?_
      refine g_ic_lt (((s - ((ck rd mv lim s).1 - 1)) : Nat) : Int) ((lim : Nat) : Int) 56 (nI_ti (by omega)) (nI_ti (by omega)) d12_chalkOf_49 rfl (fun c49 => absurd c49 (by omega)) (fun _ => ?_)
      refine g_iconstv (nI 1) d12_chalkOf_52 rfl ?_
      refine g_goto 57 d12_chalkOf_53 rfl ?_
      refine g_istore d12_chalkOf_57 (by decide) ?_
      refine g_iload d12_chalkOf_59 rfl ?_
      refine g_iload d12_chalkOf_61 rfl ?_
      refine g_iz_eq (1) 70 (by decide) d12_chalkOf_63 rfl (fun c63 => absurd c63 (by decide)) (fun _ => ?_)
      refine g_iconstv (nI 1) d12_chalkOf_66 rfl ?_
      refine g_goto 71 d12_chalkOf_67 rfl ?_
      refine g_iaddN d12_chalkOf_71 ?_
      refine g_istore d12_chalkOf_72 (by decide) ?_
      refine g_iload_n d12_chalkOf_74 rfl ?_
      refine g_iconstv ((-1 : Int32)) d12_chalkOf_75 rfl ?_
      refine g_ic_eq ((((ck rd mv lim s).1 : Nat) : Int) - 1) (-1) 84 (mkI_ti (by omega)) (by decide) d12_chalkOf_76 rfl (fun c76 => absurd c76 (by omega)) (fun _ => ?_)
      refine g_iload d12_chalkOf_79 rfl ?_
      refine g_iz_eq (1) 89 (by decide) d12_chalkOf_81 rfl (fun c81 => absurd c81 (by omega)) (fun _ => ?_)
      refine g_iload d12_chalkOf_84 rfl ?_
      refine g_goto 90 d12_chalkOf_86 rfl ?_
      refine g_istore_n d12_chalkOf_90 (by decide) ?_
      refine g_iincN d12_chalkOf_91 rfl (by decide) ?_
      refine g_goto 8 d12_chalkOf_94 rfl ?_
      refine g_lo [(0, .int (nI (rd))), (1, .int (nI (mv))), (2, .int (nI (lim))), (3, .int (mkI (ck rd mv lim (s + 1)).1)), (4, .int (nI ((ck rd mv lim (s + 1)).2))), (5, .int (nI (s + 1)))] ⟨rfl, rfl, rfl, by rw [hck]; first | rfl | (show some (Value.int (nI s)) = some (Value.int (mkI (s + 1))); rw [mkI_s]), by rw [hck]; rfl, rfl, trivial⟩ ?_
      exact ih (s + 1) (by omega)
    · skip
      have hck : ck rd mv lim (s + 1) = ((ck rd mv lim s).1, (ck rd mv lim s).2) := by show cst rd mv lim s _ = _; unfold cst; simp only [if_neg hmv, if_pos hrd, if_neg hm0, if_neg hold]
      refine g_iload d12_chalkOf_8 rfl ?_
      refine g_bipushv (nI 12) d12_chalkOf_10 rfl ?_
      refine g_ic_ge ((s : Nat) : Int) (12) 97 (nI_ti (by omega)) (by decide) d12_chalkOf_12 rfl (fun c12 => absurd c12 (by omega)) (fun _ => ?_)
      refine g_iload_n d12_chalkOf_15 rfl ?_
      refine g_iload d12_chalkOf_16 rfl ?_
      refine g_ES2 sm12_is ml12_490 (r12_is (mv) (s) (by omega) (by omega) (Nat.le_refl 0)) (by omega) (Nat.le_of_ble_eq_true rfl) d12_chalkOf_18 ?_
      refine g_bz 28 d12_chalkOf_21 rfl (fun _ => ?_) (fun c21 => absurd c21 (by omega))
      refine g_iload_n d12_chalkOf_28 rfl ?_
      refine g_istore_n d12_chalkOf_29 (by decide) ?_
      refine g_iload_n d12_chalkOf_30 rfl ?_
      refine g_iload d12_chalkOf_31 rfl ?_
      refine g_ES2 sm12_is ml12_490 (r12_is (rd) (s) (by omega) (by omega) (Nat.le_refl 0)) (by omega) (Nat.le_of_ble_eq_true rfl) d12_chalkOf_33 ?_
      refine g_bz 91 d12_chalkOf_36 rfl (fun c36 => absurd c36 (by omega)) (fun _ => ?_)
      refine g_iload_n d12_chalkOf_39 rfl ?_
      refine g_iconstv ((-1 : Int32)) d12_chalkOf_40 rfl ?_
      refine g_ic_eq ((((ck rd mv lim s).1 : Nat) : Int) - 1) (-1) 56 (mkI_ti (by omega)) (by decide) d12_chalkOf_41 rfl (fun c41 => absurd c41 (by omega)) (fun _ => ?_)
      refine g_iload d12_chalkOf_44 rfl ?_
      refine g_iload_n d12_chalkOf_46 rfl ?_
      refine g_topI (nI ((ck rd mv lim s).1 - 1)) (mkI_p (by omega)) ?_
      refine g_isubN (by omega) d12_chalkOf_47 ?_
      refine g_iload_n d12_chalkOf_48 rfl ?_
      refine g_ic_lt (((s - ((ck rd mv lim s).1 - 1)) : Nat) : Int) ((lim : Nat) : Int) 56 (nI_ti (by omega)) (nI_ti (by omega)) d12_chalkOf_49 rfl (fun _ => ?_) (fun c49 => absurd c49 (by omega))
      refine g_iconstv (nI 0) d12_chalkOf_56 rfl ?_
      refine g_istore d12_chalkOf_57 (by decide) ?_
      refine g_iload d12_chalkOf_59 rfl ?_
      refine g_iload d12_chalkOf_61 rfl ?_
      refine g_iz_eq (0) 70 (by decide) d12_chalkOf_63 rfl (fun _ => ?_) (fun c63 => absurd c63 (by decide))
      refine g_iconstv (nI 0) d12_chalkOf_70 rfl ?_
      refine g_iaddN d12_chalkOf_71 ?_
      refine g_istore d12_chalkOf_72 (by decide) ?_
      refine g_iload_n d12_chalkOf_74 rfl ?_
      refine g_iconstv ((-1 : Int32)) d12_chalkOf_75 rfl ?_
      refine g_ic_eq ((((ck rd mv lim s).1 : Nat) : Int) - 1) (-1) 84 (mkI_ti (by omega)) (by decide) d12_chalkOf_76 rfl (fun c76 => absurd c76 (by omega)) (fun _ => ?_)
      refine g_iload d12_chalkOf_79 rfl ?_
      refine g_iz_eq (0) 89 (by decide) d12_chalkOf_81 rfl (fun _ => ?_) (fun c81 => absurd c81 (by omega))
      refine g_iload_n d12_chalkOf_89 rfl ?_
      refine g_istore_n d12_chalkOf_90 (by decide) ?_
      refine g_iincN d12_chalkOf_91 rfl (by decide) ?_
      refine g_goto 8 d12_chalkOf_94 rfl ?_
      refine g_lo [(0, .int (nI (rd))), (1, .int (nI (mv))), (2, .int (nI (lim))), (3, .int (mkI (ck rd mv lim (s + 1)).1)), (4, .int (nI ((ck rd mv lim (s + 1)).2))), (5, .int (nI (s + 1)))] ⟨rfl, rfl, rfl, by rw [hck]; first | rfl | (show some (Value.int (nI s)) = some (Value.int (mkI (s + 1))); rw [mkI_s]), by rw [hck]; rfl, rfl, trivial⟩ ?_
      exact ih (s + 1) (by omega)
set_option maxHeartbeats 200000 in
theorem r12_chalkOf {l : Launch} {K : cK} {d : Nat} {h : cH} (rd mv lim : Nat) (hr : rd < 2147483648) (hv : mv < 2147483648) (hl : lim < 1000) (hd : 1 ≤ d) : CE l K m12_chalkOf d [.int (nI rd), .int (nI mv), .int (nI lim)] h (.int (nI (ck rd mv lim 12).2)) h := by
  refine CC.of ok12_chalkOf (Nat.le_of_ble_eq_true rfl) ?_
  refine g_iconstv ((-1 : Int32)) d12_chalkOf_0 rfl ?_
  refine g_istore_n d12_chalkOf_1 (by decide) ?_
  refine g_iconstv (nI 0) d12_chalkOf_2 rfl ?_
  refine g_istore d12_chalkOf_3 (by decide) ?_
  refine g_iconstv (nI 0) d12_chalkOf_5 rfl ?_
  refine g_istore d12_chalkOf_6 (by decide) ?_
  refine g_lo [(0, .int (nI (rd))), (1, .int (nI (mv))), (2, .int (nI (lim))), (3, .int (mkI (ck rd mv lim 0).1)), (4, .int (nI ((ck rd mv lim 0).2))), (5, .int (nI (0)))] ⟨rfl, rfl, rfl, rfl, rfl, rfl, trivial⟩ ?_
  refine r12_ckL rd mv lim hr hv hl hd ?_ 12 0 (by omega)
  refine g_iload d12_chalkOf_97 rfl ?_
  exact g_iret rfl d12_chalkOf_99 (⟨rfl, rfl⟩)
/-- the fewest moves without a fine: how many, which -/
def cb (rd lim : Nat) : Nat → Nat × Nat
  | 0 => (13, 0)
  | s + 1 => if on12 s 12 < (cb rd lim s).1 ∧ (ck rd s lim 12).2 = 0 then (on12 s 12, s) else cb rd lim s
theorem cb_le (rd lim : Nat) : ∀ s, (cb rd lim s).1 ≤ 13 ∧ (cb rd lim s).2 ≤ s
  | 0 => ⟨Nat.le_refl _, Nat.le_refl _⟩
  | s + 1 => by
    obtain ⟨a, b⟩ := cb_le rd lim s
    show (if _ then _ else _ : Nat × Nat).1 ≤ 13 ∧ (if _ then _ else _ : Nat × Nat).2 ≤ s + 1
    have := on12_le s 12
    split
    · exact ⟨by show on12 s 12 ≤ 13; omega, Nat.le_succ s⟩
    · exact ⟨a, Nat.le_succ_of_le b⟩
set_option maxHeartbeats 200000 in
theorem r12_chalk_no {l : Launch} {K : cK} {d : Nat} {I : wI} {L : wL} {R : wR} {dy : cH} (a b c e : Int32) (hbad : ¬ (0 ≤ a.toInt ∧ a.toInt ≤ 4095 ∧ 0 ≤ b.toInt ∧ b.toInt ≤ 4095 ∧ 1 ≤ c.toInt ∧ c.toInt ≤ 12 ∧ 0 ≤ e.toInt ∧ e.toInt ≤ 2)) (hd : 1 ≤ d) : CE l K m12_chalk d [.ref 74, .int a, .int b, .int c, .int e] (hp I L R dy) (.int (-1)) (hp (uI I 74 0 0) L R dy) := by
  refine CC.of ok12_chalk (Nat.le_of_ble_eq_true rfl) ?_
  refine g_aload_n d12_chalk_0 rfl ?_
  refine g_iconstv (nI 0) d12_chalk_1 rfl ?_
  refine g_putIh _ fl12_128 d12_chalk_2 f_74_0 s_74_0 ?_
  refine g_iload_n d12_chalk_5 rfl ?_
  refine g_i2l d12_chalk_6 ?_
  refine g_lconstv (0) d12_chalk_7 rfl ?_
  refine g_ldc2 d12_chalk_8 kl12_493 ?_
  refine g_ES3 sm12_in ml12_134 (r12_inI (ai := (0)) (bi := (4095)) (i2l_int _) (by decide) (by decide) (Nat.le_refl 0)) (by omega) (Nat.le_of_ble_eq_true rfl) d12_chalk_11 ?_
  refine g_bz 54 d12_chalk_14 rfl (fun c14 => ?_) (fun c14 => ?_)
  · refine g_iconstv ((-1 : Int32)) d12_chalk_54 rfl ?_
    exact g_iret rfl d12_chalk_55 (⟨rfl, rfl⟩)
  · refine g_iload_n d12_chalk_17 rfl ?_
    refine g_i2l d12_chalk_18 ?_
    refine g_lconstv (0) d12_chalk_19 rfl ?_
    refine g_ldc2 d12_chalk_20 kl12_493 ?_
    refine g_ES3 sm12_in ml12_134 (r12_inI (ai := (0)) (bi := (4095)) (i2l_int _) (by decide) (by decide) (Nat.le_refl 0)) (by omega) (Nat.le_of_ble_eq_true rfl) d12_chalk_23 ?_
    refine g_bz 54 d12_chalk_26 rfl (fun c26 => ?_) (fun c26 => ?_)
    · refine g_iconstv ((-1 : Int32)) d12_chalk_54 rfl ?_
      exact g_iret rfl d12_chalk_55 (⟨rfl, rfl⟩)
    · refine g_iload_n d12_chalk_29 rfl ?_
      refine g_i2l d12_chalk_30 ?_
      refine g_lconstv (1) d12_chalk_31 rfl ?_
      refine g_ldc2 d12_chalk_32 kl12_174 ?_
      refine g_ES3 sm12_in ml12_134 (r12_inI (ai := (1)) (bi := (12)) (i2l_int _) (by decide) (by decide) (Nat.le_refl 0)) (by omega) (Nat.le_of_ble_eq_true rfl) d12_chalk_35 ?_
      refine g_bz 54 d12_chalk_38 rfl (fun c38 => ?_) (fun c38 => ?_)
      · refine g_iconstv ((-1 : Int32)) d12_chalk_54 rfl ?_
        exact g_iret rfl d12_chalk_55 (⟨rfl, rfl⟩)
      · refine g_iload d12_chalk_41 rfl ?_
        refine g_i2l d12_chalk_43 ?_
        refine g_lconstv (0) d12_chalk_44 rfl ?_
        refine g_ldc2 d12_chalk_45 kl12_401 ?_
        refine g_ES3 sm12_in ml12_134 (r12_inI (ai := (0)) (bi := (2)) (i2l_int _) (by decide) (by decide) (Nat.le_refl 0)) (by omega) (Nat.le_of_ble_eq_true rfl) d12_chalk_48 ?_
        refine g_bnz 56 d12_chalk_51 rfl (fun c51 => ?_) (fun c51 => ?_)
        · exact absurd ⟨c14.1, c14.2, c26.1, c26.2, c38.1, c38.2, c51.1, c51.2⟩ hbad
        · refine g_iconstv ((-1 : Int32)) d12_chalk_54 rfl ?_
          exact g_iret rfl d12_chalk_55 (⟨rfl, rfl⟩)
set_option maxHeartbeats 400000 in
theorem r12_cbL {l : Launch} {K : cK} {d : Nat} {h : cH} {Q : Option Value → cH → Prop} (rd lim : Nat) (w : Int32) (hr : rd < 4096) (hl : lim ≤ 12) (hd : 2 ≤ d)
    (kk : (4096 ≤ 4096) → GL l K m12_chalk d 0 0 123 [(1, .int (nI (rd))), (3, .int (nI (lim))), (4, .int w), (5, .int (nI ((cb rd lim (4096)).1))), (6, .int (nI ((cb rd lim (4096)).2)))] [] (h) Q) :
    ∀ (n s : Nat) , s + n = 4096 → (s ≤ 4096) → GL l K m12_chalk d 0 0 78 [(1, .int (nI (rd))), (3, .int (nI (lim))), (4, .int w), (5, .int (nI ((cb rd lim (s)).1))), (6, .int (nI ((cb rd lim (s)).2))), (7, .int (nI (s)))] [] (h) Q := by
  intro n
  induction n with
  | zero =>
    intro s  hin hs
    obtain rfl : 4096 = s := by omega
    refine g_iload d12_chalk_78 rfl ?_
    refine g_sipushv (nI 4096) d12_chalk_80 rfl ?_
    refine g_ic_ge ((4096 : Nat) : Int) (4096) 123 (nI_ti (by omega)) (by decide) d12_chalk_83 rfl (fun _ => ?_) (fun c83 => absurd c83 (by decide))
    refine g_lo [(1, .int (nI (rd))), (3, .int (nI (lim))), (4, .int w), (5, .int (nI ((cb rd lim (4096)).1))), (6, .int (nI ((cb rd lim (4096)).2)))] ⟨rfl, rfl, rfl, rfl, rfl, trivial⟩ ?_
    exact kk  hs
  | succ n ih =>
    intro s  hin hs
    obtain ⟨hb1, hb2⟩ := cb_le rd lim s
    have hon := on12_le s 12
    have hc2 := (ck_le rd s lim 12).2
    rcases (by omega : (on12 s 12 < (cb rd lim s).1 ∧ (ck rd s lim 12).2 = 0) ∨ (on12 s 12 < (cb rd lim s).1 ∧ ¬ (ck rd s lim 12).2 = 0) ∨ ¬ on12 s 12 < (cb rd lim s).1) with hh | hh | hh
    · have hcb : cb rd lim (s + 1) = (on12 s 12, s) := if_pos hh
      refine g_iload d12_chalk_78 rfl ?_
      refine g_sipushv (nI 4096) d12_chalk_80 rfl ?_
      refine g_ic_ge ((s : Nat) : Int) (4096) 123 (nI_ti (by omega)) (by decide) d12_chalk_83 rfl (fun c83 => absurd c83 (by omega)) (fun _ => ?_)
      refine g_iload d12_chalk_86 rfl ?_
      refine g_ES1 sm12_ones ml12_498 (r12_ones (s) (by omega) (Nat.le_refl 0)) (by omega) (Nat.le_of_ble_eq_true rfl) d12_chalk_88 ?_
      refine g_iload d12_chalk_91 rfl ?_
      refine g_ic_ge (((on12 s 12) : Nat) : Int) (((cb rd lim (s)).1 : Nat) : Int) 117 (nI_ti (by omega)) (nI_ti (by omega)) d12_chalk_93 rfl (fun c93 => absurd c93 (by omega)) (fun _ => ?_)
      refine g_iload_n d12_chalk_96 rfl ?_
      refine g_iload d12_chalk_97 rfl ?_
      refine g_iload_n d12_chalk_99 rfl ?_
      refine g_ES3 sm12_chalkOf ml12_495 (r12_chalkOf (rd) (s) (lim) (by omega) (by omega) (by omega) (Nat.le_refl 1)) (by omega) (Nat.le_of_ble_eq_true rfl) d12_chalk_100 ?_
      refine g_iz_ne (((ck rd s lim 12).2 : Nat) : Int) 117 (nI_ti (by omega)) d12_chalk_103 rfl (fun c103 => absurd c103 (by omega)) (fun _ => ?_)
      refine g_iload d12_chalk_106 rfl ?_
      refine g_ES1 sm12_ones ml12_498 (r12_ones (s) (by omega) (Nat.le_refl 0)) (by omega) (Nat.le_of_ble_eq_true rfl) d12_chalk_108 ?_
      refine g_istore d12_chalk_111 (by decide) ?_
      refine g_iload d12_chalk_113 rfl ?_
      refine g_istore d12_chalk_115 (by decide) ?_
      refine g_iincN d12_chalk_117 rfl (by decide) ?_
      refine g_goto 78 d12_chalk_120 rfl ?_
      refine g_lo [(1, .int (nI (rd))), (3, .int (nI (lim))), (4, .int w), (5, .int (nI ((cb rd lim (s + 1)).1))), (6, .int (nI ((cb rd lim (s + 1)).2))), (7, .int (nI (s + 1)))] ⟨rfl, rfl, rfl, by rw [hcb]; rfl, by rw [hcb]; rfl, rfl, trivial⟩ ?_
      exact ih (s + 1) (by omega) (by omega)
    · have hcb : cb rd lim (s + 1) = cb rd lim s := if_neg (by omega)
      refine g_iload d12_chalk_78 rfl ?_
      refine g_sipushv (nI 4096) d12_chalk_80 rfl ?_
      refine g_ic_ge ((s : Nat) : Int) (4096) 123 (nI_ti (by omega)) (by decide) d12_chalk_83 rfl (fun c83 => absurd c83 (by omega)) (fun _ => ?_)
      refine g_iload d12_chalk_86 rfl ?_
      refine g_ES1 sm12_ones ml12_498 (r12_ones (s) (by omega) (Nat.le_refl 0)) (by omega) (Nat.le_of_ble_eq_true rfl) d12_chalk_88 ?_
      refine g_iload d12_chalk_91 rfl ?_
      refine g_ic_ge (((on12 s 12) : Nat) : Int) (((cb rd lim (s)).1 : Nat) : Int) 117 (nI_ti (by omega)) (nI_ti (by omega)) d12_chalk_93 rfl (fun c93 => absurd c93 (by omega)) (fun _ => ?_)
      refine g_iload_n d12_chalk_96 rfl ?_
      refine g_iload d12_chalk_97 rfl ?_
      refine g_iload_n d12_chalk_99 rfl ?_
      refine g_ES3 sm12_chalkOf ml12_495 (r12_chalkOf (rd) (s) (lim) (by omega) (by omega) (by omega) (Nat.le_refl 1)) (by omega) (Nat.le_of_ble_eq_true rfl) d12_chalk_100 ?_
      refine g_iz_ne (((ck rd s lim 12).2 : Nat) : Int) 117 (nI_ti (by omega)) d12_chalk_103 rfl (fun _ => ?_) (fun c103 => absurd c103 (by omega))
      refine g_iincN d12_chalk_117 rfl (by decide) ?_
      refine g_goto 78 d12_chalk_120 rfl ?_
      refine g_lo [(1, .int (nI (rd))), (3, .int (nI (lim))), (4, .int w), (5, .int (nI ((cb rd lim (s + 1)).1))), (6, .int (nI ((cb rd lim (s + 1)).2))), (7, .int (nI (s + 1)))] ⟨rfl, rfl, rfl, by rw [hcb]; rfl, by rw [hcb]; rfl, rfl, trivial⟩ ?_
      exact ih (s + 1) (by omega) (by omega)
    · have hcb : cb rd lim (s + 1) = cb rd lim s := if_neg (by omega)
      refine g_iload d12_chalk_78 rfl ?_
      refine g_sipushv (nI 4096) d12_chalk_80 rfl ?_
      refine g_ic_ge ((s : Nat) : Int) (4096) 123 (nI_ti (by omega)) (by decide) d12_chalk_83 rfl (fun c83 => absurd c83 (by omega)) (fun _ => ?_)
      refine g_iload d12_chalk_86 rfl ?_
      refine g_ES1 sm12_ones ml12_498 (r12_ones (s) (by omega) (Nat.le_refl 0)) (by omega) (Nat.le_of_ble_eq_true rfl) d12_chalk_88 ?_
      refine g_iload d12_chalk_91 rfl ?_
      refine g_ic_ge (((on12 s 12) : Nat) : Int) (((cb rd lim (s)).1 : Nat) : Int) 117 (nI_ti (by omega)) (nI_ti (by omega)) d12_chalk_93 rfl (fun _ => ?_) (fun c93 => absurd c93 (by omega))
      refine g_iincN d12_chalk_117 rfl (by decide) ?_
      refine g_goto 78 d12_chalk_120 rfl ?_
      refine g_lo [(1, .int (nI (rd))), (3, .int (nI (lim))), (4, .int w), (5, .int (nI ((cb rd lim (s + 1)).1))), (6, .int (nI ((cb rd lim (s + 1)).2))), (7, .int (nI (s + 1)))] ⟨rfl, rfl, rfl, by rw [hcb]; rfl, by rw [hcb]; rfl, rfl, trivial⟩ ?_
      exact ih (s + 1) (by omega) (by omega)
set_option maxHeartbeats 400000 in
theorem r12_chalk_0 {l : Launch} {K : cK} {d : Nat} {I : wI} {L : wL} {R : wR} {dy : cH} (rd mv lim : Nat) (hr : rd < 4096) (hv : mv < 4096) (hl1 : 1 ≤ lim) (hl : lim ≤ 12) (hd : 2 ≤ d) : CE l K m12_chalk d [.ref 74, .int (nI rd), .int (nI mv), .int (nI lim), .int (nI 0)] (hp I L R dy) (.int (nI (ck rd mv lim 12).2)) (hp (uI I 74 0 0) L R dy) := by
  refine CC.of ok12_chalk (Nat.le_of_ble_eq_true rfl) ?_
  refine g_aload_n d12_chalk_0 rfl ?_
  refine g_iconstv (nI 0) d12_chalk_1 rfl ?_
  refine g_putIh _ fl12_128 d12_chalk_2 f_74_0 s_74_0 ?_
  refine g_iload_n d12_chalk_5 rfl ?_
  refine g_i2lN (by omega) d12_chalk_6 ?_
  refine g_lconstv (0) d12_chalk_7 rfl ?_
  refine g_ldc2 d12_chalk_8 kl12_493 ?_
  refine g_ES3 sm12_in ml12_134 (r12_inI (vi := ((rd : Nat) : Int)) (ai := (0)) (bi := (4095)) (pk_lT (by omega)) (by decide) (by decide) (Nat.le_refl 0)) (by omega) (Nat.le_of_ble_eq_true rfl) d12_chalk_11 ?_
  refine g_bz 54 d12_chalk_14 rfl (fun c14 => absurd c14 (fun q => q (by omega))) (fun _ => ?_)
  refine g_iload_n d12_chalk_17 rfl ?_
  refine g_i2lN (by omega) d12_chalk_18 ?_
  refine g_lconstv (0) d12_chalk_19 rfl ?_
  refine g_ldc2 d12_chalk_20 kl12_493 ?_
  refine g_ES3 sm12_in ml12_134 (r12_inI (vi := ((mv : Nat) : Int)) (ai := (0)) (bi := (4095)) (pk_lT (by omega)) (by decide) (by decide) (Nat.le_refl 0)) (by omega) (Nat.le_of_ble_eq_true rfl) d12_chalk_23 ?_
  refine g_bz 54 d12_chalk_26 rfl (fun c26 => absurd c26 (fun q => q (by omega))) (fun _ => ?_)
  refine g_iload_n d12_chalk_29 rfl ?_
  refine g_i2lN (by omega) d12_chalk_30 ?_
  refine g_lconstv (1) d12_chalk_31 rfl ?_
  refine g_ldc2 d12_chalk_32 kl12_174 ?_
  refine g_ES3 sm12_in ml12_134 (r12_inI (vi := ((lim : Nat) : Int)) (ai := (1)) (bi := (12)) (pk_lT (by omega)) (by decide) (by decide) (Nat.le_refl 0)) (by omega) (Nat.le_of_ble_eq_true rfl) d12_chalk_35 ?_
  refine g_bz 54 d12_chalk_38 rfl (fun c38 => absurd c38 (fun q => q (by omega))) (fun _ => ?_)
  refine g_iload d12_chalk_41 rfl ?_
  refine g_i2lN (by omega) d12_chalk_43 ?_
  refine g_lconstv (0) d12_chalk_44 rfl ?_
  refine g_ldc2 d12_chalk_45 kl12_401 ?_
  refine g_ES3 sm12_in ml12_134 (r12_inI (vi := ((0 : Nat) : Int)) (ai := (0)) (bi := (2)) (pk_lT (by omega)) (by decide) (by decide) (Nat.le_refl 0)) (by omega) (Nat.le_of_ble_eq_true rfl) d12_chalk_48 ?_
  refine g_bnz 56 d12_chalk_51 rfl (fun _ => ?_) (fun c51 => absurd c51 (fun q => q (by omega)))
  refine g_iload d12_chalk_56 rfl ?_
  refine g_iz_ne (0) 68 (by decide) d12_chalk_58 rfl (fun c58 => absurd c58 (by decide)) (fun _ => ?_)
  refine g_iload_n d12_chalk_61 rfl ?_
  refine g_iload_n d12_chalk_62 rfl ?_
  refine g_iload_n d12_chalk_63 rfl ?_
  refine g_ES3 sm12_chalkOf ml12_495 (r12_chalkOf (rd) (mv) (lim) (by omega) (by omega) (by omega) (Nat.le_refl 1)) (by omega) (Nat.le_of_ble_eq_true rfl) d12_chalk_64 ?_
  exact g_iret rfl d12_chalk_67 (⟨rfl, rfl⟩)
set_option maxHeartbeats 400000 in
theorem r12_chalk_1 {l : Launch} {K : cK} {d : Nat} {I : wI} {L : wL} {R : wR} {dy : cH} (rd mv lim : Nat) (hr : rd < 4096) (hv : mv < 4096) (hl1 : 1 ≤ lim) (hl : lim ≤ 12) (hd : 2 ≤ d) : CE l K m12_chalk d [.ref 74, .int (nI rd), .int (nI mv), .int (nI lim), .int (nI 1)] (hp I L R dy) (.int (nI (cb rd lim 4096).1)) (hp (uI I 74 0 0) L R dy) := by
  refine CC.of ok12_chalk (Nat.le_of_ble_eq_true rfl) ?_
  refine g_aload_n d12_chalk_0 rfl ?_
  refine g_iconstv (nI 0) d12_chalk_1 rfl ?_
  refine g_putIh _ fl12_128 d12_chalk_2 f_74_0 s_74_0 ?_
  refine g_iload_n d12_chalk_5 rfl ?_
  refine g_i2lN (by omega) d12_chalk_6 ?_
  refine g_lconstv (0) d12_chalk_7 rfl ?_
  refine g_ldc2 d12_chalk_8 kl12_493 ?_
  refine g_ES3 sm12_in ml12_134 (r12_inI (vi := ((rd : Nat) : Int)) (ai := (0)) (bi := (4095)) (pk_lT (by omega)) (by decide) (by decide) (Nat.le_refl 0)) (by omega) (Nat.le_of_ble_eq_true rfl) d12_chalk_11 ?_
  refine g_bz 54 d12_chalk_14 rfl (fun c14 => absurd c14 (fun q => q (by omega))) (fun _ => ?_)
  refine g_iload_n d12_chalk_17 rfl ?_
  refine g_i2lN (by omega) d12_chalk_18 ?_
  refine g_lconstv (0) d12_chalk_19 rfl ?_
  refine g_ldc2 d12_chalk_20 kl12_493 ?_
  refine g_ES3 sm12_in ml12_134 (r12_inI (vi := ((mv : Nat) : Int)) (ai := (0)) (bi := (4095)) (pk_lT (by omega)) (by decide) (by decide) (Nat.le_refl 0)) (by omega) (Nat.le_of_ble_eq_true rfl) d12_chalk_23 ?_
  refine g_bz 54 d12_chalk_26 rfl (fun c26 => absurd c26 (fun q => q (by omega))) (fun _ => ?_)
  refine g_iload_n d12_chalk_29 rfl ?_
  refine g_i2lN (by omega) d12_chalk_30 ?_
  refine g_lconstv (1) d12_chalk_31 rfl ?_
  refine g_ldc2 d12_chalk_32 kl12_174 ?_
  refine g_ES3 sm12_in ml12_134 (r12_inI (vi := ((lim : Nat) : Int)) (ai := (1)) (bi := (12)) (pk_lT (by omega)) (by decide) (by decide) (Nat.le_refl 0)) (by omega) (Nat.le_of_ble_eq_true rfl) d12_chalk_35 ?_
  refine g_bz 54 d12_chalk_38 rfl (fun c38 => absurd c38 (fun q => q (by omega))) (fun _ => ?_)
  refine g_iload d12_chalk_41 rfl ?_
  refine g_i2lN (by omega) d12_chalk_43 ?_
  refine g_lconstv (0) d12_chalk_44 rfl ?_
  refine g_ldc2 d12_chalk_45 kl12_401 ?_
  refine g_ES3 sm12_in ml12_134 (r12_inI (vi := ((1 : Nat) : Int)) (ai := (0)) (bi := (2)) (pk_lT (by omega)) (by decide) (by decide) (Nat.le_refl 0)) (by omega) (Nat.le_of_ble_eq_true rfl) d12_chalk_48 ?_
  refine g_bnz 56 d12_chalk_51 rfl (fun _ => ?_) (fun c51 => absurd c51 (fun q => q (by omega)))
  refine g_iload d12_chalk_56 rfl ?_
  refine g_iz_ne (1) 68 (by decide) d12_chalk_58 rfl (fun _ => ?_) (fun c58 => absurd c58 (by decide))
  refine g_bipushv (nI 13) d12_chalk_68 rfl ?_
  refine g_istore d12_chalk_70 (by decide) ?_
  refine g_iconstv (nI 0) d12_chalk_72 rfl ?_
  refine g_istore d12_chalk_73 (by decide) ?_
  refine g_iconstv (nI 0) d12_chalk_75 rfl ?_
  refine g_istore d12_chalk_76 (by decide) ?_
  refine g_lo [(1, .int (nI (rd))), (3, .int (nI (lim))), (4, .int (nI 1)), (5, .int (nI ((cb rd lim 0).1))), (6, .int (nI ((cb rd lim 0).2))), (7, .int (nI (0)))] ⟨rfl, rfl, rfl, rfl, rfl, rfl, trivial⟩ ?_
  refine r12_cbL rd lim _ hr hl (by omega) (fun _ => ?_) 4096 0 (by omega) (by omega)
  refine g_iload d12_chalk_123 rfl ?_
  refine g_iconstv (nI 1) d12_chalk_125 rfl ?_
  refine g_ic_ne (1) (1) 134 (by decide) (by decide) d12_chalk_126 rfl (fun c126 => absurd c126 (by decide)) (fun _ => ?_)
  refine g_iload d12_chalk_129 rfl ?_
  refine g_goto 136 d12_chalk_131 rfl ?_
  exact g_iret rfl d12_chalk_136 (⟨rfl, rfl⟩)
set_option maxHeartbeats 400000 in
theorem r12_chalk_2 {l : Launch} {K : cK} {d : Nat} {I : wI} {L : wL} {R : wR} {dy : cH} (rd mv lim : Nat) (hr : rd < 4096) (hv : mv < 4096) (hl1 : 1 ≤ lim) (hl : lim ≤ 12) (hd : 2 ≤ d) : CE l K m12_chalk d [.ref 74, .int (nI rd), .int (nI mv), .int (nI lim), .int (nI 2)] (hp I L R dy) (.int (nI (cb rd lim 4096).2)) (hp (uI I 74 0 0) L R dy) := by
  refine CC.of ok12_chalk (Nat.le_of_ble_eq_true rfl) ?_
  refine g_aload_n d12_chalk_0 rfl ?_
  refine g_iconstv (nI 0) d12_chalk_1 rfl ?_
  refine g_putIh _ fl12_128 d12_chalk_2 f_74_0 s_74_0 ?_
  refine g_iload_n d12_chalk_5 rfl ?_
  refine g_i2lN (by omega) d12_chalk_6 ?_
  refine g_lconstv (0) d12_chalk_7 rfl ?_
  refine g_ldc2 d12_chalk_8 kl12_493 ?_
  refine g_ES3 sm12_in ml12_134 (r12_inI (vi := ((rd : Nat) : Int)) (ai := (0)) (bi := (4095)) (pk_lT (by omega)) (by decide) (by decide) (Nat.le_refl 0)) (by omega) (Nat.le_of_ble_eq_true rfl) d12_chalk_11 ?_
  refine g_bz 54 d12_chalk_14 rfl (fun c14 => absurd c14 (fun q => q (by omega))) (fun _ => ?_)
  refine g_iload_n d12_chalk_17 rfl ?_
  refine g_i2lN (by omega) d12_chalk_18 ?_
  refine g_lconstv (0) d12_chalk_19 rfl ?_
  refine g_ldc2 d12_chalk_20 kl12_493 ?_
  refine g_ES3 sm12_in ml12_134 (r12_inI (vi := ((mv : Nat) : Int)) (ai := (0)) (bi := (4095)) (pk_lT (by omega)) (by decide) (by decide) (Nat.le_refl 0)) (by omega) (Nat.le_of_ble_eq_true rfl) d12_chalk_23 ?_
  refine g_bz 54 d12_chalk_26 rfl (fun c26 => absurd c26 (fun q => q (by omega))) (fun _ => ?_)
  refine g_iload_n d12_chalk_29 rfl ?_
  refine g_i2lN (by omega) d12_chalk_30 ?_
  refine g_lconstv (1) d12_chalk_31 rfl ?_
  refine g_ldc2 d12_chalk_32 kl12_174 ?_
  refine g_ES3 sm12_in ml12_134 (r12_inI (vi := ((lim : Nat) : Int)) (ai := (1)) (bi := (12)) (pk_lT (by omega)) (by decide) (by decide) (Nat.le_refl 0)) (by omega) (Nat.le_of_ble_eq_true rfl) d12_chalk_35 ?_
  refine g_bz 54 d12_chalk_38 rfl (fun c38 => absurd c38 (fun q => q (by omega))) (fun _ => ?_)
  refine g_iload d12_chalk_41 rfl ?_
  refine g_i2lN (by omega) d12_chalk_43 ?_
  refine g_lconstv (0) d12_chalk_44 rfl ?_
  refine g_ldc2 d12_chalk_45 kl12_401 ?_
  refine g_ES3 sm12_in ml12_134 (r12_inI (vi := ((2 : Nat) : Int)) (ai := (0)) (bi := (2)) (pk_lT (by omega)) (by decide) (by decide) (Nat.le_refl 0)) (by omega) (Nat.le_of_ble_eq_true rfl) d12_chalk_48 ?_
  refine g_bnz 56 d12_chalk_51 rfl (fun _ => ?_) (fun c51 => absurd c51 (fun q => q (by omega)))
  refine g_iload d12_chalk_56 rfl ?_
  refine g_iz_ne (2) 68 (by decide) d12_chalk_58 rfl (fun _ => ?_) (fun c58 => absurd c58 (by decide))
  refine g_bipushv (nI 13) d12_chalk_68 rfl ?_
  refine g_istore d12_chalk_70 (by decide) ?_
  refine g_iconstv (nI 0) d12_chalk_72 rfl ?_
  refine g_istore d12_chalk_73 (by decide) ?_
  refine g_iconstv (nI 0) d12_chalk_75 rfl ?_
  refine g_istore d12_chalk_76 (by decide) ?_
  refine g_lo [(1, .int (nI (rd))), (3, .int (nI (lim))), (4, .int (nI 2)), (5, .int (nI ((cb rd lim 0).1))), (6, .int (nI ((cb rd lim 0).2))), (7, .int (nI (0)))] ⟨rfl, rfl, rfl, rfl, rfl, rfl, trivial⟩ ?_
  refine r12_cbL rd lim _ hr hl (by omega) (fun _ => ?_) 4096 0 (by omega) (by omega)
  refine g_iload d12_chalk_123 rfl ?_
  refine g_iconstv (nI 1) d12_chalk_125 rfl ?_
  refine g_ic_ne (2) (1) 134 (by decide) (by decide) d12_chalk_126 rfl (fun _ => ?_) (fun c126 => absurd c126 (by decide))
  refine g_iload d12_chalk_134 rfl ?_
  exact g_iret rfl d12_chalk_136 (⟨rfl, rfl⟩)
