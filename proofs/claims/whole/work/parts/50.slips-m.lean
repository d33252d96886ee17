/-- the slips -/
def SLP (I : wI) (n : Nat) (ss sc : Nat → Nat) : Prop := I 76 4 = nI n ∧ n ≤ 12 ∧ ∀ k, k < n → I 76 (50 + 2 * k) = nI (ss k) ∧ ss k < 12 ∧ I 76 (50 + 2 * k + 1) = nI (sc k) ∧ sc k ≤ 1
theorem SLP.of {I I2 : wI} {n : Nat} {ss sc : Nat → Nat} (h : I2 76 = I 76) (hC : SLP I n ss sc) : SLP I2 n ss sc := by unfold SLP; rw [h]; exact hC
/-- what a slip says of a slot: 0 nothing, 1 he did not come, 2 he came -/
def sO (ss sc : Nat → Nat) (slot : Nat) : Nat → Nat → Nat
  | 0, _ => 0
  | m + 1, k => if ss k = slot then sc k + 1 else sO ss sc slot m (k + 1)
theorem sO_le {ss sc : Nat → Nat} {slot n : Nat} (h : ∀ k, k < n → sc k ≤ 1) : ∀ m k, k + m ≤ n → sO ss sc slot m k ≤ 2
  | 0, _, _ => Nat.zero_le _
  | m + 1, k, hk => by
    have := h k (by omega)
    by_cases e : ss k = slot
    · rw [show sO ss sc slot (m + 1) k = sc k + 1 from if_pos e]; omega
    · rw [show sO ss sc slot (m + 1) k = sO ss sc slot m (k + 1) from if_neg e]; exact sO_le h m (k + 1) (by omega)
def sq (u v : Bool) (cm P : Nat → Nat) : Nat → Nat → Nat
  | 0, _ => 0
  | k + 1, j => sq u v cm P k j + (if j = 1 ∧ u = true then P (k + 1) / 10 * cm (k + 1) else 0) + (if j = lat (k + 1) ∧ v = true then P (k + 1) / 10 * (10 - cm (k + 1)) else 0)
def pq (u v : Nat → Bool) (cm : Nat → Nat → Nat) (s0 : Nat) : Nat → Nat → Nat
  | 0, k => if k = s0 then 1000000000000 else 0
  | s + 1, j => sq (u s) (v s) (cm s) (pq u v cm s0 s) 12 j
theorem sq_sum (u v : Bool) (cm P : Nat → Nat) (hc : ∀ k, cm k ≤ 10) : ∀ k, k ≤ 12 → sm (sq u v cm P k) 12 ≤ sm P k
  | 0, _ => by rw [show sq u v cm P 0 = fun _ => 0 from rfl, sm_zero]; exact Nat.le_refl _
  | k + 1, hk => by
    have ih := sq_sum u v cm P hc k (by omega)
    have e : sq u v cm P (k + 1) = fun j => (sq u v cm P k j + (if j = 1 then (if u = true then P (k + 1) / 10 * cm (k + 1) else 0) else 0)) + (if j = lat (k + 1) then (if v = true then P (k + 1) / 10 * (10 - cm (k + 1)) else 0) else 0) := by
      funext j
      show sq u v cm P k j + (if j = 1 ∧ u = true then _ else _) + (if j = lat (k + 1) ∧ v = true then _ else _) = _
      congr 1
      · congr 1
        by_cases a : j = 1 <;> by_cases b : u = true <;> simp [a, b]
      · by_cases a : j = lat (k + 1) <;> by_cases b : v = true <;> simp [a, b]
    rw [e, sm_add, sm_add, sm_one, sm_one]
    have a1 := hc (k + 1)
    have a2 : P (k + 1) / 10 * cm (k + 1) + P (k + 1) / 10 * (10 - cm (k + 1)) = P (k + 1) / 10 * 10 := by rw [← Nat.mul_add]; congr 1; omega
    have a3 := Nat.div_mul_le_self (P (k + 1)) 10
    show _ ≤ sm P k + P (k + 1)
    have b1 : (if u = true then P (k + 1) / 10 * cm (k + 1) else 0) ≤ P (k + 1) / 10 * cm (k + 1) := by split; exact Nat.le_refl _; exact Nat.zero_le _
    have b2 : (if v = true then P (k + 1) / 10 * (10 - cm (k + 1)) else 0) ≤ P (k + 1) / 10 * (10 - cm (k + 1)) := by split; exact Nat.le_refl _; exact Nat.zero_le _
    generalize (if u = true then P (k + 1) / 10 * cm (k + 1) else 0) = x at *
    generalize (if v = true then P (k + 1) / 10 * (10 - cm (k + 1)) else 0) = y at *
    split <;> split <;> omega
theorem pq_sum (u v : Nat → Bool) (cm : Nat → Nat → Nat) (s0 : Nat) (hc : ∀ s k, cm s k ≤ 10) : ∀ s, sm (pq u v cm s0 s) 12 ≤ 1000000000000
  | 0 => by
    show sm (fun k => if k = s0 then 1000000000000 else 0) 12 ≤ _
    rw [sm_one]; split <;> omega
  | s + 1 => Nat.le_trans (sq_sum (u s) (v s) (cm s) (pq u v cm s0 s) (hc s) 12 (Nat.le_refl _)) (pq_sum u v cm s0 hc s)
theorem pq_le (u v : Nat → Bool) (cm : Nat → Nat → Nat) (s0 : Nat) (hc : ∀ s k, cm s k ≤ 10) {s k : Nat} (h1 : 1 ≤ k) (h2 : k ≤ 12) : pq u v cm s0 s k ≤ 1000000000000 := Nat.le_trans (sm_le_at _ h1 h2) (pq_sum u v cm s0 hc s)
set_option maxHeartbeats 400000 in
theorem r12_soL {l : Launch} {K : cK} {d : Nat} {I : wI} {L : wL} {R : wR} {dy : cH} (n : Nat) (ss sc : Nat → Nat) (hSL : SLP I n ss sc) (slot : Nat) (hs : slot < 2147483648) :
    ∀ (m k : Nat), k + m = n → GL l K m12_slipOf d 0 0 2 [(0, .ref 74), (1, .int (nI slot)), (2, .int (nI k))] [] (hp I L R dy) (fun r h => r = some (.int (mkI (sO ss sc slot m k))) ∧ h = hp I L R dy) := by
  obtain ⟨hn, hn12, hq⟩ := id hSL
  intro m
  induction m with
  | zero =>
    intro k hk
    obtain rfl : n = k := by omega
    refine g_iload_n d12_slipOf_2 rfl ?_
    refine g_aload_n d12_slipOf_3 rfl ?_
    refine g_get fl12_13 d12_slipOf_4 f_74_3 ?_
    refine g_iconstv (nI 4) d12_slipOf_7 rfl ?_
    refine g_ialdN (4) d12_slipOf_8 a_76 (rfl) (by omega) (by decide) ?_
    refine g_topI (nI (n)) (hn) ?_
    refine g_ic_ge ((n : Nat) : Int) ((n : Nat) : Int) 47 (nI_ti (by omega)) (nI_ti (by omega)) d12_slipOf_9 rfl (fun _ => ?_) (fun c9 => absurd c9 (by omega))
    refine g_iconstv ((-1 : Int32)) d12_slipOf_47 rfl ?_
    exact g_iret rfl d12_slipOf_48 (⟨rfl, rfl⟩)
  | succ m ih =>
    intro k hk
    obtain ⟨a1, a2, a3, a4⟩ := hq k (by omega)
    by_cases e : ss k = slot
    · have he : sO ss sc slot (m + 1) k = sc k + 1 := if_pos e
      refine g_iload_n d12_slipOf_2 rfl ?_
      refine g_aload_n d12_slipOf_3 rfl ?_
      refine g_get fl12_13 d12_slipOf_4 f_74_3 ?_
      refine g_iconstv (nI 4) d12_slipOf_7 rfl ?_
      refine g_ialdN (4) d12_slipOf_8 a_76 (rfl) (by omega) (by decide) ?_
      refine g_topI (nI (n)) (hn) ?_
      refine g_ic_ge ((k : Nat) : Int) ((n : Nat) : Int) 47 (nI_ti (by omega)) (nI_ti (by omega)) d12_slipOf_9 rfl (fun c9 => absurd c9 (by omega)) (fun _ => ?_)
      refine g_aload_n d12_slipOf_12 rfl ?_
      refine g_get fl12_13 d12_slipOf_13 f_74_3 ?_
      refine g_bipushv (nI 50) d12_slipOf_16 rfl ?_
      refine g_iconstv (nI 2) d12_slipOf_18 rfl ?_
      refine g_iload_n d12_slipOf_19 rfl ?_
      refine g_imulN d12_slipOf_20 ?_
      refine g_iaddN d12_slipOf_21 ?_
      refine g_ialdN ((50 + (2 * k))) d12_slipOf_22 a_76 (rfl) (by omega) (by decide) ?_
      refine g_topI (nI (ss k)) (a1) ?_
      refine g_iload_n d12_slipOf_23 rfl ?_
      refine g_ic_ne ((ss k : Nat) : Int) ((slot : Nat) : Int) 41 (nI_ti (by omega)) (nI_ti (by omega)) d12_slipOf_24 rfl (fun c24 => absurd c24 (by omega)) (fun _ => ?_)
      refine g_aload_n d12_slipOf_27 rfl ?_
      refine g_get fl12_13 d12_slipOf_28 f_74_3 ?_
      refine g_bipushv (nI 50) d12_slipOf_31 rfl ?_
      refine g_iconstv (nI 2) d12_slipOf_33 rfl ?_
      refine g_iload_n d12_slipOf_34 rfl ?_
      refine g_imulN d12_slipOf_35 ?_
      refine g_iaddN d12_slipOf_36 ?_
      refine g_iconstv (nI 1) d12_slipOf_37 rfl ?_
      refine g_iaddN d12_slipOf_38 ?_
      refine g_ialdN (((50 + (2 * k)) + 1)) d12_slipOf_39 a_76 (rfl) (by omega) (by decide) ?_
      refine g_topI (nI (sc k)) (a3) ?_
      exact g_iret rfl d12_slipOf_40 (⟨by rw [he, mkI_s], rfl⟩)
    · have he : sO ss sc slot (m + 1) k = sO ss sc slot m (k + 1) := if_neg e
      rw [he]
      refine g_iload_n d12_slipOf_2 rfl ?_
      refine g_aload_n d12_slipOf_3 rfl ?_
      refine g_get fl12_13 d12_slipOf_4 f_74_3 ?_
      refine g_iconstv (nI 4) d12_slipOf_7 rfl ?_
      refine g_ialdN (4) d12_slipOf_8 a_76 (rfl) (by omega) (by decide) ?_
      refine g_topI (nI (n)) (hn) ?_
      refine g_ic_ge ((k : Nat) : Int) ((n : Nat) : Int) 47 (nI_ti (by omega)) (nI_ti (by omega)) d12_slipOf_9 rfl (fun c9 => absurd c9 (by omega)) (fun _ => ?_)
      refine g_aload_n d12_slipOf_12 rfl ?_
      refine g_get fl12_13 d12_slipOf_13 f_74_3 ?_
      refine g_bipushv (nI 50) d12_slipOf_16 rfl ?_
      refine g_iconstv (nI 2) d12_slipOf_18 rfl ?_
      refine g_iload_n d12_slipOf_19 rfl ?_
      refine g_imulN d12_slipOf_20 ?_
      refine g_iaddN d12_slipOf_21 ?_
      refine g_ialdN ((50 + (2 * k))) d12_slipOf_22 a_76 (rfl) (by omega) (by decide) ?_
      refine g_topI (nI (ss k)) (a1) ?_
      refine g_iload_n d12_slipOf_23 rfl ?_
      refine g_ic_ne ((ss k : Nat) : Int) ((slot : Nat) : Int) 41 (nI_ti (by omega)) (nI_ti (by omega)) d12_slipOf_24 rfl (fun _ => ?_) (fun c24 => absurd c24 (by omega))
      refine g_iincN d12_slipOf_41 rfl (by decide) ?_
      refine g_goto 2 d12_slipOf_44 rfl ?_
      refine g_lo [(0, .ref 74), (1, .int (nI (slot))), (2, .int (nI (k + 1)))] ⟨rfl, rfl, rfl, trivial⟩ ?_
      exact ih (k + 1) (by omega)
set_option maxHeartbeats 200000 in
theorem r12_slipOf {l : Launch} {K : cK} {d : Nat} {I : wI} {L : wL} {R : wR} {dy : cH} (n : Nat) (ss sc : Nat → Nat) (hSL : SLP I n ss sc) (slot : Nat) (hs : slot < 2147483648) (hd : 0 ≤ d) : CE l K m12_slipOf d [.ref 74, .int (nI slot)] (hp I L R dy) (.int (mkI (sO ss sc slot n 0))) (hp I L R dy) := by
  refine CC.of ok12_slipOf (Nat.le_of_ble_eq_true rfl) ?_
  refine g_iconstv (nI 0) d12_slipOf_0 rfl ?_
  refine g_istore_n d12_slipOf_1 (by decide) ?_
  refine g_lo [(0, .ref 74), (1, .int (nI (slot))), (2, .int (nI (0)))] ⟨rfl, rfl, rfl, trivial⟩ ?_
  exact r12_soL n ss sc hSL slot hs n 0 (by omega)
set_option maxHeartbeats 200000 in
theorem r12_slip_no1 {l : Launch} {K : cK} {d : Nat} {I : wI} {L : wL} {R : wR} {dy : cH} (x w : Int32) (hbad : ¬ ((0 ≤ x.toInt ∧ x.toInt < 12) ∧ 0 ≤ w.toInt ∧ w.toInt ≤ 1)) (hd : 2 ≤ d) : CE l K m12_slip d [.ref 74, .int x, .int w] (hp I L R dy) (.int (-1)) (hp (uI (uI (uI I 74 0 0) 74 1 (-1)) 75 1 (I 75 1 + 1)) L R dy) := by
  refine CC.of ok12_slip (Nat.le_of_ble_eq_true rfl) ?_
  refine g_aload_n d12_slip_0 rfl ?_
  refine g_iconstv (nI 0) d12_slip_1 rfl ?_
  refine g_putIh _ fl12_128 d12_slip_2 f_74_0 s_74_0 ?_
  refine g_iload_n d12_slip_5 rfl ?_
  refine g_ES1 sm12_isSlot ml12_144 (r12_isSlotI  (rfl) (Nat.le_refl 1)) (by omega) (Nat.le_of_ble_eq_true rfl) d12_slip_6 ?_
  refine g_bz 22 d12_slip_9 rfl (fun c9 => ?_) (fun c9 => ?_)
  · refine g_aload_n d12_slip_22 rfl ?_
    refine g_iconstv ((-1 : Int32)) d12_slip_23 rfl ?_
    refine g_EV1 vm12_tell ml12_138 c_74 (r12_tell_no 1 (by decide) (by decide) (by decide) (by decide) (Nat.le_refl 0)) (by omega) (Nat.le_of_ble_eq_true rfl) d12_slip_24 ?_
    exact g_iret rfl d12_slip_27 (⟨rfl, rfl⟩)
  · refine g_iload_n d12_slip_12 rfl ?_
    refine g_i2l d12_slip_13 ?_
    refine g_lconstv (0) d12_slip_14 rfl ?_
    refine g_lconstv (1) d12_slip_15 rfl ?_
    refine g_ES3 sm12_in ml12_134 (r12_inI (ai := (0)) (bi := (1)) (i2l_int _) (by decide) (by decide) (Nat.le_refl 0)) (by omega) (Nat.le_of_ble_eq_true rfl) d12_slip_16 ?_
    refine g_bnz 28 d12_slip_19 rfl (fun c19 => ?_) (fun c19 => ?_)
    · exact absurd ⟨by omega, by omega⟩ hbad
    · refine g_aload_n d12_slip_22 rfl ?_
      refine g_iconstv ((-1 : Int32)) d12_slip_23 rfl ?_
      refine g_EV1 vm12_tell ml12_138 c_74 (r12_tell_no 1 (by decide) (by decide) (by decide) (by decide) (Nat.le_refl 0)) (by omega) (Nat.le_of_ble_eq_true rfl) d12_slip_24 ?_
      exact g_iret rfl d12_slip_27 (⟨rfl, rfl⟩)
set_option maxHeartbeats 200000 in
theorem r12_slip_no3 {l : Launch} {K : cK} {d : Nat} {I : wI} {L : wL} {R : wR} {dy : cH} (n : Nat) (ss sc : Nat → Nat) (hSL : SLP I n ss sc) (slot ca : Nat) (hs : slot < 12) (hc : ca ≤ 1) (hb3 : sO ss sc slot n 0 ≠ 0) (hd : 2 ≤ d) : CE l K m12_slip d [.ref 74, .int (nI slot), .int (nI ca)] (hp I L R dy) (.int (-3)) (hp (uI (uI (uI I 74 0 0) 74 1 (-3)) 75 3 (I 75 3 + 1)) L R dy) := by
  have hb := sO_le (ss := ss) (slot := slot) (fun k hk => (hSL.2.2 k hk).2.2.2) n 0 (by omega)
  obtain ⟨hn, hn12, hq⟩ := id hSL
  refine CC.of ok12_slip (Nat.le_of_ble_eq_true rfl) ?_
  refine g_aload_n d12_slip_0 rfl ?_
  refine g_iconstv (nI 0) d12_slip_1 rfl ?_
  refine g_putIh _ fl12_128 d12_slip_2 f_74_0 s_74_0 ?_
  refine g_iload_n d12_slip_5 rfl ?_
  refine g_ES1 sm12_isSlot ml12_144 (r12_isSlotI (xi := ((slot : Nat) : Int)) (nI_ti (by omega)) (Nat.le_refl 1)) (by omega) (Nat.le_of_ble_eq_true rfl) d12_slip_6 ?_
  refine g_bz 22 d12_slip_9 rfl (fun c9 => absurd c9 (fun q => q (by omega))) (fun _ => ?_)
  refine g_iload_n d12_slip_12 rfl ?_
  refine g_i2lN (by omega) d12_slip_13 ?_
  refine g_lconstv (0) d12_slip_14 rfl ?_
  refine g_lconstv (1) d12_slip_15 rfl ?_
  refine g_ES3 sm12_in ml12_134 (r12_inI (vi := ((ca : Nat) : Int)) (ai := (0)) (bi := (1)) (pk_lT (by omega)) (by decide) (by decide) (Nat.le_refl 0)) (by omega) (Nat.le_of_ble_eq_true rfl) d12_slip_16 ?_
  refine g_bnz 28 d12_slip_19 rfl (fun _ => ?_) (fun c19 => absurd c19 (fun q => q (by omega)))
  refine g_aload_n d12_slip_28 rfl ?_
  refine g_iload_n d12_slip_29 rfl ?_
  refine g_EV1 vm12_slipOf ml12_536 c_74 (r12_slipOf (I := uI I 74 0 0) n ss sc (by exact hSL) slot (by omega) (Nat.le_refl 0)) (by omega) (Nat.le_of_ble_eq_true rfl) d12_slip_30 ?_
  refine g_iconstv ((-1 : Int32)) d12_slip_33 rfl ?_
  refine g_ic_eq (((sO ss sc slot n 0 : Nat) : Int) - 1) (-1) 44 (mkI_ti (by omega)) (by decide) d12_slip_34 rfl (fun c34 => absurd c34 (by omega)) (fun _ => ?_)
  refine g_aload_n d12_slip_37 rfl ?_
  refine g_bipushv ((-3 : Int32)) d12_slip_38 rfl ?_
  refine g_EV1 vm12_tell ml12_138 c_74 (r12_tell_no 3 (by decide) (by decide) (by decide) (by decide) (Nat.le_refl 0)) (by omega) (Nat.le_of_ble_eq_true rfl) d12_slip_40 ?_
  exact g_iret rfl d12_slip_43 (⟨rfl, rfl⟩)
set_option maxHeartbeats 200000 in
theorem r12_slip_ok {l : Launch} {K : cK} {d : Nat} {I : wI} {L : wL} {R : wR} {dy : cH} (n : Nat) (ss sc : Nat → Nat) (hSL : SLP I n ss sc) (slot ca : Nat) (hs : slot < 12) (hc : ca ≤ 1) (hb3 : sO ss sc slot n 0 = 0) (hd : 2 ≤ d) : CE l K m12_slip d [.ref 74, .int (nI slot), .int (nI ca)] (hp I L R dy) (.int (nI (n + 1))) (hp (uI (uI (uI (uI (uI I 74 0 0) 76 (50 + 2 * n) (nI slot)) 76 (50 + 2 * n + 1) (nI ca)) 76 4 (nI (n + 1))) 74 1 0) L R dy) := by
  have hb := sO_le (ss := ss) (slot := slot) (fun k hk => (hSL.2.2 k hk).2.2.2) n 0 (by omega)
  obtain ⟨hn, hn12, hq⟩ := id hSL
  refine CC.of ok12_slip (Nat.le_of_ble_eq_true rfl) ?_
  refine g_aload_n d12_slip_0 rfl ?_
  refine g_iconstv (nI 0) d12_slip_1 rfl ?_
  refine g_putIh _ fl12_128 d12_slip_2 f_74_0 s_74_0 ?_
  refine g_iload_n d12_slip_5 rfl ?_
  refine g_ES1 sm12_isSlot ml12_144 (r12_isSlotI (xi := ((slot : Nat) : Int)) (nI_ti (by omega)) (Nat.le_refl 1)) (by omega) (Nat.le_of_ble_eq_true rfl) d12_slip_6 ?_
  refine g_bz 22 d12_slip_9 rfl (fun c9 => absurd c9 (fun q => q (by omega))) (fun _ => ?_)
  refine g_iload_n d12_slip_12 rfl ?_
  refine g_i2lN (by omega) d12_slip_13 ?_
  refine g_lconstv (0) d12_slip_14 rfl ?_
  refine g_lconstv (1) d12_slip_15 rfl ?_
  refine g_ES3 sm12_in ml12_134 (r12_inI (vi := ((ca : Nat) : Int)) (ai := (0)) (bi := (1)) (pk_lT (by omega)) (by decide) (by decide) (Nat.le_refl 0)) (by omega) (Nat.le_of_ble_eq_true rfl) d12_slip_16 ?_
  refine g_bnz 28 d12_slip_19 rfl (fun _ => ?_) (fun c19 => absurd c19 (fun q => q (by omega)))
  refine g_aload_n d12_slip_28 rfl ?_
  refine g_iload_n d12_slip_29 rfl ?_
  refine g_EV1 vm12_slipOf ml12_536 c_74 (r12_slipOf (I := uI I 74 0 0) n ss sc (by exact hSL) slot (by omega) (Nat.le_refl 0)) (by omega) (Nat.le_of_ble_eq_true rfl) d12_slip_30 ?_
  refine g_iconstv ((-1 : Int32)) d12_slip_33 rfl ?_
  refine g_ic_eq (((sO ss sc slot n 0 : Nat) : Int) - 1) (-1) 44 (mkI_ti (by omega)) (by decide) d12_slip_34 rfl (fun _ => ?_) (fun c34 => absurd c34 (by omega))
  refine g_aload_n d12_slip_44 rfl ?_
  refine g_get fl12_13 d12_slip_45 f_74_3 ?_
  refine g_iconstv (nI 4) d12_slip_48 rfl ?_
  refine g_ialdN (4) d12_slip_49 a_76 (rfl) (by omega) (by decide) ?_
  refine g_topI (nI (n)) (hn) ?_
  refine g_istore_n d12_slip_50 (by decide) ?_
  refine g_aload_n d12_slip_51 rfl ?_
  refine g_get fl12_13 d12_slip_52 f_74_3 ?_
  refine g_bipushv (nI 50) d12_slip_55 rfl ?_
  refine g_iconstv (nI 2) d12_slip_57 rfl ?_
  refine g_iload_n d12_slip_58 rfl ?_
  refine g_imulN d12_slip_59 ?_
  refine g_iaddN d12_slip_60 ?_
  refine g_iload_n d12_slip_61 rfl ?_
  refine g_iastN ((50 + (2 * n))) _ d12_slip_62 a_76 (rfl) (by omega) (by decide) t_76 ?_
  refine g_aload_n d12_slip_63 rfl ?_
  refine g_get fl12_13 d12_slip_64 f_74_3 ?_
  refine g_bipushv (nI 50) d12_slip_67 rfl ?_
  refine g_iconstv (nI 2) d12_slip_69 rfl ?_
  refine g_iload_n d12_slip_70 rfl ?_
  refine g_imulN d12_slip_71 ?_
  refine g_iaddN d12_slip_72 ?_
  refine g_iconstv (nI 1) d12_slip_73 rfl ?_
  refine g_iaddN d12_slip_74 ?_
  refine g_iload_n d12_slip_75 rfl ?_
  refine g_iastN (((50 + (2 * n)) + 1)) _ d12_slip_76 a_76 (rfl) (by omega) (by decide) t_76 ?_
  refine g_aload_n d12_slip_77 rfl ?_
  refine g_get fl12_13 d12_slip_78 f_74_3 ?_
  refine g_iconstv (nI 4) d12_slip_81 rfl ?_
  refine g_dup2 d12_slip_82 rfl rfl ?_
  refine g_ialdN (4) d12_slip_83 a_76 (rfl) (by omega) (by decide) ?_
  refine g_topI (nI (n)) (by rw [uI_sn (by omega), uI_sn (by omega)]; exact hn) ?_
  refine g_iconstv (nI 1) d12_slip_84 rfl ?_
  refine g_iaddN d12_slip_85 ?_
  refine g_iastN (4) _ d12_slip_86 a_76 (rfl) (by omega) (by decide) t_76 ?_
  refine g_aload_n d12_slip_87 rfl ?_
  refine g_iload_n d12_slip_88 rfl ?_
  refine g_iconstv (nI 1) d12_slip_89 rfl ?_
  refine g_iaddN d12_slip_90 ?_
  refine g_EV1 vm12_tell ml12_138 c_74 (r12_tell_ok (by rw [nI_ti (by omega)]; omega) (Nat.le_refl 0)) (by omega) (Nat.le_of_ble_eq_true rfl) d12_slip_91 ?_
  exact g_iret rfl d12_slip_94 (⟨rfl, rfl⟩)
set_option maxHeartbeats 400000 in
theorem r12_fb0 {l : Launch} {K : cK} {d : Nat} {I : wI} {L : wL} {R : wR} {dy : cH} {Q : Option Value → cH → Prop} (s0 : Nat) (h10 : I 76 10 = nI s0) (hs2 : s0 ≤ 12) (x : Int32) (hd : 1 ≤ d)
    (kk : ∀ (L3 : wL), (∀ q, q ≠ 99 → L3 q = L q) → (∀ q, q < 13 → L3 99 q = lN (if q = s0 then 1000000000000 else 0)) → GL l K m12_fitsBy d 0 0 36 [(0, .ref 74), (1, .int x)] [] (hp I L3 R dy) Q) :
    ∀ (zn k : Nat) (L2 : wL), k + zn = 13 → (∀ q, q ≠ 99 → L2 q = L q) → (∀ q, q < k → L2 99 q = lN (if q = s0 then 1000000000000 else 0)) → GL l K m12_fitsBy d 0 0 2 [(0, .ref 74), (1, .int x), (2, .int (nI (k)))] [] (hp I L2 R dy) Q := by
  intro zn
  induction zn with
  | zero =>
    intro k L2 hin hL hz
    obtain rfl : 13 = k := by omega
    refine g_iload_n d12_fitsBy_2 rfl ?_
    refine g_bipushv (nI 13) d12_fitsBy_3 rfl ?_
    refine g_ic_ge ((13 : Nat) : Int) (13) 36 (nI_ti (by omega)) (by decide) d12_fitsBy_5 rfl (fun _ => ?_) (fun c5 => absurd c5 (by decide))
    refine g_lo [(0, .ref 74), (1, .int x)] ⟨rfl, rfl, trivial⟩ ?_
    exact kk L2 hL hz
  | succ zn ih =>
    intro k L2 hin hL hz
    by_cases hc : k = s0
    · skip
      refine g_iload_n d12_fitsBy_2 rfl ?_
      refine g_bipushv (nI 13) d12_fitsBy_3 rfl ?_
      refine g_ic_ge ((k : Nat) : Int) (13) 36 (nI_ti (by omega)) (by decide) d12_fitsBy_5 rfl (fun c5 => absurd c5 (by omega)) (fun _ => ?_)
      refine g_aload_n d12_fitsBy_8 rfl ?_
      refine g_get fl12_110 d12_fitsBy_9 f_74_49 ?_
      refine g_iload_n d12_fitsBy_12 rfl ?_
      refine g_iload_n d12_fitsBy_13 rfl ?_
      refine g_aload_n d12_fitsBy_14 rfl ?_
      refine g_iconstv (nI 4) d12_fitsBy_15 rfl ?_
      refine g_EV1 vm12_term ml12_378 c_74 (r12_term (4) (by omega) (Nat.le_refl 0)) (by omega) (Nat.le_of_ble_eq_true rfl) d12_fitsBy_16 ?_
      refine g_topI (nI (s0)) (h10) ?_
      refine g_ic_ne ((k : Nat) : Int) ((s0 : Nat) : Int) 28 (nI_ti (by omega)) (nI_ti (by omega)) d12_fitsBy_19 rfl (fun c19 => absurd c19 (by omega)) (fun _ => ?_)
      refine g_ldc2 d12_fitsBy_22 kl12_416 ?_
      refine g_goto 29 d12_fitsBy_25 rfl ?_
      refine g_lastN (k) _ d12_fitsBy_29 a_99 (rfl) (by omega) (by decide) t_99 ?_
      refine g_iincN d12_fitsBy_30 rfl (by decide) ?_
      refine g_goto 2 d12_fitsBy_33 rfl ?_
      refine g_lo [(0, .ref 74), (1, .int x), (2, .int (nI (k + 1)))] ⟨rfl, rfl, rfl, trivial⟩ ?_
      refine ih (k + 1) _ (by omega) (fun q hq => (uL_n hq).trans (hL q hq)) (fun q hq => ?_)
      by_cases e : q = k
      · subst e; rw [uL_ss]; rw [if_pos hc]; rfl
      · rw [uL_sn e]; exact hz q (by omega)
    · skip
      refine g_iload_n d12_fitsBy_2 rfl ?_
      refine g_bipushv (nI 13) d12_fitsBy_3 rfl ?_
      refine g_ic_ge ((k : Nat) : Int) (13) 36 (nI_ti (by omega)) (by decide) d12_fitsBy_5 rfl (fun c5 => absurd c5 (by omega)) (fun _ => ?_)
      refine g_aload_n d12_fitsBy_8 rfl ?_
      refine g_get fl12_110 d12_fitsBy_9 f_74_49 ?_
      refine g_iload_n d12_fitsBy_12 rfl ?_
      refine g_iload_n d12_fitsBy_13 rfl ?_
      refine g_aload_n d12_fitsBy_14 rfl ?_
      refine g_iconstv (nI 4) d12_fitsBy_15 rfl ?_
      refine g_EV1 vm12_term ml12_378 c_74 (r12_term (4) (by omega) (Nat.le_refl 0)) (by omega) (Nat.le_of_ble_eq_true rfl) d12_fitsBy_16 ?_
      refine g_topI (nI (s0)) (h10) ?_
      refine g_ic_ne ((k : Nat) : Int) ((s0 : Nat) : Int) 28 (nI_ti (by omega)) (nI_ti (by omega)) d12_fitsBy_19 rfl (fun _ => ?_) (fun c19 => absurd c19 (by omega))
      refine g_lconstv (0) d12_fitsBy_28 rfl ?_
      refine g_lastN (k) _ d12_fitsBy_29 a_99 (rfl) (by omega) (by decide) t_99 ?_
      refine g_iincN d12_fitsBy_30 rfl (by decide) ?_
      refine g_goto 2 d12_fitsBy_33 rfl ?_
      refine g_lo [(0, .ref 74), (1, .int x), (2, .int (nI (k + 1)))] ⟨rfl, rfl, rfl, trivial⟩ ?_
      refine ih (k + 1) _ (by omega) (fun q hq => (uL_n hq).trans (hL q hq)) (fun q hq => ?_)
      by_cases e : q = k
      · subst e; rw [uL_ss]; rw [if_neg hc]; rfl
      · rw [uL_sn e]; exact hz q (by omega)
set_option maxHeartbeats 400000 in
theorem r12_fb1 {l : Launch} {K : cK} {d : Nat} {I : wI} {L : wL} {R : wR} {dy : cH} {Q : Option Value → cH → Prop} (s : Nat) (x : Int32)
    (kk : ∀ (L3 : wL), (∀ q, q ≠ 100 → L3 q = L q) → (∀ q, q < 13 → L3 100 q = lN 0) → GL l K m12_fitsBy d 0 0 65 [(0, .ref 74), (1, .int x), (2, .int (nI (s)))] [] (hp I L3 R dy) Q) :
    ∀ (zn k : Nat) (L2 : wL), k + zn = 13 → (∀ q, q ≠ 100 → L2 q = L q) → (∀ q, q < k → L2 100 q = lN 0) → GL l K m12_fitsBy d 0 0 46 [(0, .ref 74), (1, .int x), (2, .int (nI (s))), (3, .int (nI (k)))] [] (hp I L2 R dy) Q := by
  intro zn
  induction zn with
  | zero =>
    intro k L2 hin hL hz
    obtain rfl : 13 = k := by omega
    refine g_iload_n d12_fitsBy_46 rfl ?_
    refine g_bipushv (nI 13) d12_fitsBy_47 rfl ?_
    refine g_ic_ge ((13 : Nat) : Int) (13) 65 (nI_ti (by omega)) (by decide) d12_fitsBy_49 rfl (fun _ => ?_) (fun c49 => absurd c49 (by decide))
    refine g_lo [(0, .ref 74), (1, .int x), (2, .int (nI (s)))] ⟨rfl, rfl, rfl, trivial⟩ ?_
    exact kk L2 hL hz
  | succ zn ih =>
    intro k L2 hin hL hz
    refine g_iload_n d12_fitsBy_46 rfl ?_
    refine g_bipushv (nI 13) d12_fitsBy_47 rfl ?_
    refine g_ic_ge ((k : Nat) : Int) (13) 65 (nI_ti (by omega)) (by decide) d12_fitsBy_49 rfl (fun c49 => absurd c49 (by omega)) (fun _ => ?_)
    refine g_aload_n d12_fitsBy_52 rfl ?_
    refine g_get fl12_113 d12_fitsBy_53 f_74_50 ?_
    refine g_iload_n d12_fitsBy_56 rfl ?_
    refine g_lconstv (0) d12_fitsBy_57 rfl ?_
    refine g_lastN (k) _ d12_fitsBy_58 a_100 (rfl) (by omega) (by decide) t_100 ?_
    refine g_iincN d12_fitsBy_59 rfl (by decide) ?_
    refine g_goto 46 d12_fitsBy_62 rfl ?_
    refine g_lo [(0, .ref 74), (1, .int x), (2, .int (nI (s))), (3, .int (nI (k + 1)))] ⟨rfl, rfl, rfl, rfl, trivial⟩ ?_
    refine ih (k + 1) _ (by omega) (fun q hq => (uL_n hq).trans (hL q hq)) (fun q hq => ?_)
    by_cases e : q = k
    · subst e; rw [uL_ss]; rfl
    · rw [uL_sn e]; exact hz q (by omega)
set_option maxHeartbeats 400000 in
theorem r12_fb3 {l : Launch} {K : cK} {d : Nat} {I : wI} {L : wL} {R : wR} {dy : cH} {Q : Option Value → cH → Prop} (s : Nat) (x : Int32)
    (kk : ∀ (L3 : wL), (∀ q, q ≠ 99 → L3 q = L q) → (∀ q, q < 13 → L3 99 q = L 100 q) → GL l K m12_fitsBy d 0 0 209 [(0, .ref 74), (1, .int x), (2, .int (nI (s)))] [] (hp I L3 R dy) Q) :
    ∀ (zn k : Nat) (L2 : wL), k + zn = 13 → (∀ q, q ≠ 99 → L2 q = L q) → (∀ q, q < k → L2 99 q = L 100 q) → GL l K m12_fitsBy d 0 0 182 [(0, .ref 74), (1, .int x), (2, .int (nI (s))), (4, .int (nI (k)))] [] (hp I L2 R dy) Q := by
  intro zn
  induction zn with
  | zero =>
    intro k L2 hin hL hz
    obtain rfl : 13 = k := by omega
    refine g_iload d12_fitsBy_182 rfl ?_
    refine g_bipushv (nI 13) d12_fitsBy_184 rfl ?_
    refine g_ic_ge ((13 : Nat) : Int) (13) 209 (nI_ti (by omega)) (by decide) d12_fitsBy_186 rfl (fun _ => ?_) (fun c186 => absurd c186 (by decide))
    refine g_lo [(0, .ref 74), (1, .int x), (2, .int (nI (s)))] ⟨rfl, rfl, rfl, trivial⟩ ?_
    exact kk L2 hL hz
  | succ zn ih =>
    intro k L2 hin hL hz
    refine g_iload d12_fitsBy_182 rfl ?_
    refine g_bipushv (nI 13) d12_fitsBy_184 rfl ?_
    refine g_ic_ge ((k : Nat) : Int) (13) 209 (nI_ti (by omega)) (by decide) d12_fitsBy_186 rfl (fun c186 => absurd c186 (by omega)) (fun _ => ?_)
    refine g_aload_n d12_fitsBy_189 rfl ?_
    refine g_get fl12_110 d12_fitsBy_190 f_74_49 ?_
    refine g_iload d12_fitsBy_193 rfl ?_
    refine g_aload_n d12_fitsBy_195 rfl ?_
    refine g_get fl12_113 d12_fitsBy_196 f_74_50 ?_
    refine g_iload d12_fitsBy_199 rfl ?_
    refine g_laldN (k) d12_fitsBy_201 a_100 (rfl) (by omega) (by decide) ?_
    refine g_topL (L 100 k) (congrFun (hL 100 (by decide)) k) ?_
    refine g_lastN (k) _ d12_fitsBy_202 a_99 (rfl) (by omega) (by decide) t_99 ?_
    refine g_iincN d12_fitsBy_203 rfl (by decide) ?_
    refine g_goto 182 d12_fitsBy_206 rfl ?_
    refine g_lo [(0, .ref 74), (1, .int x), (2, .int (nI (s))), (4, .int (nI (k + 1)))] ⟨rfl, rfl, rfl, rfl, trivial⟩ ?_
    refine ih (k + 1) _ (by omega) (fun q hq => (uL_n hq).trans (hL q hq)) (fun q hq => ?_)
    by_cases e : q = k
    · subst e; rw [uL_ss]
    · rw [uL_sn e]; exact hz q (by omega)
set_option maxHeartbeats 400000 in
theorem r12_fb5 {l : Launch} {K : cK} {d : Nat} {I : wI} {L : wL} {R : wR} {dy : cH} {Q : Option Value → cH → Prop} (S : Nat → Nat) (hS : ∀ k, k ≤ 12 → L 99 k = lN (S k))
    (kk : (12 ≤ 12) → GL l K m12_fitsBy d 0 0 243 [(0, .ref 74), (2, .long (lN (sm S (12))))] [] (hp I L R dy) Q) :
    ∀ (zn k : Nat) , k + zn = 12 → (k ≤ 12) → GL l K m12_fitsBy d 0 0 220 [(0, .ref 74), (2, .long (lN (sm S (k)))), (4, .int (nI (k + 1)))] [] (hp I L R dy) Q := by
  intro zn
  induction zn with
  | zero =>
    intro k  hin hk
    obtain rfl : 12 = k := by omega
    refine g_iload d12_fitsBy_220 rfl ?_
    refine g_bipushv (nI 13) d12_fitsBy_222 rfl ?_
    refine g_ic_ge (((12 + 1) : Nat) : Int) (13) 243 (nI_ti (by omega)) (by decide) d12_fitsBy_224 rfl (fun _ => ?_) (fun c224 => absurd c224 (by decide))
    refine g_lo [(0, .ref 74), (2, .long (lN (sm S (12))))] ⟨rfl, rfl, trivial⟩ ?_
    exact kk  hk
  | succ zn ih =>
    intro k  hin hk
    refine g_iload d12_fitsBy_220 rfl ?_
    refine g_bipushv (nI 13) d12_fitsBy_222 rfl ?_
    refine g_ic_ge (((k + 1) : Nat) : Int) (13) 243 (nI_ti (by omega)) (by decide) d12_fitsBy_224 rfl (fun c224 => absurd c224 (by omega)) (fun _ => ?_)
    refine g_lload_n d12_fitsBy_227 rfl ?_
    refine g_aload_n d12_fitsBy_228 rfl ?_
    refine g_get fl12_110 d12_fitsBy_229 f_74_49 ?_
    refine g_iload d12_fitsBy_232 rfl ?_
    refine g_laldN ((k + 1)) d12_fitsBy_234 a_99 (rfl) (by omega) (by decide) ?_
    refine g_topL (lN (S (k + 1))) (hS _ (by omega)) ?_
    refine g_ladd d12_fitsBy_235 ?_
    refine g_topL (lN ((sm S (k)) + S (k + 1))) (lN_add _ _) ?_
    refine g_lstore_n d12_fitsBy_236 (by decide) ?_
    refine g_iincN d12_fitsBy_237 rfl (by decide) ?_
    refine g_goto 220 d12_fitsBy_240 rfl ?_
    refine g_lo [(0, .ref 74), (2, .long (lN (sm S (k + 1)))), (4, .int (nI (k + 1 + 1)))] ⟨rfl, rfl, rfl, trivial⟩ ?_
    exact ih (k + 1) (by omega) (by omega)
set_option maxHeartbeats 1600000 in
theorem r12_fb2 {l : Launch} {K : cK} {d : Nat} {I : wI} {L : wL} {R : wR} {dy : cH} {Q : Option Value → cH → Prop} (lf : lawF) (ha : askd I lf) (ho : I 74 15 = 0) (cm : Nat → Nat → Nat) (hcv : cmv I lf = cm) (s t : Nat) (hs : s < 12) (ht : t ≤ 2) (x : Int32) (S : Nat → Nat) (hSl : ∀ k, 1 ≤ k → k ≤ 12 → S k ≤ 1000000000000) (M : wL) (hS : ∀ k, k ≤ 12 → M 99 k = lN (S k)) (hd : 5 ≤ d)
    (kk : ∀ (I3 : wI) (L3 : wL), FR [] [28, 32] [87, 88, 89, 99, 100] [33, 34] I L I3 L3 → (∀ q, q ≤ 12 → L3 100 q = lN (sq (decide (t ≠ 1)) (decide (t ≠ 2 ∧ ¬ (s : Int) = x.toInt)) (cm s) S 12 q)) → GL l K m12_fitsBy d 0 0 179 [(0, .ref 74), (1, .int x), (2, .int (nI (s)))] [] (hp I3 L3 R dy) Q) :
    ∀ (zn k : Nat) (I2 : wI) (L2 : wL), k + zn = 12 → FR [] [28, 32] [87, 88, 89, 99, 100] [33, 34] I L I2 L2 → L2 99 = M 99 → (∀ q, q ≤ 12 → L2 100 q = lN (sq (decide (t ≠ 1)) (decide (t ≠ 2 ∧ ¬ (s : Int) = x.toInt)) (cm s) S k q)) → GL l K m12_fitsBy d 0 0 74 [(0, .ref 74), (1, .int x), (2, .int (nI (s))), (3, .int (mkI t)), (4, .int (nI (k + 1)))] [] (hp I2 L2 R dy) Q := by
  have hcm : ∀ s k, cm s k ≤ 10 := by rw [← hcv]; exact cmv_le I lf
  intro zn
  induction zn with
  | zero =>
    intro k I2 L2 hin hF hM hz
    obtain rfl : 12 = k := by omega
    refine g_iload d12_fitsBy_74 rfl ?_
    refine g_bipushv (nI 13) d12_fitsBy_76 rfl ?_
    refine g_ic_ge (((12 + 1) : Nat) : Int) (13) 179 (nI_ti (by omega)) (by decide) d12_fitsBy_78 rfl (fun _ => ?_) (fun c78 => absurd c78 (by decide))
    refine g_lo [(0, .ref 74), (1, .int x), (2, .int (nI (s)))] ⟨rfl, rfl, rfl, trivial⟩ ?_
    exact kk I2 L2 hF hz
  | succ zn ih =>
    intro k I2 L2 hin hF hM hz
    have hSk := hSl (k + 1) (by omega) (by omega)
    have hc10 := hcm s (k + 1)
    have hlat : lat (k + 1) ≤ 12 ∧ 2 ≤ lat (k + 1) := by unfold lat; split <;> omega
    have hcv2 : cmv I2 lf s (k + 1) = cm s (k + 1) := (cmv_of (hF.1 76 (by decide) (by decide)) (hF.2.1 36 (by decide))).trans (by rw [hcv])
    rcases (by omega : ( S (k + 1) / 10 = 0 ∧ t ≠ 1 ∧ (t ≠ 2 ∧ ¬ (s : Int) = x.toInt)) ∨ ( S (k + 1) / 10 = 0 ∧ t = 1 ∧ (t ≠ 2 ∧ ¬ (s : Int) = x.toInt)) ∨ ( S (k + 1) / 10 = 0 ∧ t ≠ 1 ∧ t = 2) ∨ ( S (k + 1) / 10 = 0 ∧ t ≠ 1 ∧ (t ≠ 2 ∧ (s : Int) = x.toInt)) ∨ ( S (k + 1) / 10 = 0 ∧ t = 1 ∧ (t ≠ 2 ∧ (s : Int) = x.toInt)) ∨ (¬ S (k + 1) / 10 = 0 ∧ t ≠ 1 ∧ (t ≠ 2 ∧ ¬ (s : Int) = x.toInt)) ∨ (¬ S (k + 1) / 10 = 0 ∧ t = 1 ∧ (t ≠ 2 ∧ ¬ (s : Int) = x.toInt)) ∨ (¬ S (k + 1) / 10 = 0 ∧ t ≠ 1 ∧ t = 2) ∨ (¬ S (k + 1) / 10 = 0 ∧ t ≠ 1 ∧ (t ≠ 2 ∧ (s : Int) = x.toInt)) ∨ (¬ S (k + 1) / 10 = 0 ∧ t = 1 ∧ (t ≠ 2 ∧ (s : Int) = x.toInt))) with ⟨hp0, hu, hv⟩ | ⟨hp0, hu, hv⟩ | ⟨hp0, hu, hv⟩ | ⟨hp0, hu, hv⟩ | ⟨hp0, hu, hv⟩ | ⟨hp0, hu, hv⟩ | ⟨hp0, hu, hv⟩ | ⟨hp0, hu, hv⟩ | ⟨hp0, hu, hv⟩ | ⟨hp0, hu, hv⟩
    · have hU : (decide (t ≠ 1)) = true := by exact decide_eq_true hu
      have hV : (decide (t ≠ 2 ∧ ¬ (s : Int) = x.toInt)) = true := by exact decide_eq_true hv
      refine g_iload d12_fitsBy_74 rfl ?_
      refine g_bipushv (nI 13) d12_fitsBy_76 rfl ?_
      refine g_ic_ge (((k + 1) : Nat) : Int) (13) 179 (nI_ti (by omega)) (by decide) d12_fitsBy_78 rfl (fun c78 => absurd c78 (by omega)) (fun _ => ?_)
      refine g_aload_n d12_fitsBy_81 rfl ?_
      refine g_get fl12_110 d12_fitsBy_82 f_74_49 ?_
      refine g_iload d12_fitsBy_85 rfl ?_
      refine g_laldN ((k + 1)) d12_fitsBy_87 a_99 (rfl) (by omega) (by decide) ?_
      refine g_topL (lN (S (k + 1))) ((congrFun hM _).trans (hS _ (by omega))) ?_
      refine g_ldc2 d12_fitsBy_88 kl12_223 ?_
      refine g_ldiv d12_fitsBy_91 (by decide) ?_
      refine g_topL (lN (S (k + 1) / 10)) (pk_lDiv (b := 10) (by omega) (by omega) (by omega)) ?_
      refine g_lstore d12_fitsBy_92 (by decide) ?_
      refine g_lload d12_fitsBy_94 rfl ?_
      refine g_lconstv (0) d12_fitsBy_96 rfl ?_
      refine g_lx_ne (((S (k + 1) / 10) : Nat) : Int) (0) 105 (pk_lT (by omega)) (by decide) d12_fitsBy_97 d12_fitsBy_98 rfl (fun c97 => absurd c97 (by omega)) (fun _ => ?_)
      refine g_iconstv (nI 0) d12_fitsBy_101 rfl ?_
      refine g_goto 112 d12_fitsBy_102 rfl ?_
      refine g_istore d12_fitsBy_112 (by decide) ?_
      refine g_aload_n d12_fitsBy_114 rfl ?_
      refine g_get fl12_113 d12_fitsBy_115 f_74_50 ?_
      refine g_iconstv (nI 1) d12_fitsBy_118 rfl ?_
      refine g_dup2 d12_fitsBy_119 rfl rfl ?_
      refine g_laldN (1) d12_fitsBy_120 a_100 (rfl) (by omega) (by decide) ?_
      refine g_topL (lN ((sq (decide (t ≠ 1)) (decide (t ≠ 2 ∧ ¬ (s : Int) = x.toInt)) (cm s) S k 1))) ((hz 1 (by decide))) ?_
      refine g_iload_n d12_fitsBy_121 rfl ?_
      refine g_iz_ne (((t : Nat) : Int) - 1) 129 (mkI_ti (by omega)) d12_fitsBy_122 rfl (fun _ => ?_) (fun c122 => absurd c122 (by omega))
      refine g_lload d12_fitsBy_129 rfl ?_
      refine g_iload d12_fitsBy_131 rfl ?_
      refine g_i2lN (by omega) d12_fitsBy_133 ?_
      refine g_lmul d12_fitsBy_134 ?_
      refine g_topL (lN ((S (k + 1) / 10) * 0)) (lN_mul _ _) ?_
      refine g_ladd d12_fitsBy_135 ?_
      refine g_topL (lN ((sq (decide (t ≠ 1)) (decide (t ≠ 2 ∧ ¬ (s : Int) = x.toInt)) (cm s) S k 1) + ((S (k + 1) / 10) * 0))) (lN_add _ _) ?_
      refine g_lastN (1) _ d12_fitsBy_136 a_100 (rfl) (by omega) (by decide) t_100 ?_
      refine g_aload_n d12_fitsBy_137 rfl ?_
      refine g_get fl12_113 d12_fitsBy_138 f_74_50 ?_
      refine g_iload d12_fitsBy_141 rfl ?_
      refine g_ES1 sm12_later ml12_418 (r12_later ((k + 1)) (by omega) (Nat.le_refl 0)) (by omega) (Nat.le_of_ble_eq_true rfl) d12_fitsBy_143 ?_
      refine g_dup2 d12_fitsBy_146 rfl rfl ?_
      refine g_laldN ((lat ((k + 1)))) d12_fitsBy_147 a_100 (rfl) (by omega) (by decide) ?_
      refine g_topL (lN ((sq (decide (t ≠ 1)) (decide (t ≠ 2 ∧ ¬ (s : Int) = x.toInt)) (cm s) S k (lat (k + 1))))) (by rw [uL_sn (by omega)]; exact (hz _ hlat.1)) ?_
      refine g_iload_n d12_fitsBy_148 rfl ?_
      refine g_iconstv (nI 1) d12_fitsBy_149 rfl ?_
      refine g_ic_eq (((t : Nat) : Int) - 1) (1) 158 (mkI_ti (by omega)) (by decide) d12_fitsBy_150 rfl (fun c150 => absurd c150 (by omega)) (fun _ => ?_)
      refine g_iload_n d12_fitsBy_153 rfl ?_
      refine g_iload_n d12_fitsBy_154 rfl ?_
      refine g_ic_ne ((s : Nat) : Int) _ 162 (nI_ti (by omega)) (rfl) d12_fitsBy_155 rfl (fun _ => ?_) (fun c155 => absurd c155 (by omega))
      refine g_lload d12_fitsBy_162 rfl ?_
      refine g_bipushv (nI 10) d12_fitsBy_164 rfl ?_
      refine g_iload d12_fitsBy_166 rfl ?_
      refine g_isubN (by omega) d12_fitsBy_168 ?_
      refine g_i2lN (by omega) d12_fitsBy_169 ?_
      refine g_lmul d12_fitsBy_170 ?_
      refine g_topL (lN ((S (k + 1) / 10) * (10 - 0))) (lN_mul _ _) ?_
      refine g_ladd d12_fitsBy_171 ?_
      refine g_topL (lN ((sq (decide (t ≠ 1)) (decide (t ≠ 2 ∧ ¬ (s : Int) = x.toInt)) (cm s) S k (lat (k + 1))) + ((S (k + 1) / 10) * (10 - 0)))) (lN_add _ _) ?_
      refine g_lastN ((lat ((k + 1)))) _ d12_fitsBy_172 a_100 (rfl) (by omega) (by decide) t_100 ?_
      refine g_iincN d12_fitsBy_173 rfl (by decide) ?_
      refine g_goto 74 d12_fitsBy_176 rfl ?_
      refine g_lo [(0, .ref 74), (1, .int x), (2, .int (nI (s))), (3, .int (mkI t)), (4, .int (nI (k + 1 + 1)))] ⟨rfl, rfl, rfl, rfl, rfl, trivial⟩ ?_
      refine ih (k + 1) _ _ (by omega) ((hF.ul (by decide) (by decide)).ul (by decide) (by decide)) (by rw [uL_n (by decide), uL_n (by decide)]; exact hM) (fun q hq => ?_)
      show _ = lN ((sq (decide (t ≠ 1)) (decide (t ≠ 2 ∧ ¬ (s : Int) = x.toInt)) (cm s) S k q) + (if q = 1 ∧ (decide (t ≠ 1)) = true then S (k + 1) / 10 * cm s (k + 1) else 0) + (if q = lat (k + 1) ∧ (decide (t ≠ 2 ∧ ¬ (s : Int) = x.toInt)) = true then S (k + 1) / 10 * (10 - cm s (k + 1)) else 0))
      rw [hU, hV]
      by_cases e1 : q = lat (k + 1)
      · subst e1
        rw [uL_ss, if_neg (by omega)]
        simp [hU, hV, hp0]
      · rw [uL_sn e1, if_neg (c := q = lat (k + 1) ∧ _) (fun z => e1 z.1)]
        by_cases e2 : q = 1
        · subst e2; rw [uL_ss]; simp [hU, hV, hp0]
        · rw [uL_sn e2, if_neg (fun z => e2 z.1)]; simpa [hU, hV] using hz q hq
    · have hU : (decide (t ≠ 1)) = false := by exact decide_eq_false (by omega)
      have hV : (decide (t ≠ 2 ∧ ¬ (s : Int) = x.toInt)) = true := by exact decide_eq_true hv
      refine g_iload d12_fitsBy_74 rfl ?_
      refine g_bipushv (nI 13) d12_fitsBy_76 rfl ?_
      refine g_ic_ge (((k + 1) : Nat) : Int) (13) 179 (nI_ti (by omega)) (by decide) d12_fitsBy_78 rfl (fun c78 => absurd c78 (by omega)) (fun _ => ?_)
      refine g_aload_n d12_fitsBy_81 rfl ?_
      refine g_get fl12_110 d12_fitsBy_82 f_74_49 ?_
      refine g_iload d12_fitsBy_85 rfl ?_
      refine g_laldN ((k + 1)) d12_fitsBy_87 a_99 (rfl) (by omega) (by decide) ?_
      refine g_topL (lN (S (k + 1))) ((congrFun hM _).trans (hS _ (by omega))) ?_
      refine g_ldc2 d12_fitsBy_88 kl12_223 ?_
      refine g_ldiv d12_fitsBy_91 (by decide) ?_
      refine g_topL (lN (S (k + 1) / 10)) (pk_lDiv (b := 10) (by omega) (by omega) (by omega)) ?_
      refine g_lstore d12_fitsBy_92 (by decide) ?_
      refine g_lload d12_fitsBy_94 rfl ?_
      refine g_lconstv (0) d12_fitsBy_96 rfl ?_
      refine g_lx_ne (((S (k + 1) / 10) : Nat) : Int) (0) 105 (pk_lT (by omega)) (by decide) d12_fitsBy_97 d12_fitsBy_98 rfl (fun c97 => absurd c97 (by omega)) (fun _ => ?_)
      refine g_iconstv (nI 0) d12_fitsBy_101 rfl ?_
      refine g_goto 112 d12_fitsBy_102 rfl ?_
      refine g_istore d12_fitsBy_112 (by decide) ?_
      refine g_aload_n d12_fitsBy_114 rfl ?_
      refine g_get fl12_113 d12_fitsBy_115 f_74_50 ?_
      refine g_iconstv (nI 1) d12_fitsBy_118 rfl ?_
      refine g_dup2 d12_fitsBy_119 rfl rfl ?_
      refine g_laldN (1) d12_fitsBy_120 a_100 (rfl) (by omega) (by decide) ?_
      refine g_topL (lN ((sq (decide (t ≠ 1)) (decide (t ≠ 2 ∧ ¬ (s : Int) = x.toInt)) (cm s) S k 1))) ((hz 1 (by decide))) ?_
      refine g_iload_n d12_fitsBy_121 rfl ?_
      refine g_iz_ne (((t : Nat) : Int) - 1) 129 (mkI_ti (by omega)) d12_fitsBy_122 rfl (fun c122 => absurd c122 (by omega)) (fun _ => ?_)
      refine g_lconstv (0) d12_fitsBy_125 rfl ?_
      refine g_goto 135 d12_fitsBy_126 rfl ?_
      refine g_ladd d12_fitsBy_135 ?_
      refine g_topL (lN ((sq (decide (t ≠ 1)) (decide (t ≠ 2 ∧ ¬ (s : Int) = x.toInt)) (cm s) S k 1) + 0)) (lN_add _ _) ?_
      refine g_lastN (1) _ d12_fitsBy_136 a_100 (rfl) (by omega) (by decide) t_100 ?_
      refine g_aload_n d12_fitsBy_137 rfl ?_
      refine g_get fl12_113 d12_fitsBy_138 f_74_50 ?_
      refine g_iload d12_fitsBy_141 rfl ?_
      refine g_ES1 sm12_later ml12_418 (r12_later ((k + 1)) (by omega) (Nat.le_refl 0)) (by omega) (Nat.le_of_ble_eq_true rfl) d12_fitsBy_143 ?_
      refine g_dup2 d12_fitsBy_146 rfl rfl ?_
      refine g_laldN ((lat ((k + 1)))) d12_fitsBy_147 a_100 (rfl) (by omega) (by decide) ?_
      refine g_topL (lN ((sq (decide (t ≠ 1)) (decide (t ≠ 2 ∧ ¬ (s : Int) = x.toInt)) (cm s) S k (lat (k + 1))))) (by rw [uL_sn (by omega)]; exact (hz _ hlat.1)) ?_
      refine g_iload_n d12_fitsBy_148 rfl ?_
      refine g_iconstv (nI 1) d12_fitsBy_149 rfl ?_
      refine g_ic_eq (((t : Nat) : Int) - 1) (1) 158 (mkI_ti (by omega)) (by decide) d12_fitsBy_150 rfl (fun c150 => absurd c150 (by omega)) (fun _ => ?_)
      refine g_iload_n d12_fitsBy_153 rfl ?_
      refine g_iload_n d12_fitsBy_154 rfl ?_
      refine g_ic_ne ((s : Nat) : Int) _ 162 (nI_ti (by omega)) (rfl) d12_fitsBy_155 rfl (fun _ => ?_) (fun c155 => absurd c155 (by omega))
      refine g_lload d12_fitsBy_162 rfl ?_
      refine g_bipushv (nI 10) d12_fitsBy_164 rfl ?_
      refine g_iload d12_fitsBy_166 rfl ?_
      refine g_isubN (by omega) d12_fitsBy_168 ?_
      refine g_i2lN (by omega) d12_fitsBy_169 ?_
      refine g_lmul d12_fitsBy_170 ?_
      refine g_topL (lN ((S (k + 1) / 10) * (10 - 0))) (lN_mul _ _) ?_
      refine g_ladd d12_fitsBy_171 ?_
      refine g_topL (lN ((sq (decide (t ≠ 1)) (decide (t ≠ 2 ∧ ¬ (s : Int) = x.toInt)) (cm s) S k (lat (k + 1))) + ((S (k + 1) / 10) * (10 - 0)))) (lN_add _ _) ?_
      refine g_lastN ((lat ((k + 1)))) _ d12_fitsBy_172 a_100 (rfl) (by omega) (by decide) t_100 ?_
      refine g_iincN d12_fitsBy_173 rfl (by decide) ?_
      refine g_goto 74 d12_fitsBy_176 rfl ?_
      refine g_lo [(0, .ref 74), (1, .int x), (2, .int (nI (s))), (3, .int (mkI t)), (4, .int (nI (k + 1 + 1)))] ⟨rfl, rfl, rfl, rfl, rfl, trivial⟩ ?_
      refine ih (k + 1) _ _ (by omega) ((hF.ul (by decide) (by decide)).ul (by decide) (by decide)) (by rw [uL_n (by decide), uL_n (by decide)]; exact hM) (fun q hq => ?_)
      show _ = lN ((sq (decide (t ≠ 1)) (decide (t ≠ 2 ∧ ¬ (s : Int) = x.toInt)) (cm s) S k q) + (if q = 1 ∧ (decide (t ≠ 1)) = true then S (k + 1) / 10 * cm s (k + 1) else 0) + (if q = lat (k + 1) ∧ (decide (t ≠ 2 ∧ ¬ (s : Int) = x.toInt)) = true then S (k + 1) / 10 * (10 - cm s (k + 1)) else 0))
      rw [hU, hV]
      by_cases e1 : q = lat (k + 1)
      · subst e1
        rw [uL_ss, if_neg (by omega)]
        simp [hU, hV, hp0]
      · rw [uL_sn e1, if_neg (c := q = lat (k + 1) ∧ _) (fun z => e1 z.1)]
        by_cases e2 : q = 1
        · subst e2; rw [uL_ss]; simp [hU, hV, hp0]
        · rw [uL_sn e2, if_neg (fun z => e2 z.1)]; simpa [hU, hV] using hz q hq
    · have hU : (decide (t ≠ 1)) = true := by exact decide_eq_true hu
      have hV : (decide (t ≠ 2 ∧ ¬ (s : Int) = x.toInt)) = false := by exact decide_eq_false (by omega)
      refine g_iload d12_fitsBy_74 rfl ?_
      refine g_bipushv (nI 13) d12_fitsBy_76 rfl ?_
      refine g_ic_ge (((k + 1) : Nat) : Int) (13) 179 (nI_ti (by omega)) (by decide) d12_fitsBy_78 rfl (fun c78 => absurd c78 (by omega)) (fun _ => ?_)
      refine g_aload_n d12_fitsBy_81 rfl ?_
      refine g_get fl12_110 d12_fitsBy_82 f_74_49 ?_
      refine g_iload d12_fitsBy_85 rfl ?_
      refine g_laldN ((k + 1)) d12_fitsBy_87 a_99 (rfl) (by omega) (by decide) ?_
      refine g_topL (lN (S (k + 1))) ((congrFun hM _).trans (hS _ (by omega))) ?_
      refine g_ldc2 d12_fitsBy_88 kl12_223 ?_
      refine g_ldiv d12_fitsBy_91 (by decide) ?_
      refine g_topL (lN (S (k + 1) / 10)) (pk_lDiv (b := 10) (by omega) (by omega) (by omega)) ?_
      refine g_lstore d12_fitsBy_92 (by decide) ?_
      refine g_lload d12_fitsBy_94 rfl ?_
      refine g_lconstv (0) d12_fitsBy_96 rfl ?_
      refine g_lx_ne (((S (k + 1) / 10) : Nat) : Int) (0) 105 (pk_lT (by omega)) (by decide) d12_fitsBy_97 d12_fitsBy_98 rfl (fun c97 => absurd c97 (by omega)) (fun _ => ?_)
      refine g_iconstv (nI 0) d12_fitsBy_101 rfl ?_
      refine g_goto 112 d12_fitsBy_102 rfl ?_
      refine g_istore d12_fitsBy_112 (by decide) ?_
      refine g_aload_n d12_fitsBy_114 rfl ?_
      refine g_get fl12_113 d12_fitsBy_115 f_74_50 ?_
      refine g_iconstv (nI 1) d12_fitsBy_118 rfl ?_
      refine g_dup2 d12_fitsBy_119 rfl rfl ?_
      refine g_laldN (1) d12_fitsBy_120 a_100 (rfl) (by omega) (by decide) ?_
      refine g_topL (lN ((sq (decide (t ≠ 1)) (decide (t ≠ 2 ∧ ¬ (s : Int) = x.toInt)) (cm s) S k 1))) ((hz 1 (by decide))) ?_
      refine g_iload_n d12_fitsBy_121 rfl ?_
      refine g_iz_ne (((t : Nat) : Int) - 1) 129 (mkI_ti (by omega)) d12_fitsBy_122 rfl (fun _ => ?_) (fun c122 => absurd c122 (by omega))
      refine g_lload d12_fitsBy_129 rfl ?_
      refine g_iload d12_fitsBy_131 rfl ?_
      refine g_i2lN (by omega) d12_fitsBy_133 ?_
      refine g_lmul d12_fitsBy_134 ?_
      refine g_topL (lN ((S (k + 1) / 10) * 0)) (lN_mul _ _) ?_
      refine g_ladd d12_fitsBy_135 ?_
      refine g_topL (lN ((sq (decide (t ≠ 1)) (decide (t ≠ 2 ∧ ¬ (s : Int) = x.toInt)) (cm s) S k 1) + ((S (k + 1) / 10) * 0))) (lN_add _ _) ?_
      refine g_lastN (1) _ d12_fitsBy_136 a_100 (rfl) (by omega) (by decide) t_100 ?_
      refine g_aload_n d12_fitsBy_137 rfl ?_
      refine g_get fl12_113 d12_fitsBy_138 f_74_50 ?_
      refine g_iload d12_fitsBy_141 rfl ?_
      refine g_ES1 sm12_later ml12_418 (r12_later ((k + 1)) (by omega) (Nat.le_refl 0)) (by omega) (Nat.le_of_ble_eq_true rfl) d12_fitsBy_143 ?_
      refine g_dup2 d12_fitsBy_146 rfl rfl ?_
      refine g_laldN ((lat ((k + 1)))) d12_fitsBy_147 a_100 (rfl) (by omega) (by decide) ?_
      refine g_topL (lN ((sq (decide (t ≠ 1)) (decide (t ≠ 2 ∧ ¬ (s : Int) = x.toInt)) (cm s) S k (lat (k + 1))))) (by rw [uL_sn (by omega)]; exact (hz _ hlat.1)) ?_
      refine g_iload_n d12_fitsBy_148 rfl ?_
      refine g_iconstv (nI 1) d12_fitsBy_149 rfl ?_
      refine g_ic_eq (((t : Nat) : Int) - 1) (1) 158 (mkI_ti (by omega)) (by decide) d12_fitsBy_150 rfl (fun _ => ?_) (fun c150 => absurd c150 (by omega))
      refine g_lconstv (0) d12_fitsBy_158 rfl ?_
      refine g_goto 171 d12_fitsBy_159 rfl ?_
      refine g_ladd d12_fitsBy_171 ?_
      refine g_topL (lN ((sq (decide (t ≠ 1)) (decide (t ≠ 2 ∧ ¬ (s : Int) = x.toInt)) (cm s) S k (lat (k + 1))) + 0)) (lN_add _ _) ?_
      refine g_lastN ((lat ((k + 1)))) _ d12_fitsBy_172 a_100 (rfl) (by omega) (by decide) t_100 ?_
      refine g_iincN d12_fitsBy_173 rfl (by decide) ?_
      refine g_goto 74 d12_fitsBy_176 rfl ?_
      refine g_lo [(0, .ref 74), (1, .int x), (2, .int (nI (s))), (3, .int (mkI t)), (4, .int (nI (k + 1 + 1)))] ⟨rfl, rfl, rfl, rfl, rfl, trivial⟩ ?_
      refine ih (k + 1) _ _ (by omega) ((hF.ul (by decide) (by decide)).ul (by decide) (by decide)) (by rw [uL_n (by decide), uL_n (by decide)]; exact hM) (fun q hq => ?_)
      show _ = lN ((sq (decide (t ≠ 1)) (decide (t ≠ 2 ∧ ¬ (s : Int) = x.toInt)) (cm s) S k q) + (if q = 1 ∧ (decide (t ≠ 1)) = true then S (k + 1) / 10 * cm s (k + 1) else 0) + (if q = lat (k + 1) ∧ (decide (t ≠ 2 ∧ ¬ (s : Int) = x.toInt)) = true then S (k + 1) / 10 * (10 - cm s (k + 1)) else 0))
      rw [hU, hV]
      by_cases e1 : q = lat (k + 1)
      · subst e1
        rw [uL_ss, if_neg (by omega)]
        simp [hU, hV, hp0]
      · rw [uL_sn e1, if_neg (c := q = lat (k + 1) ∧ _) (fun z => e1 z.1)]
        by_cases e2 : q = 1
        · subst e2; rw [uL_ss]; simp [hU, hV, hp0]
        · rw [uL_sn e2, if_neg (fun z => e2 z.1)]; simpa [hU, hV] using hz q hq
    · have hU : (decide (t ≠ 1)) = true := by exact decide_eq_true hu
      have hV : (decide (t ≠ 2 ∧ ¬ (s : Int) = x.toInt)) = false := by exact decide_eq_false (by omega)
      refine g_iload d12_fitsBy_74 rfl ?_
      refine g_bipushv (nI 13) d12_fitsBy_76 rfl ?_
      refine g_ic_ge (((k + 1) : Nat) : Int) (13) 179 (nI_ti (by omega)) (by decide) d12_fitsBy_78 rfl (fun c78 => absurd c78 (by omega)) (fun _ => ?_)
      refine g_aload_n d12_fitsBy_81 rfl ?_
      refine g_get fl12_110 d12_fitsBy_82 f_74_49 ?_
      refine g_iload d12_fitsBy_85 rfl ?_
      refine g_laldN ((k + 1)) d12_fitsBy_87 a_99 (rfl) (by omega) (by decide) ?_
      refine g_topL (lN (S (k + 1))) ((congrFun hM _).trans (hS _ (by omega))) ?_
      refine g_ldc2 d12_fitsBy_88 kl12_223 ?_
      refine g_ldiv d12_fitsBy_91 (by decide) ?_
      refine g_topL (lN (S (k + 1) / 10)) (pk_lDiv (b := 10) (by omega) (by omega) (by omega)) ?_
      refine g_lstore d12_fitsBy_92 (by decide) ?_
      refine g_lload d12_fitsBy_94 rfl ?_
      refine g_lconstv (0) d12_fitsBy_96 rfl ?_
      refine g_lx_ne (((S (k + 1) / 10) : Nat) : Int) (0) 105 (pk_lT (by omega)) (by decide) d12_fitsBy_97 d12_fitsBy_98 rfl (fun c97 => absurd c97 (by omega)) (fun _ => ?_)
      refine g_iconstv (nI 0) d12_fitsBy_101 rfl ?_
      refine g_goto 112 d12_fitsBy_102 rfl ?_
      refine g_istore d12_fitsBy_112 (by decide) ?_
      refine g_aload_n d12_fitsBy_114 rfl ?_
      refine g_get fl12_113 d12_fitsBy_115 f_74_50 ?_
      refine g_iconstv (nI 1) d12_fitsBy_118 rfl ?_
      refine g_dup2 d12_fitsBy_119 rfl rfl ?_
      refine g_laldN (1) d12_fitsBy_120 a_100 (rfl) (by omega) (by decide) ?_
      refine g_topL (lN ((sq (decide (t ≠ 1)) (decide (t ≠ 2 ∧ ¬ (s : Int) = x.toInt)) (cm s) S k 1))) ((hz 1 (by decide))) ?_
      refine g_iload_n d12_fitsBy_121 rfl ?_
      refine g_iz_ne (((t : Nat) : Int) - 1) 129 (mkI_ti (by omega)) d12_fitsBy_122 rfl (fun _ => ?_) (fun c122 => absurd c122 (by omega))
      refine g_lload d12_fitsBy_129 rfl ?_
      refine g_iload d12_fitsBy_131 rfl ?_
      refine g_i2lN (by omega) d12_fitsBy_133 ?_
      refine g_lmul d12_fitsBy_134 ?_
      refine g_topL (lN ((S (k + 1) / 10) * 0)) (lN_mul _ _) ?_
      refine g_ladd d12_fitsBy_135 ?_
      refine g_topL (lN ((sq (decide (t ≠ 1)) (decide (t ≠ 2 ∧ ¬ (s : Int) = x.toInt)) (cm s) S k 1) + ((S (k + 1) / 10) * 0))) (lN_add _ _) ?_
      refine g_lastN (1) _ d12_fitsBy_136 a_100 (rfl) (by omega) (by decide) t_100 ?_
      refine g_aload_n d12_fitsBy_137 rfl ?_
      refine g_get fl12_113 d12_fitsBy_138 f_74_50 ?_
      refine g_iload d12_fitsBy_141 rfl ?_
      refine g_ES1 sm12_later ml12_418 (r12_later ((k + 1)) (by omega) (Nat.le_refl 0)) (by omega) (Nat.le_of_ble_eq_true rfl) d12_fitsBy_143 ?_
      refine g_dup2 d12_fitsBy_146 rfl rfl ?_
      refine g_laldN ((lat ((k + 1)))) d12_fitsBy_147 a_100 (rfl) (by omega) (by decide) ?_
      refine g_topL (lN ((sq (decide (t ≠ 1)) (decide (t ≠ 2 ∧ ¬ (s : Int) = x.toInt)) (cm s) S k (lat (k + 1))))) (by rw [uL_sn (by omega)]; exact (hz _ hlat.1)) ?_
      refine g_iload_n d12_fitsBy_148 rfl ?_
      refine g_iconstv (nI 1) d12_fitsBy_149 rfl ?_
      refine g_ic_eq (((t : Nat) : Int) - 1) (1) 158 (mkI_ti (by omega)) (by decide) d12_fitsBy_150 rfl (fun c150 => absurd c150 (by omega)) (fun _ => ?_)
      refine g_iload_n d12_fitsBy_153 rfl ?_
      refine g_iload_n d12_fitsBy_154 rfl ?_
      refine g_ic_ne ((s : Nat) : Int) _ 162 (nI_ti (by omega)) (rfl) d12_fitsBy_155 rfl (fun c155 => absurd c155 (by omega)) (fun _ => ?_)
      refine g_lconstv (0) d12_fitsBy_158 rfl ?_
      refine g_goto 171 d12_fitsBy_159 rfl ?_
      refine g_ladd d12_fitsBy_171 ?_
      refine g_topL (lN ((sq (decide (t ≠ 1)) (decide (t ≠ 2 ∧ ¬ (s : Int) = x.toInt)) (cm s) S k (lat (k + 1))) + 0)) (lN_add _ _) ?_
      refine g_lastN ((lat ((k + 1)))) _ d12_fitsBy_172 a_100 (rfl) (by omega) (by decide) t_100 ?_
      refine g_iincN d12_fitsBy_173 rfl (by decide) ?_
      refine g_goto 74 d12_fitsBy_176 rfl ?_
      refine g_lo [(0, .ref 74), (1, .int x), (2, .int (nI (s))), (3, .int (mkI t)), (4, .int (nI (k + 1 + 1)))] ⟨rfl, rfl, rfl, rfl, rfl, trivial⟩ ?_
      refine ih (k + 1) _ _ (by omega) ((hF.ul (by decide) (by decide)).ul (by decide) (by decide)) (by rw [uL_n (by decide), uL_n (by decide)]; exact hM) (fun q hq => ?_)
      show _ = lN ((sq (decide (t ≠ 1)) (decide (t ≠ 2 ∧ ¬ (s : Int) = x.toInt)) (cm s) S k q) + (if q = 1 ∧ (decide (t ≠ 1)) = true then S (k + 1) / 10 * cm s (k + 1) else 0) + (if q = lat (k + 1) ∧ (decide (t ≠ 2 ∧ ¬ (s : Int) = x.toInt)) = true then S (k + 1) / 10 * (10 - cm s (k + 1)) else 0))
      rw [hU, hV]
      by_cases e1 : q = lat (k + 1)
      · subst e1
        rw [uL_ss, if_neg (by omega)]
        simp [hU, hV, hp0]
      · rw [uL_sn e1, if_neg (c := q = lat (k + 1) ∧ _) (fun z => e1 z.1)]
        by_cases e2 : q = 1
        · subst e2; rw [uL_ss]; simp [hU, hV, hp0]
        · rw [uL_sn e2, if_neg (fun z => e2 z.1)]; simpa [hU, hV] using hz q hq
    · have hU : (decide (t ≠ 1)) = false := by exact decide_eq_false (by omega)
      have hV : (decide (t ≠ 2 ∧ ¬ (s : Int) = x.toInt)) = false := by exact decide_eq_false (by omega)
      refine g_iload d12_fitsBy_74 rfl ?_
      refine g_bipushv (nI 13) d12_fitsBy_76 rfl ?_
      refine g_ic_ge (((k + 1) : Nat) : Int) (13) 179 (nI_ti (by omega)) (by decide) d12_fitsBy_78 rfl (fun c78 => absurd c78 (by omega)) (fun _ => ?_)
      refine g_aload_n d12_fitsBy_81 rfl ?_
      refine g_get fl12_110 d12_fitsBy_82 f_74_49 ?_
      refine g_iload d12_fitsBy_85 rfl ?_
      refine g_laldN ((k + 1)) d12_fitsBy_87 a_99 (rfl) (by omega) (by decide) ?_
      refine g_topL (lN (S (k + 1))) ((congrFun hM _).trans (hS _ (by omega))) ?_
      refine g_ldc2 d12_fitsBy_88 kl12_223 ?_
      refine g_ldiv d12_fitsBy_91 (by decide) ?_
      refine g_topL (lN (S (k + 1) / 10)) (pk_lDiv (b := 10) (by omega) (by omega) (by omega)) ?_
      refine g_lstore d12_fitsBy_92 (by decide) ?_
      refine g_lload d12_fitsBy_94 rfl ?_
      refine g_lconstv (0) d12_fitsBy_96 rfl ?_
      refine g_lx_ne (((S (k + 1) / 10) : Nat) : Int) (0) 105 (pk_lT (by omega)) (by decide) d12_fitsBy_97 d12_fitsBy_98 rfl (fun c97 => absurd c97 (by omega)) (fun _ => ?_)
      refine g_iconstv (nI 0) d12_fitsBy_101 rfl ?_
      refine g_goto 112 d12_fitsBy_102 rfl ?_
      refine g_istore d12_fitsBy_112 (by decide) ?_
      refine g_aload_n d12_fitsBy_114 rfl ?_
      refine g_get fl12_113 d12_fitsBy_115 f_74_50 ?_
      refine g_iconstv (nI 1) d12_fitsBy_118 rfl ?_
      refine g_dup2 d12_fitsBy_119 rfl rfl ?_
      refine g_laldN (1) d12_fitsBy_120 a_100 (rfl) (by omega) (by decide) ?_
      refine g_topL (lN ((sq (decide (t ≠ 1)) (decide (t ≠ 2 ∧ ¬ (s : Int) = x.toInt)) (cm s) S k 1))) ((hz 1 (by decide))) ?_
      refine g_iload_n d12_fitsBy_121 rfl ?_
      refine g_iz_ne (((t : Nat) : Int) - 1) 129 (mkI_ti (by omega)) d12_fitsBy_122 rfl (fun c122 => absurd c122 (by omega)) (fun _ => ?_)
      refine g_lconstv (0) d12_fitsBy_125 rfl ?_
      refine g_goto 135 d12_fitsBy_126 rfl ?_
      refine g_ladd d12_fitsBy_135 ?_
      refine g_topL (lN ((sq (decide (t ≠ 1)) (decide (t ≠ 2 ∧ ¬ (s : Int) = x.toInt)) (cm s) S k 1) + 0)) (lN_add _ _) ?_
      refine g_lastN (1) _ d12_fitsBy_136 a_100 (rfl) (by omega) (by decide) t_100 ?_
      refine g_aload_n d12_fitsBy_137 rfl ?_
      refine g_get fl12_113 d12_fitsBy_138 f_74_50 ?_
      refine g_iload d12_fitsBy_141 rfl ?_
      refine g_ES1 sm12_later ml12_418 (r12_later ((k + 1)) (by omega) (Nat.le_refl 0)) (by omega) (Nat.le_of_ble_eq_true rfl) d12_fitsBy_143 ?_
      refine g_dup2 d12_fitsBy_146 rfl rfl ?_
      refine g_laldN ((lat ((k + 1)))) d12_fitsBy_147 a_100 (rfl) (by omega) (by decide) ?_
      refine g_topL (lN ((sq (decide (t ≠ 1)) (decide (t ≠ 2 ∧ ¬ (s : Int) = x.toInt)) (cm s) S k (lat (k + 1))))) (by rw [uL_sn (by omega)]; exact (hz _ hlat.1)) ?_
      refine g_iload_n d12_fitsBy_148 rfl ?_
      refine g_iconstv (nI 1) d12_fitsBy_149 rfl ?_
      refine g_ic_eq (((t : Nat) : Int) - 1) (1) 158 (mkI_ti (by omega)) (by decide) d12_fitsBy_150 rfl (fun c150 => absurd c150 (by omega)) (fun _ => ?_)
      refine g_iload_n d12_fitsBy_153 rfl ?_
      refine g_iload_n d12_fitsBy_154 rfl ?_
      refine g_ic_ne ((s : Nat) : Int) _ 162 (nI_ti (by omega)) (rfl) d12_fitsBy_155 rfl (fun c155 => absurd c155 (by omega)) (fun _ => ?_)
      refine g_lconstv (0) d12_fitsBy_158 rfl ?_
      refine g_goto 171 d12_fitsBy_159 rfl ?_
      refine g_ladd d12_fitsBy_171 ?_
      refine g_topL (lN ((sq (decide (t ≠ 1)) (decide (t ≠ 2 ∧ ¬ (s : Int) = x.toInt)) (cm s) S k (lat (k + 1))) + 0)) (lN_add _ _) ?_
      refine g_lastN ((lat ((k + 1)))) _ d12_fitsBy_172 a_100 (rfl) (by omega) (by decide) t_100 ?_
      refine g_iincN d12_fitsBy_173 rfl (by decide) ?_
      refine g_goto 74 d12_fitsBy_176 rfl ?_
      refine g_lo [(0, .ref 74), (1, .int x), (2, .int (nI (s))), (3, .int (mkI t)), (4, .int (nI (k + 1 + 1)))] ⟨rfl, rfl, rfl, rfl, rfl, trivial⟩ ?_
      refine ih (k + 1) _ _ (by omega) ((hF.ul (by decide) (by decide)).ul (by decide) (by decide)) (by rw [uL_n (by decide), uL_n (by decide)]; exact hM) (fun q hq => ?_)
      show _ = lN ((sq (decide (t ≠ 1)) (decide (t ≠ 2 ∧ ¬ (s : Int) = x.toInt)) (cm s) S k q) + (if q = 1 ∧ (decide (t ≠ 1)) = true then S (k + 1) / 10 * cm s (k + 1) else 0) + (if q = lat (k + 1) ∧ (decide (t ≠ 2 ∧ ¬ (s : Int) = x.toInt)) = true then S (k + 1) / 10 * (10 - cm s (k + 1)) else 0))
      rw [hU, hV]
      by_cases e1 : q = lat (k + 1)
      · subst e1
        rw [uL_ss, if_neg (by omega)]
        simp [hU, hV, hp0]
      · rw [uL_sn e1, if_neg (c := q = lat (k + 1) ∧ _) (fun z => e1 z.1)]
        by_cases e2 : q = 1
        · subst e2; rw [uL_ss]; simp [hU, hV, hp0]
        · rw [uL_sn e2, if_neg (fun z => e2 z.1)]; simpa [hU, hV] using hz q hq
    · have hU : (decide (t ≠ 1)) = true := by exact decide_eq_true hu
      have hV : (decide (t ≠ 2 ∧ ¬ (s : Int) = x.toInt)) = true := by exact decide_eq_true hv
      refine g_iload d12_fitsBy_74 rfl ?_
      refine g_bipushv (nI 13) d12_fitsBy_76 rfl ?_
      refine g_ic_ge (((k + 1) : Nat) : Int) (13) 179 (nI_ti (by omega)) (by decide) d12_fitsBy_78 rfl (fun c78 => absurd c78 (by omega)) (fun _ => ?_)
      refine g_aload_n d12_fitsBy_81 rfl ?_
      refine g_get fl12_110 d12_fitsBy_82 f_74_49 ?_
      refine g_iload d12_fitsBy_85 rfl ?_
      refine g_laldN ((k + 1)) d12_fitsBy_87 a_99 (rfl) (by omega) (by decide) ?_
      refine g_topL (lN (S (k + 1))) ((congrFun hM _).trans (hS _ (by omega))) ?_
      refine g_ldc2 d12_fitsBy_88 kl12_223 ?_
      refine g_ldiv d12_fitsBy_91 (by decide) ?_
      refine g_topL (lN (S (k + 1) / 10)) (pk_lDiv (b := 10) (by omega) (by omega) (by omega)) ?_
      refine g_lstore d12_fitsBy_92 (by decide) ?_
      refine g_lload d12_fitsBy_94 rfl ?_
      refine g_lconstv (0) d12_fitsBy_96 rfl ?_
      refine g_lx_ne (((S (k + 1) / 10) : Nat) : Int) (0) 105 (pk_lT (by omega)) (by decide) d12_fitsBy_97 d12_fitsBy_98 rfl (fun _ => ?_) (fun c97 => absurd c97 (by omega))
      refine g_aload_n d12_fitsBy_105 rfl ?_
      refine g_iload_n d12_fitsBy_106 rfl ?_
      refine g_iload d12_fitsBy_107 rfl ?_
      refine g_XV2 vm12_comesOf ml12_406 c_74 (r12_comesOf (I := I2) (L := L2) s (k + 1) (by omega) (by omega) lf (ha.of (hF.1 76 (by decide) (by decide)) (hF.2.1 35 (by decide))) ((hF.2.1 15 (by decide)).trans ho) (Nat.le_refl 4)) (by omega) (Nat.le_of_ble_eq_true rfl) d12_fitsBy_109 (fun y hy => ?_)
      refine g_topI (nI (cm s (k + 1))) (by rw [← hcv2]; rfl) ?_
      obtain ⟨I4, L4⟩ := y
      have hF4 : FR [] [28, 32] [87, 88, 89, 99, 100] [33, 34] I L I4 L4 := hF.tr (hy.fr.up (by decide) (by decide) (by decide) (by decide))
      have e100 : L4 100 = L2 100 := hy.fr.2.2.1 100 (by decide) (by decide)
      have e99 : L4 99 = L2 99 := hy.fr.2.2.1 99 (by decide) (by decide)
      dsimp only
      refine g_istore d12_fitsBy_112 (by decide) ?_
      refine g_aload_n d12_fitsBy_114 rfl ?_
      refine g_get fl12_113 d12_fitsBy_115 f_74_50 ?_
      refine g_iconstv (nI 1) d12_fitsBy_118 rfl ?_
      refine g_dup2 d12_fitsBy_119 rfl rfl ?_
      refine g_laldN (1) d12_fitsBy_120 a_100 (rfl) (by omega) (by decide) ?_
      refine g_topL (lN ((sq (decide (t ≠ 1)) (decide (t ≠ 2 ∧ ¬ (s : Int) = x.toInt)) (cm s) S k 1))) ((congrFun e100 _).trans (hz 1 (by decide))) ?_
      refine g_iload_n d12_fitsBy_121 rfl ?_
      refine g_iz_ne (((t : Nat) : Int) - 1) 129 (mkI_ti (by omega)) d12_fitsBy_122 rfl (fun _ => ?_) (fun c122 => absurd c122 (by omega))
      refine g_lload d12_fitsBy_129 rfl ?_
      refine g_iload d12_fitsBy_131 rfl ?_
      refine g_i2lN (by omega) d12_fitsBy_133 ?_
      refine g_lmul d12_fitsBy_134 ?_
      refine g_topL (lN ((S (k + 1) / 10) * (cm s (k + 1)))) (lN_mul _ _) ?_
      refine g_ladd d12_fitsBy_135 ?_
      refine g_topL (lN ((sq (decide (t ≠ 1)) (decide (t ≠ 2 ∧ ¬ (s : Int) = x.toInt)) (cm s) S k 1) + ((S (k + 1) / 10) * (cm s (k + 1))))) (lN_add _ _) ?_
      refine g_lastN (1) _ d12_fitsBy_136 a_100 (rfl) (by omega) (by decide) t_100 ?_
      refine g_aload_n d12_fitsBy_137 rfl ?_
      refine g_get fl12_113 d12_fitsBy_138 f_74_50 ?_
      refine g_iload d12_fitsBy_141 rfl ?_
      refine g_ES1 sm12_later ml12_418 (r12_later ((k + 1)) (by omega) (Nat.le_refl 0)) (by omega) (Nat.le_of_ble_eq_true rfl) d12_fitsBy_143 ?_
      refine g_dup2 d12_fitsBy_146 rfl rfl ?_
      refine g_laldN ((lat ((k + 1)))) d12_fitsBy_147 a_100 (rfl) (by omega) (by decide) ?_
      refine g_topL (lN ((sq (decide (t ≠ 1)) (decide (t ≠ 2 ∧ ¬ (s : Int) = x.toInt)) (cm s) S k (lat (k + 1))))) (by rw [uL_sn (by omega)]; exact (congrFun e100 _).trans (hz _ hlat.1)) ?_
      refine g_iload_n d12_fitsBy_148 rfl ?_
      refine g_iconstv (nI 1) d12_fitsBy_149 rfl ?_
      refine g_ic_eq (((t : Nat) : Int) - 1) (1) 158 (mkI_ti (by omega)) (by decide) d12_fitsBy_150 rfl (fun c150 => absurd c150 (by omega)) (fun _ => ?_)
      refine g_iload_n d12_fitsBy_153 rfl ?_
      refine g_iload_n d12_fitsBy_154 rfl ?_
      refine g_ic_ne ((s : Nat) : Int) _ 162 (nI_ti (by omega)) (rfl) d12_fitsBy_155 rfl (fun _ => ?_) (fun c155 => absurd c155 (by omega))
      refine g_lload d12_fitsBy_162 rfl ?_
      refine g_bipushv (nI 10) d12_fitsBy_164 rfl ?_
      refine g_iload d12_fitsBy_166 rfl ?_
      refine g_isubN (by omega) d12_fitsBy_168 ?_
      refine g_i2lN (by omega) d12_fitsBy_169 ?_
      refine g_lmul d12_fitsBy_170 ?_
      refine g_topL (lN ((S (k + 1) / 10) * (10 - (cm s (k + 1))))) (lN_mul _ _) ?_
      refine g_ladd d12_fitsBy_171 ?_
      refine g_topL (lN ((sq (decide (t ≠ 1)) (decide (t ≠ 2 ∧ ¬ (s : Int) = x.toInt)) (cm s) S k (lat (k + 1))) + ((S (k + 1) / 10) * (10 - (cm s (k + 1)))))) (lN_add _ _) ?_
      refine g_lastN ((lat ((k + 1)))) _ d12_fitsBy_172 a_100 (rfl) (by omega) (by decide) t_100 ?_
      refine g_iincN d12_fitsBy_173 rfl (by decide) ?_
      refine g_goto 74 d12_fitsBy_176 rfl ?_
      refine g_lo [(0, .ref 74), (1, .int x), (2, .int (nI (s))), (3, .int (mkI t)), (4, .int (nI (k + 1 + 1)))] ⟨rfl, rfl, rfl, rfl, rfl, trivial⟩ ?_
      refine ih (k + 1) _ _ (by omega) ((hF4.ul (by decide) (by decide)).ul (by decide) (by decide)) (by rw [uL_n (by decide), uL_n (by decide), e99]; exact hM) (fun q hq => ?_)
      show _ = lN ((sq (decide (t ≠ 1)) (decide (t ≠ 2 ∧ ¬ (s : Int) = x.toInt)) (cm s) S k q) + (if q = 1 ∧ (decide (t ≠ 1)) = true then S (k + 1) / 10 * cm s (k + 1) else 0) + (if q = lat (k + 1) ∧ (decide (t ≠ 2 ∧ ¬ (s : Int) = x.toInt)) = true then S (k + 1) / 10 * (10 - cm s (k + 1)) else 0))
      rw [hU, hV]
      by_cases e1 : q = lat (k + 1)
      · subst e1
        rw [uL_ss, if_neg (by omega)]
        simp [hU, hV]
      · rw [uL_sn e1, if_neg (c := q = lat (k + 1) ∧ _) (fun z => e1 z.1)]
        by_cases e2 : q = 1
        · subst e2; rw [uL_ss]; simp [hU, hV]
        · rw [uL_sn e2, if_neg (fun z => e2 z.1), e100]; simpa [hU, hV] using hz q hq
    · have hU : (decide (t ≠ 1)) = false := by exact decide_eq_false (by omega)
      have hV : (decide (t ≠ 2 ∧ ¬ (s : Int) = x.toInt)) = true := by exact decide_eq_true hv
      refine g_iload d12_fitsBy_74 rfl ?_
      refine g_bipushv (nI 13) d12_fitsBy_76 rfl ?_
      refine g_ic_ge (((k + 1) : Nat) : Int) (13) 179 (nI_ti (by omega)) (by decide) d12_fitsBy_78 rfl (fun c78 => absurd c78 (by omega)) (fun _ => ?_)
      refine g_aload_n d12_fitsBy_81 rfl ?_
      refine g_get fl12_110 d12_fitsBy_82 f_74_49 ?_
      refine g_iload d12_fitsBy_85 rfl ?_
      refine g_laldN ((k + 1)) d12_fitsBy_87 a_99 (rfl) (by omega) (by decide) ?_
      refine g_topL (lN (S (k + 1))) ((congrFun hM _).trans (hS _ (by omega))) ?_
      refine g_ldc2 d12_fitsBy_88 kl12_223 ?_
      refine g_ldiv d12_fitsBy_91 (by decide) ?_
      refine g_topL (lN (S (k + 1) / 10)) (pk_lDiv (b := 10) (by omega) (by omega) (by omega)) ?_
      refine g_lstore d12_fitsBy_92 (by decide) ?_
      refine g_lload d12_fitsBy_94 rfl ?_
      refine g_lconstv (0) d12_fitsBy_96 rfl ?_
      refine g_lx_ne (((S (k + 1) / 10) : Nat) : Int) (0) 105 (pk_lT (by omega)) (by decide) d12_fitsBy_97 d12_fitsBy_98 rfl (fun _ => ?_) (fun c97 => absurd c97 (by omega))
      refine g_aload_n d12_fitsBy_105 rfl ?_
      refine g_iload_n d12_fitsBy_106 rfl ?_
      refine g_iload d12_fitsBy_107 rfl ?_
      refine g_XV2 vm12_comesOf ml12_406 c_74 (r12_comesOf (I := I2) (L := L2) s (k + 1) (by omega) (by omega) lf (ha.of (hF.1 76 (by decide) (by decide)) (hF.2.1 35 (by decide))) ((hF.2.1 15 (by decide)).trans ho) (Nat.le_refl 4)) (by omega) (Nat.le_of_ble_eq_true rfl) d12_fitsBy_109 (fun y hy => ?_)
      refine g_topI (nI (cm s (k + 1))) (by rw [← hcv2]; rfl) ?_
      obtain ⟨I4, L4⟩ := y
      have hF4 : FR [] [28, 32] [87, 88, 89, 99, 100] [33, 34] I L I4 L4 := hF.tr (hy.fr.up (by decide) (by decide) (by decide) (by decide))
      have e100 : L4 100 = L2 100 := hy.fr.2.2.1 100 (by decide) (by decide)
      have e99 : L4 99 = L2 99 := hy.fr.2.2.1 99 (by decide) (by decide)
      dsimp only
      refine g_istore d12_fitsBy_112 (by decide) ?_
      refine g_aload_n d12_fitsBy_114 rfl ?_
      refine g_get fl12_113 d12_fitsBy_115 f_74_50 ?_
      refine g_iconstv (nI 1) d12_fitsBy_118 rfl ?_
      refine g_dup2 d12_fitsBy_119 rfl rfl ?_
      refine g_laldN (1) d12_fitsBy_120 a_100 (rfl) (by omega) (by decide) ?_
      refine g_topL (lN ((sq (decide (t ≠ 1)) (decide (t ≠ 2 ∧ ¬ (s : Int) = x.toInt)) (cm s) S k 1))) ((congrFun e100 _).trans (hz 1 (by decide))) ?_
      refine g_iload_n d12_fitsBy_121 rfl ?_
      refine g_iz_ne (((t : Nat) : Int) - 1) 129 (mkI_ti (by omega)) d12_fitsBy_122 rfl (fun c122 => absurd c122 (by omega)) (fun _ => ?_)
      refine g_lconstv (0) d12_fitsBy_125 rfl ?_
      refine g_goto 135 d12_fitsBy_126 rfl ?_
      refine g_ladd d12_fitsBy_135 ?_
      refine g_topL (lN ((sq (decide (t ≠ 1)) (decide (t ≠ 2 ∧ ¬ (s : Int) = x.toInt)) (cm s) S k 1) + 0)) (lN_add _ _) ?_
      refine g_lastN (1) _ d12_fitsBy_136 a_100 (rfl) (by omega) (by decide) t_100 ?_
      refine g_aload_n d12_fitsBy_137 rfl ?_
      refine g_get fl12_113 d12_fitsBy_138 f_74_50 ?_
      refine g_iload d12_fitsBy_141 rfl ?_
      refine g_ES1 sm12_later ml12_418 (r12_later ((k + 1)) (by omega) (Nat.le_refl 0)) (by omega) (Nat.le_of_ble_eq_true rfl) d12_fitsBy_143 ?_
      refine g_dup2 d12_fitsBy_146 rfl rfl ?_
      refine g_laldN ((lat ((k + 1)))) d12_fitsBy_147 a_100 (rfl) (by omega) (by decide) ?_
      refine g_topL (lN ((sq (decide (t ≠ 1)) (decide (t ≠ 2 ∧ ¬ (s : Int) = x.toInt)) (cm s) S k (lat (k + 1))))) (by rw [uL_sn (by omega)]; exact (congrFun e100 _).trans (hz _ hlat.1)) ?_
      refine g_iload_n d12_fitsBy_148 rfl ?_
      refine g_iconstv (nI 1) d12_fitsBy_149 rfl ?_
      refine g_ic_eq (((t : Nat) : Int) - 1) (1) 158 (mkI_ti (by omega)) (by decide) d12_fitsBy_150 rfl (fun c150 => absurd c150 (by omega)) (fun _ => ?_)
      refine g_iload_n d12_fitsBy_153 rfl ?_
      refine g_iload_n d12_fitsBy_154 rfl ?_
      refine g_ic_ne ((s : Nat) : Int) _ 162 (nI_ti (by omega)) (rfl) d12_fitsBy_155 rfl (fun _ => ?_) (fun c155 => absurd c155 (by omega))
      refine g_lload d12_fitsBy_162 rfl ?_
      refine g_bipushv (nI 10) d12_fitsBy_164 rfl ?_
      refine g_iload d12_fitsBy_166 rfl ?_
      refine g_isubN (by omega) d12_fitsBy_168 ?_
      refine g_i2lN (by omega) d12_fitsBy_169 ?_
      refine g_lmul d12_fitsBy_170 ?_
      refine g_topL (lN ((S (k + 1) / 10) * (10 - (cm s (k + 1))))) (lN_mul _ _) ?_
      refine g_ladd d12_fitsBy_171 ?_
      refine g_topL (lN ((sq (decide (t ≠ 1)) (decide (t ≠ 2 ∧ ¬ (s : Int) = x.toInt)) (cm s) S k (lat (k + 1))) + ((S (k + 1) / 10) * (10 - (cm s (k + 1)))))) (lN_add _ _) ?_
      refine g_lastN ((lat ((k + 1)))) _ d12_fitsBy_172 a_100 (rfl) (by omega) (by decide) t_100 ?_
      refine g_iincN d12_fitsBy_173 rfl (by decide) ?_
      refine g_goto 74 d12_fitsBy_176 rfl ?_
      refine g_lo [(0, .ref 74), (1, .int x), (2, .int (nI (s))), (3, .int (mkI t)), (4, .int (nI (k + 1 + 1)))] ⟨rfl, rfl, rfl, rfl, rfl, trivial⟩ ?_
      refine ih (k + 1) _ _ (by omega) ((hF4.ul (by decide) (by decide)).ul (by decide) (by decide)) (by rw [uL_n (by decide), uL_n (by decide), e99]; exact hM) (fun q hq => ?_)
      show _ = lN ((sq (decide (t ≠ 1)) (decide (t ≠ 2 ∧ ¬ (s : Int) = x.toInt)) (cm s) S k q) + (if q = 1 ∧ (decide (t ≠ 1)) = true then S (k + 1) / 10 * cm s (k + 1) else 0) + (if q = lat (k + 1) ∧ (decide (t ≠ 2 ∧ ¬ (s : Int) = x.toInt)) = true then S (k + 1) / 10 * (10 - cm s (k + 1)) else 0))
      rw [hU, hV]
      by_cases e1 : q = lat (k + 1)
      · subst e1
        rw [uL_ss, if_neg (by omega)]
        simp [hU, hV]
      · rw [uL_sn e1, if_neg (c := q = lat (k + 1) ∧ _) (fun z => e1 z.1)]
        by_cases e2 : q = 1
        · subst e2; rw [uL_ss]; simp [hU, hV]
        · rw [uL_sn e2, if_neg (fun z => e2 z.1), e100]; simpa [hU, hV] using hz q hq
    · have hU : (decide (t ≠ 1)) = true := by exact decide_eq_true hu
      have hV : (decide (t ≠ 2 ∧ ¬ (s : Int) = x.toInt)) = false := by exact decide_eq_false (by omega)
      refine g_iload d12_fitsBy_74 rfl ?_
      refine g_bipushv (nI 13) d12_fitsBy_76 rfl ?_
      refine g_ic_ge (((k + 1) : Nat) : Int) (13) 179 (nI_ti (by omega)) (by decide) d12_fitsBy_78 rfl (fun c78 => absurd c78 (by omega)) (fun _ => ?_)
      refine g_aload_n d12_fitsBy_81 rfl ?_
      refine g_get fl12_110 d12_fitsBy_82 f_74_49 ?_
      refine g_iload d12_fitsBy_85 rfl ?_
      refine g_laldN ((k + 1)) d12_fitsBy_87 a_99 (rfl) (by omega) (by decide) ?_
      refine g_topL (lN (S (k + 1))) ((congrFun hM _).trans (hS _ (by omega))) ?_
      refine g_ldc2 d12_fitsBy_88 kl12_223 ?_
      refine g_ldiv d12_fitsBy_91 (by decide) ?_
      refine g_topL (lN (S (k + 1) / 10)) (pk_lDiv (b := 10) (by omega) (by omega) (by omega)) ?_
      refine g_lstore d12_fitsBy_92 (by decide) ?_
      refine g_lload d12_fitsBy_94 rfl ?_
      refine g_lconstv (0) d12_fitsBy_96 rfl ?_
      refine g_lx_ne (((S (k + 1) / 10) : Nat) : Int) (0) 105 (pk_lT (by omega)) (by decide) d12_fitsBy_97 d12_fitsBy_98 rfl (fun _ => ?_) (fun c97 => absurd c97 (by omega))
      refine g_aload_n d12_fitsBy_105 rfl ?_
      refine g_iload_n d12_fitsBy_106 rfl ?_
      refine g_iload d12_fitsBy_107 rfl ?_
      refine g_XV2 vm12_comesOf ml12_406 c_74 (r12_comesOf (I := I2) (L := L2) s (k + 1) (by omega) (by omega) lf (ha.of (hF.1 76 (by decide) (by decide)) (hF.2.1 35 (by decide))) ((hF.2.1 15 (by decide)).trans ho) (Nat.le_refl 4)) (by omega) (Nat.le_of_ble_eq_true rfl) d12_fitsBy_109 (fun y hy => ?_)
      refine g_topI (nI (cm s (k + 1))) (by rw [← hcv2]; rfl) ?_
      obtain ⟨I4, L4⟩ := y
      have hF4 : FR [] [28, 32] [87, 88, 89, 99, 100] [33, 34] I L I4 L4 := hF.tr (hy.fr.up (by decide) (by decide) (by decide) (by decide))
      have e100 : L4 100 = L2 100 := hy.fr.2.2.1 100 (by decide) (by decide)
      have e99 : L4 99 = L2 99 := hy.fr.2.2.1 99 (by decide) (by decide)
      dsimp only
      refine g_istore d12_fitsBy_112 (by decide) ?_
      refine g_aload_n d12_fitsBy_114 rfl ?_
      refine g_get fl12_113 d12_fitsBy_115 f_74_50 ?_
      refine g_iconstv (nI 1) d12_fitsBy_118 rfl ?_
      refine g_dup2 d12_fitsBy_119 rfl rfl ?_
      refine g_laldN (1) d12_fitsBy_120 a_100 (rfl) (by omega) (by decide) ?_
      refine g_topL (lN ((sq (decide (t ≠ 1)) (decide (t ≠ 2 ∧ ¬ (s : Int) = x.toInt)) (cm s) S k 1))) ((congrFun e100 _).trans (hz 1 (by decide))) ?_
      refine g_iload_n d12_fitsBy_121 rfl ?_
      refine g_iz_ne (((t : Nat) : Int) - 1) 129 (mkI_ti (by omega)) d12_fitsBy_122 rfl (fun _ => ?_) (fun c122 => absurd c122 (by omega))
      refine g_lload d12_fitsBy_129 rfl ?_
      refine g_iload d12_fitsBy_131 rfl ?_
      refine g_i2lN (by omega) d12_fitsBy_133 ?_
      refine g_lmul d12_fitsBy_134 ?_
      refine g_topL (lN ((S (k + 1) / 10) * (cm s (k + 1)))) (lN_mul _ _) ?_
      refine g_ladd d12_fitsBy_135 ?_
      refine g_topL (lN ((sq (decide (t ≠ 1)) (decide (t ≠ 2 ∧ ¬ (s : Int) = x.toInt)) (cm s) S k 1) + ((S (k + 1) / 10) * (cm s (k + 1))))) (lN_add _ _) ?_
      refine g_lastN (1) _ d12_fitsBy_136 a_100 (rfl) (by omega) (by decide) t_100 ?_
      refine g_aload_n d12_fitsBy_137 rfl ?_
      refine g_get fl12_113 d12_fitsBy_138 f_74_50 ?_
      refine g_iload d12_fitsBy_141 rfl ?_
      refine g_ES1 sm12_later ml12_418 (r12_later ((k + 1)) (by omega) (Nat.le_refl 0)) (by omega) (Nat.le_of_ble_eq_true rfl) d12_fitsBy_143 ?_
      refine g_dup2 d12_fitsBy_146 rfl rfl ?_
      refine g_laldN ((lat ((k + 1)))) d12_fitsBy_147 a_100 (rfl) (by omega) (by decide) ?_
      refine g_topL (lN ((sq (decide (t ≠ 1)) (decide (t ≠ 2 ∧ ¬ (s : Int) = x.toInt)) (cm s) S k (lat (k + 1))))) (by rw [uL_sn (by omega)]; exact (congrFun e100 _).trans (hz _ hlat.1)) ?_
      refine g_iload_n d12_fitsBy_148 rfl ?_
      refine g_iconstv (nI 1) d12_fitsBy_149 rfl ?_
      refine g_ic_eq (((t : Nat) : Int) - 1) (1) 158 (mkI_ti (by omega)) (by decide) d12_fitsBy_150 rfl (fun _ => ?_) (fun c150 => absurd c150 (by omega))
      refine g_lconstv (0) d12_fitsBy_158 rfl ?_
      refine g_goto 171 d12_fitsBy_159 rfl ?_
      refine g_ladd d12_fitsBy_171 ?_
      refine g_topL (lN ((sq (decide (t ≠ 1)) (decide (t ≠ 2 ∧ ¬ (s : Int) = x.toInt)) (cm s) S k (lat (k + 1))) + 0)) (lN_add _ _) ?_
      refine g_lastN ((lat ((k + 1)))) _ d12_fitsBy_172 a_100 (rfl) (by omega) (by decide) t_100 ?_
      refine g_iincN d12_fitsBy_173 rfl (by decide) ?_
      refine g_goto 74 d12_fitsBy_176 rfl ?_
      refine g_lo [(0, .ref 74), (1, .int x), (2, .int (nI (s))), (3, .int (mkI t)), (4, .int (nI (k + 1 + 1)))] ⟨rfl, rfl, rfl, rfl, rfl, trivial⟩ ?_
      refine ih (k + 1) _ _ (by omega) ((hF4.ul (by decide) (by decide)).ul (by decide) (by decide)) (by rw [uL_n (by decide), uL_n (by decide), e99]; exact hM) (fun q hq => ?_)
      show _ = lN ((sq (decide (t ≠ 1)) (decide (t ≠ 2 ∧ ¬ (s : Int) = x.toInt)) (cm s) S k q) + (if q = 1 ∧ (decide (t ≠ 1)) = true then S (k + 1) / 10 * cm s (k + 1) else 0) + (if q = lat (k + 1) ∧ (decide (t ≠ 2 ∧ ¬ (s : Int) = x.toInt)) = true then S (k + 1) / 10 * (10 - cm s (k + 1)) else 0))
      rw [hU, hV]
      by_cases e1 : q = lat (k + 1)
      · subst e1
        rw [uL_ss, if_neg (by omega)]
        simp [hU, hV]
      · rw [uL_sn e1, if_neg (c := q = lat (k + 1) ∧ _) (fun z => e1 z.1)]
        by_cases e2 : q = 1
        · subst e2; rw [uL_ss]; simp [hU, hV]
        · rw [uL_sn e2, if_neg (fun z => e2 z.1), e100]; simpa [hU, hV] using hz q hq
    · have hU : (decide (t ≠ 1)) = true := by exact decide_eq_true hu
      have hV : (decide (t ≠ 2 ∧ ¬ (s : Int) = x.toInt)) = false := by exact decide_eq_false (by omega)
      refine g_iload d12_fitsBy_74 rfl ?_
      refine g_bipushv (nI 13) d12_fitsBy_76 rfl ?_
      refine g_ic_ge (((k + 1) : Nat) : Int) (13) 179 (nI_ti (by omega)) (by decide) d12_fitsBy_78 rfl (fun c78 => absurd c78 (by omega)) (fun _ => ?_)
      refine g_aload_n d12_fitsBy_81 rfl ?_
      refine g_get fl12_110 d12_fitsBy_82 f_74_49 ?_
      refine g_iload d12_fitsBy_85 rfl ?_
      refine g_laldN ((k + 1)) d12_fitsBy_87 a_99 (rfl) (by omega) (by decide) ?_
      refine g_topL (lN (S (k + 1))) ((congrFun hM _).trans (hS _ (by omega))) ?_
      refine g_ldc2 d12_fitsBy_88 kl12_223 ?_
      refine g_ldiv d12_fitsBy_91 (by decide) ?_
      refine g_topL (lN (S (k + 1) / 10)) (pk_lDiv (b := 10) (by omega) (by omega) (by omega)) ?_
      refine g_lstore d12_fitsBy_92 (by decide) ?_
      refine g_lload d12_fitsBy_94 rfl ?_
      refine g_lconstv (0) d12_fitsBy_96 rfl ?_
      refine g_lx_ne (((S (k + 1) / 10) : Nat) : Int) (0) 105 (pk_lT (by omega)) (by decide) d12_fitsBy_97 d12_fitsBy_98 rfl (fun _ => ?_) (fun c97 => absurd c97 (by omega))
      refine g_aload_n d12_fitsBy_105 rfl ?_
      refine g_iload_n d12_fitsBy_106 rfl ?_
      refine g_iload d12_fitsBy_107 rfl ?_
      refine g_XV2 vm12_comesOf ml12_406 c_74 (r12_comesOf (I := I2) (L := L2) s (k + 1) (by omega) (by omega) lf (ha.of (hF.1 76 (by decide) (by decide)) (hF.2.1 35 (by decide))) ((hF.2.1 15 (by decide)).trans ho) (Nat.le_refl 4)) (by omega) (Nat.le_of_ble_eq_true rfl) d12_fitsBy_109 (fun y hy => ?_)
      refine g_topI (nI (cm s (k + 1))) (by rw [← hcv2]; rfl) ?_
      obtain ⟨I4, L4⟩ := y
      have hF4 : FR [] [28, 32] [87, 88, 89, 99, 100] [33, 34] I L I4 L4 := hF.tr (hy.fr.up (by decide) (by decide) (by decide) (by decide))
      have e100 : L4 100 = L2 100 := hy.fr.2.2.1 100 (by decide) (by decide)
      have e99 : L4 99 = L2 99 := hy.fr.2.2.1 99 (by decide) (by decide)
      dsimp only
      refine g_istore d12_fitsBy_112 (by decide) ?_
      refine g_aload_n d12_fitsBy_114 rfl ?_
      refine g_get fl12_113 d12_fitsBy_115 f_74_50 ?_
      refine g_iconstv (nI 1) d12_fitsBy_118 rfl ?_
      refine g_dup2 d12_fitsBy_119 rfl rfl ?_
      refine g_laldN (1) d12_fitsBy_120 a_100 (rfl) (by omega) (by decide) ?_
      refine g_topL (lN ((sq (decide (t ≠ 1)) (decide (t ≠ 2 ∧ ¬ (s : Int) = x.toInt)) (cm s) S k 1))) ((congrFun e100 _).trans (hz 1 (by decide))) ?_
      refine g_iload_n d12_fitsBy_121 rfl ?_
      refine g_iz_ne (((t : Nat) : Int) - 1) 129 (mkI_ti (by omega)) d12_fitsBy_122 rfl (fun _ => ?_) (fun c122 => absurd c122 (by omega))
      refine g_lload d12_fitsBy_129 rfl ?_
      refine g_iload d12_fitsBy_131 rfl ?_
      refine g_i2lN (by omega) d12_fitsBy_133 ?_
      refine g_lmul d12_fitsBy_134 ?_
      refine g_topL (lN ((S (k + 1) / 10) * (cm s (k + 1)))) (lN_mul _ _) ?_
      refine g_ladd d12_fitsBy_135 ?_
      refine g_topL (lN ((sq (decide (t ≠ 1)) (decide (t ≠ 2 ∧ ¬ (s : Int) = x.toInt)) (cm s) S k 1) + ((S (k + 1) / 10) * (cm s (k + 1))))) (lN_add _ _) ?_
      refine g_lastN (1) _ d12_fitsBy_136 a_100 (rfl) (by omega) (by decide) t_100 ?_
      refine g_aload_n d12_fitsBy_137 rfl ?_
      refine g_get fl12_113 d12_fitsBy_138 f_74_50 ?_
      refine g_iload d12_fitsBy_141 rfl ?_
      refine g_ES1 sm12_later ml12_418 (r12_later ((k + 1)) (by omega) (Nat.le_refl 0)) (by omega) (Nat.le_of_ble_eq_true rfl) d12_fitsBy_143 ?_
      refine g_dup2 d12_fitsBy_146 rfl rfl ?_
      refine g_laldN ((lat ((k + 1)))) d12_fitsBy_147 a_100 (rfl) (by omega) (by decide) ?_
      refine g_topL (lN ((sq (decide (t ≠ 1)) (decide (t ≠ 2 ∧ ¬ (s : Int) = x.toInt)) (cm s) S k (lat (k + 1))))) (by rw [uL_sn (by omega)]; exact (congrFun e100 _).trans (hz _ hlat.1)) ?_
      refine g_iload_n d12_fitsBy_148 rfl ?_
      refine g_iconstv (nI 1) d12_fitsBy_149 rfl ?_
      refine g_ic_eq (((t : Nat) : Int) - 1) (1) 158 (mkI_ti (by omega)) (by decide) d12_fitsBy_150 rfl (fun c150 => absurd c150 (by omega)) (fun _ => ?_)
      refine g_iload_n d12_fitsBy_153 rfl ?_
      refine g_iload_n d12_fitsBy_154 rfl ?_
      refine g_ic_ne ((s : Nat) : Int) _ 162 (nI_ti (by omega)) (rfl) d12_fitsBy_155 rfl (fun c155 => absurd c155 (by omega)) (fun _ => ?_)
      refine g_lconstv (0) d12_fitsBy_158 rfl ?_
      refine g_goto 171 d12_fitsBy_159 rfl ?_
      refine g_ladd d12_fitsBy_171 ?_
      refine g_topL (lN ((sq (decide (t ≠ 1)) (decide (t ≠ 2 ∧ ¬ (s : Int) = x.toInt)) (cm s) S k (lat (k + 1))) + 0)) (lN_add _ _) ?_
      refine g_lastN ((lat ((k + 1)))) _ d12_fitsBy_172 a_100 (rfl) (by omega) (by decide) t_100 ?_
      refine g_iincN d12_fitsBy_173 rfl (by decide) ?_
      refine g_goto 74 d12_fitsBy_176 rfl ?_
      refine g_lo [(0, .ref 74), (1, .int x), (2, .int (nI (s))), (3, .int (mkI t)), (4, .int (nI (k + 1 + 1)))] ⟨rfl, rfl, rfl, rfl, rfl, trivial⟩ ?_
      refine ih (k + 1) _ _ (by omega) ((hF4.ul (by decide) (by decide)).ul (by decide) (by decide)) (by rw [uL_n (by decide), uL_n (by decide), e99]; exact hM) (fun q hq => ?_)
      show _ = lN ((sq (decide (t ≠ 1)) (decide (t ≠ 2 ∧ ¬ (s : Int) = x.toInt)) (cm s) S k q) + (if q = 1 ∧ (decide (t ≠ 1)) = true then S (k + 1) / 10 * cm s (k + 1) else 0) + (if q = lat (k + 1) ∧ (decide (t ≠ 2 ∧ ¬ (s : Int) = x.toInt)) = true then S (k + 1) / 10 * (10 - cm s (k + 1)) else 0))
      rw [hU, hV]
      by_cases e1 : q = lat (k + 1)
      · subst e1
        rw [uL_ss, if_neg (by omega)]
        simp [hU, hV]
      · rw [uL_sn e1, if_neg (c := q = lat (k + 1) ∧ _) (fun z => e1 z.1)]
        by_cases e2 : q = 1
        · subst e2; rw [uL_ss]; simp [hU, hV]
        · rw [uL_sn e2, if_neg (fun z => e2 z.1), e100]; simpa [hU, hV] using hz q hq
    · have hU : (decide (t ≠ 1)) = false := by exact decide_eq_false (by omega)
      have hV : (decide (t ≠ 2 ∧ ¬ (s : Int) = x.toInt)) = false := by exact decide_eq_false (by omega)
      refine g_iload d12_fitsBy_74 rfl ?_
      refine g_bipushv (nI 13) d12_fitsBy_76 rfl ?_
      refine g_ic_ge (((k + 1) : Nat) : Int) (13) 179 (nI_ti (by omega)) (by decide) d12_fitsBy_78 rfl (fun c78 => absurd c78 (by omega)) (fun _ => ?_)
      refine g_aload_n d12_fitsBy_81 rfl ?_
      refine g_get fl12_110 d12_fitsBy_82 f_74_49 ?_
      refine g_iload d12_fitsBy_85 rfl ?_
      refine g_laldN ((k + 1)) d12_fitsBy_87 a_99 (rfl) (by omega) (by decide) ?_
      refine g_topL (lN (S (k + 1))) ((congrFun hM _).trans (hS _ (by omega))) ?_
      refine g_ldc2 d12_fitsBy_88 kl12_223 ?_
      refine g_ldiv d12_fitsBy_91 (by decide) ?_
      refine g_topL (lN (S (k + 1) / 10)) (pk_lDiv (b := 10) (by omega) (by omega) (by omega)) ?_
      refine g_lstore d12_fitsBy_92 (by decide) ?_
      refine g_lload d12_fitsBy_94 rfl ?_
      refine g_lconstv (0) d12_fitsBy_96 rfl ?_
      refine g_lx_ne (((S (k + 1) / 10) : Nat) : Int) (0) 105 (pk_lT (by omega)) (by decide) d12_fitsBy_97 d12_fitsBy_98 rfl (fun _ => ?_) (fun c97 => absurd c97 (by omega))
      refine g_aload_n d12_fitsBy_105 rfl ?_
      refine g_iload_n d12_fitsBy_106 rfl ?_
      refine g_iload d12_fitsBy_107 rfl ?_
      refine g_XV2 vm12_comesOf ml12_406 c_74 (r12_comesOf (I := I2) (L := L2) s (k + 1) (by omega) (by omega) lf (ha.of (hF.1 76 (by decide) (by decide)) (hF.2.1 35 (by decide))) ((hF.2.1 15 (by decide)).trans ho) (Nat.le_refl 4)) (by omega) (Nat.le_of_ble_eq_true rfl) d12_fitsBy_109 (fun y hy => ?_)
      refine g_topI (nI (cm s (k + 1))) (by rw [← hcv2]; rfl) ?_
      obtain ⟨I4, L4⟩ := y
      have hF4 : FR [] [28, 32] [87, 88, 89, 99, 100] [33, 34] I L I4 L4 := hF.tr (hy.fr.up (by decide) (by decide) (by decide) (by decide))
      have e100 : L4 100 = L2 100 := hy.fr.2.2.1 100 (by decide) (by decide)
      have e99 : L4 99 = L2 99 := hy.fr.2.2.1 99 (by decide) (by decide)
      dsimp only
      refine g_istore d12_fitsBy_112 (by decide) ?_
      refine g_aload_n d12_fitsBy_114 rfl ?_
      refine g_get fl12_113 d12_fitsBy_115 f_74_50 ?_
      refine g_iconstv (nI 1) d12_fitsBy_118 rfl ?_
      refine g_dup2 d12_fitsBy_119 rfl rfl ?_
      refine g_laldN (1) d12_fitsBy_120 a_100 (rfl) (by omega) (by decide) ?_
      refine g_topL (lN ((sq (decide (t ≠ 1)) (decide (t ≠ 2 ∧ ¬ (s : Int) = x.toInt)) (cm s) S k 1))) ((congrFun e100 _).trans (hz 1 (by decide))) ?_
      refine g_iload_n d12_fitsBy_121 rfl ?_
      refine g_iz_ne (((t : Nat) : Int) - 1) 129 (mkI_ti (by omega)) d12_fitsBy_122 rfl (fun c122 => absurd c122 (by omega)) (fun _ => ?_)
      refine g_lconstv (0) d12_fitsBy_125 rfl ?_
      refine g_goto 135 d12_fitsBy_126 rfl ?_
      refine g_ladd d12_fitsBy_135 ?_
      refine g_topL (lN ((sq (decide (t ≠ 1)) (decide (t ≠ 2 ∧ ¬ (s : Int) = x.toInt)) (cm s) S k 1) + 0)) (lN_add _ _) ?_
      refine g_lastN (1) _ d12_fitsBy_136 a_100 (rfl) (by omega) (by decide) t_100 ?_
      refine g_aload_n d12_fitsBy_137 rfl ?_
      refine g_get fl12_113 d12_fitsBy_138 f_74_50 ?_
      refine g_iload d12_fitsBy_141 rfl ?_
      refine g_ES1 sm12_later ml12_418 (r12_later ((k + 1)) (by omega) (Nat.le_refl 0)) (by omega) (Nat.le_of_ble_eq_true rfl) d12_fitsBy_143 ?_
      refine g_dup2 d12_fitsBy_146 rfl rfl ?_
      refine g_laldN ((lat ((k + 1)))) d12_fitsBy_147 a_100 (rfl) (by omega) (by decide) ?_
      refine g_topL (lN ((sq (decide (t ≠ 1)) (decide (t ≠ 2 ∧ ¬ (s : Int) = x.toInt)) (cm s) S k (lat (k + 1))))) (by rw [uL_sn (by omega)]; exact (congrFun e100 _).trans (hz _ hlat.1)) ?_
      refine g_iload_n d12_fitsBy_148 rfl ?_
      refine g_iconstv (nI 1) d12_fitsBy_149 rfl ?_
      refine g_ic_eq (((t : Nat) : Int) - 1) (1) 158 (mkI_ti (by omega)) (by decide) d12_fitsBy_150 rfl (fun c150 => absurd c150 (by omega)) (fun _ => ?_)
      refine g_iload_n d12_fitsBy_153 rfl ?_
      refine g_iload_n d12_fitsBy_154 rfl ?_
      refine g_ic_ne ((s : Nat) : Int) _ 162 (nI_ti (by omega)) (rfl) d12_fitsBy_155 rfl (fun c155 => absurd c155 (by omega)) (fun _ => ?_)
      refine g_lconstv (0) d12_fitsBy_158 rfl ?_
      refine g_goto 171 d12_fitsBy_159 rfl ?_
      refine g_ladd d12_fitsBy_171 ?_
      refine g_topL (lN ((sq (decide (t ≠ 1)) (decide (t ≠ 2 ∧ ¬ (s : Int) = x.toInt)) (cm s) S k (lat (k + 1))) + 0)) (lN_add _ _) ?_
      refine g_lastN ((lat ((k + 1)))) _ d12_fitsBy_172 a_100 (rfl) (by omega) (by decide) t_100 ?_
      refine g_iincN d12_fitsBy_173 rfl (by decide) ?_
      refine g_goto 74 d12_fitsBy_176 rfl ?_
      refine g_lo [(0, .ref 74), (1, .int x), (2, .int (nI (s))), (3, .int (mkI t)), (4, .int (nI (k + 1 + 1)))] ⟨rfl, rfl, rfl, rfl, rfl, trivial⟩ ?_
      refine ih (k + 1) _ _ (by omega) ((hF4.ul (by decide) (by decide)).ul (by decide) (by decide)) (by rw [uL_n (by decide), uL_n (by decide), e99]; exact hM) (fun q hq => ?_)
      show _ = lN ((sq (decide (t ≠ 1)) (decide (t ≠ 2 ∧ ¬ (s : Int) = x.toInt)) (cm s) S k q) + (if q = 1 ∧ (decide (t ≠ 1)) = true then S (k + 1) / 10 * cm s (k + 1) else 0) + (if q = lat (k + 1) ∧ (decide (t ≠ 2 ∧ ¬ (s : Int) = x.toInt)) = true then S (k + 1) / 10 * (10 - cm s (k + 1)) else 0))
      rw [hU, hV]
      by_cases e1 : q = lat (k + 1)
      · subst e1
        rw [uL_ss, if_neg (by omega)]
        simp [hU, hV]
      · rw [uL_sn e1, if_neg (c := q = lat (k + 1) ∧ _) (fun z => e1 z.1)]
        by_cases e2 : q = 1
        · subst e2; rw [uL_ss]; simp [hU, hV]
        · rw [uL_sn e2, if_neg (fun z => e2 z.1), e100]; simpa [hU, hV] using hz q hq
set_option maxHeartbeats 800000 in
theorem r12_fb4 {l : Launch} {K : cK} {d : Nat} {I : wI} {L : wL} {R : wR} {dy : cH} {Q : Option Value → cH → Prop} (lf : lawF) (ha : askd I lf) (ho : I 74 15 = 0) (cm : Nat → Nat → Nat) (hcv : cmv I lf = cm) (n : Nat) (ss sc : Nat → Nat) (hSL : SLP I n ss sc) (s0 : Nat) (h10 : I 76 10 = nI s0) (hs2 : s0 ≤ 12) (x : Int32) (hd : 5 ≤ d)
    (kk : ∀ (I3 : wI) (L3 : wL), (FR [] [28, 32] [87, 88, 89, 99, 100] [33, 34] I L I3 L3) → (∀ q, q ≤ 12 → L3 99 q = lN (pq (fun s => decide (sO ss sc s n 0 ≠ 1)) (fun s => decide (sO ss sc s n 0 ≠ 2 ∧ ¬ (s : Int) = x.toInt)) cm s0 (12) q)) → GL l K m12_fitsBy d 0 0 215 [(0, .ref 74), (1, .int x)] [] (hp I3 L3 R dy) Q) :
    ∀ (zn s : Nat) (I2 : wI) (L2 : wL), s + zn = 12 → (FR [] [28, 32] [87, 88, 89, 99, 100] [33, 34] I L I2 L2) → (∀ q, q ≤ 12 → L2 99 q = lN (pq (fun s => decide (sO ss sc s n 0 ≠ 1)) (fun s => decide (sO ss sc s n 0 ≠ 2 ∧ ¬ (s : Int) = x.toInt)) cm s0 (s) q)) → GL l K m12_fitsBy d 0 0 38 [(0, .ref 74), (1, .int x), (2, .int (nI (s)))] [] (hp I2 L2 R dy) Q := by
  have hcm : ∀ s k, cm s k ≤ 10 := by rw [← hcv]; exact cmv_le I lf
  intro zn
  induction zn with
  | zero =>
    intro s I2 L2 hin hF hz
    obtain rfl : 12 = s := by omega
    refine g_iload_n d12_fitsBy_38 rfl ?_
    refine g_bipushv (nI 12) d12_fitsBy_39 rfl ?_
    refine g_ic_ge ((12 : Nat) : Int) (12) 215 (nI_ti (by omega)) (by decide) d12_fitsBy_41 rfl (fun _ => ?_) (fun c41 => absurd c41 (by decide))
    refine g_lo [(0, .ref 74), (1, .int x)] ⟨rfl, rfl, trivial⟩ ?_
    exact kk I2 L2 hF hz
  | succ zn ih =>
    intro s I2 L2 hin hF hz
    refine g_iload_n d12_fitsBy_38 rfl ?_
    refine g_bipushv (nI 12) d12_fitsBy_39 rfl ?_
    refine g_ic_ge ((s : Nat) : Int) (12) 215 (nI_ti (by omega)) (by decide) d12_fitsBy_41 rfl (fun c41 => absurd c41 (by omega)) (fun _ => ?_)
    refine g_iconstv (nI 0) d12_fitsBy_44 rfl ?_
    refine g_istore_n d12_fitsBy_45 (by decide) ?_
    refine g_lo [(0, .ref 74), (1, .int x), (2, .int (nI (s))), (3, .int (nI (0)))] ⟨rfl, rfl, rfl, rfl, trivial⟩ ?_
    refine r12_fb1 (I := I2) (L := L2) s x (fun L3 hL3 hz3 => ?_) 13 0 L2 (by omega) (fun q _ => rfl) (fun q hq => by omega)
    have hF3 : FR [] [28, 32] [87, 88, 89, 99, 100] [33, 34] I L I2 L3 := hF.tr ⟨fun _ _ _ => rfl, fun _ _ => rfl, fun q h1 _ => hL3 q (fun z => h1 (by simp [z])), fun j _ => by rw [hL3 74 (by decide)]⟩
    have hb := sO_le (ss := ss) (slot := s) (fun k hk => (hSL.2.2 k hk).2.2.2) n 0 (by omega)
    refine g_aload_n d12_fitsBy_65 rfl ?_
    refine g_iload_n d12_fitsBy_66 rfl ?_
    refine g_EV1 vm12_slipOf ml12_536 c_74 (r12_slipOf (I := I2) (L := L3) n ss sc (hSL.of (hF.1 76 (by decide) (by decide))) s (by omega) (Nat.le_refl 0)) (by omega) (Nat.le_of_ble_eq_true rfl) d12_fitsBy_67 ?_
    refine g_istore_n d12_fitsBy_70 (by decide) ?_
    refine g_iconstv (nI 1) d12_fitsBy_71 rfl ?_
    refine g_istore d12_fitsBy_72 (by decide) ?_
    refine g_lo [(0, .ref 74), (1, .int x), (2, .int (nI (s))), (3, .int (mkI (sO ss sc s n 0))), (4, .int (nI (0 + 1)))] ⟨rfl, rfl, rfl, rfl, rfl, trivial⟩ ?_
    refine r12_fb2 (I := I) (L := L) lf ha ho cm hcv s (sO ss sc s n 0) (by omega) hb x (pq (fun s => decide (sO ss sc s n 0 ≠ 1)) (fun s => decide (sO ss sc s n 0 ≠ 2 ∧ ¬ (s : Int) = x.toInt)) cm s0 s) (fun k a b => pq_le _ _ cm s0 hcm a b) L3 (fun k hk => (congrFun (hL3 99 (by decide)) k).trans (hz k hk)) hd (fun I4 L4 hF4 hz4 => ?_) 12 0 I2 L3 (by decide) hF3 rfl (fun q hq => hz3 q (by omega))
    refine g_iconstv (nI 0) d12_fitsBy_179 rfl ?_
    refine g_istore d12_fitsBy_180 (by decide) ?_
    refine g_lo [(0, .ref 74), (1, .int x), (2, .int (nI (s))), (4, .int (nI (0)))] ⟨rfl, rfl, rfl, rfl, trivial⟩ ?_
    refine r12_fb3 (I := I4) (L := L4) s x (fun L5 hL5 hz5 => ?_) 13 0 L4 (by omega) (fun q _ => rfl) (fun q hq => by omega)
    refine g_iincN d12_fitsBy_209 rfl (by decide) ?_
    refine g_goto 38 d12_fitsBy_212 rfl ?_
    refine g_lo [(0, .ref 74), (1, .int x), (2, .int (nI (s + 1)))] ⟨rfl, rfl, rfl, trivial⟩ ?_
    have hF5 : FR [] [28, 32] [87, 88, 89, 99, 100] [33, 34] I L I4 L5 := hF4.tr ⟨fun _ _ _ => rfl, fun _ _ => rfl, fun q h1 _ => hL5 q (fun z => h1 (by simp [z])), fun j _ => by rw [hL5 74 (by decide)]⟩
    exact ih (s + 1) I4 L5 (by omega) hF5 (fun q hq => (hz5 q (by omega)).trans (hz4 q hq))
set_option maxHeartbeats 400000 in
theorem r12_fitsBy {l : Launch} {K : cK} {d : Nat} {I : wI} {L : wL} {R : wR} {dy : cH} (lf : lawF) (ha : askd I lf) (ho : I 74 15 = 0) (cm : Nat → Nat → Nat) (hcv : cmv I lf = cm) (n : Nat) (ss sc : Nat → Nat) (hSL : SLP I n ss sc) (s0 : Nat) (h10 : I 76 10 = nI s0) (hs2 : s0 ≤ 12) (x : Int32) (hd : 5 ≤ d) : CX l K m12_fitsBy d [.ref 74, .int x] (hp I L R dy) (α := wI × wL) (fun x => FR [] [28, 32] [87, 88, 89, 99, 100] [33, 34] I L x.1 x.2) (fun _ => .long (lN (sm (pq (fun s => decide (sO ss sc s n 0 ≠ 1)) (fun s => decide (sO ss sc s n 0 ≠ 2 ∧ ¬ (s : Int) = x.toInt)) cm s0 12) 12))) (fun x => hp x.1 x.2 R dy) := by
  refine CC.of ok12_fitsBy (Nat.le_of_ble_eq_true rfl) ?_
  refine g_iconstv (nI 0) d12_fitsBy_0 rfl ?_
  refine g_istore_n d12_fitsBy_1 (by decide) ?_
  refine g_lo [(0, .ref 74), (1, .int x), (2, .int (nI (0)))] ⟨rfl, rfl, rfl, trivial⟩ ?_
  refine r12_fb0 s0 h10 hs2 x (by omega) (fun L3 hL3 hz3 => ?_) 13 0 L (by omega) (fun q _ => rfl) (fun q hq => by omega)
  refine g_iconstv (nI 0) d12_fitsBy_36 rfl ?_
  refine g_istore_n d12_fitsBy_37 (by decide) ?_
  refine g_lo [(0, .ref 74), (1, .int x), (2, .int (nI (0)))] ⟨rfl, rfl, rfl, trivial⟩ ?_
  have hF3 : FR [] [28, 32] [87, 88, 89, 99, 100] [33, 34] I L I L3 := ⟨fun _ _ _ => rfl, fun _ _ => rfl, fun q h1 _ => hL3 q (fun z => h1 (by simp [z])), fun j _ => by rw [hL3 74 (by decide)]⟩
  refine r12_fb4 lf ha ho cm hcv n ss sc hSL s0 h10 hs2 x hd (fun I4 L4 hF4 hz4 => ?_) 12 0 I L3 (by omega) hF3 (fun q hq => hz3 q (by omega))
  refine g_lconstv (0) d12_fitsBy_215 rfl ?_
  refine g_lstore_n d12_fitsBy_216 (by decide) ?_
  refine g_iconstv (nI 1) d12_fitsBy_217 rfl ?_
  refine g_istore d12_fitsBy_218 (by decide) ?_
  refine g_lo [(0, .ref 74), (2, .long (lN (sm (pq (fun s => decide (sO ss sc s n 0 ≠ 1)) (fun s => decide (sO ss sc s n 0 ≠ 2 ∧ ¬ (s : Int) = x.toInt)) cm s0 12) 0))), (4, .int (nI (0 + 1)))] ⟨rfl, rfl, rfl, trivial⟩ ?_
  refine r12_fb5 (I := I4) (L := L4) (pq (fun s => decide (sO ss sc s n 0 ≠ 1)) (fun s => decide (sO ss sc s n 0 ≠ 2 ∧ ¬ (s : Int) = x.toInt)) cm s0 12) hz4 (fun _ => ?_) 12 0 (by omega) (by omega)
  refine g_lload_n d12_fitsBy_243 rfl ?_
  exact g_lret rfl d12_fitsBy_244 (⟨(I4, L4), hF4, rfl, rfl⟩)
set_option maxHeartbeats 200000 in
theorem r12_fits_no {l : Launch} {K : cK} {d : Nat} {I : wI} {L : wL} {R : wR} {dy : cH} (nl : Nat) (hnl : I 76 1 = nI nl) (hnl6 : nl ≤ 6) (x : Int32) (hbad : ¬ (x.toInt = -1 ∨ (0 ≤ x.toInt ∧ x.toInt < nl))) (hd : 2 ≤ d) : CE l K m12_fits d [.ref 74, .int x] (hp I L R dy) (.long (-1)) (hp (uI I 74 0 0) L R dy) := by
  refine CC.of ok12_fits (Nat.le_of_ble_eq_true rfl) ?_
  refine g_aload_n d12_fits_0 rfl ?_
  refine g_iconstv (nI 0) d12_fits_1 rfl ?_
  refine g_putIh _ fl12_128 d12_fits_2 f_74_0 s_74_0 ?_
  refine g_iload_n d12_fits_5 rfl ?_
  refine g_iconstv ((-1 : Int32)) d12_fits_6 rfl ?_
  refine g_ic_eq _ (-1) 22 (rfl) (by decide) d12_fits_7 rfl (fun c7 => ?_) (fun c7 => ?_)
  · exact absurd (Or.inl c7) hbad
  · refine g_aload_n d12_fits_10 rfl ?_
    refine g_iload_n d12_fits_11 rfl ?_
    refine g_EV1 vm12_isLaw ml12_349 c_74 (r12_isLawI  nl (by exact hnl) hnl6 (rfl) (Nat.le_refl 1)) (by omega) (Nat.le_of_ble_eq_true rfl) d12_fits_12 ?_
    refine g_bnz 22 d12_fits_15 rfl (fun c15 => ?_) (fun c15 => ?_)
    · exact absurd (Or.inr c15) hbad
    · refine g_ldc2 d12_fits_18 kl12_219 ?_
      exact g_lret rfl d12_fits_21 (⟨rfl, rfl⟩)
set_option maxHeartbeats 400000 in
theorem r12_fits_none {l : Launch} {K : cK} {d : Nat} {I : wI} {L : wL} {R : wR} {dy : cH} (coin per fine s0 : Nat) (hT : RT I coin per fine s0) (n : Nat) (ss sc : Nat → Nat) (hSL : SLP I n ss sc) (nl : Nat) (hnl : I 76 1 = nI nl) (hnl6 : nl ≤ 6)  (hd : 6 ≤ d) : CX l K m12_fits d [.ref 74, .int (-1)] (hp I L R dy) (α := wI × wL) (fun x => FR [90, 92, 93, 96, 98] [0, 28, 32, 35, 36, 43, 44] [87, 88, 89, 91, 94, 95, 97, 99, 100] [33, 34, 42] I L x.1 x.2) (fun _ => .long (lN (sm (pq (fun s => decide (sO ss sc s n 0 ≠ 1)) (fun s => decide (sO ss sc s n 0 ≠ 2 ∧ ¬ (s : Int) = (-1 : Int32).toInt)) (cmR (I 76) (I 76 11) none) s0 12) 12))) (fun x => hp x.1 x.2 R dy) := by
  obtain ⟨t1, t2, t3, t4, t5, t6, t7, t8, t9, t10, t11, t12⟩ := id hT
  refine CC.of ok12_fits (Nat.le_of_ble_eq_true rfl) ?_
  refine g_aload_n d12_fits_0 rfl ?_
  refine g_iconstv (nI 0) d12_fits_1 rfl ?_
  refine g_putIh _ fl12_128 d12_fits_2 f_74_0 s_74_0 ?_
  refine g_iload_n d12_fits_5 rfl ?_
  refine g_iconstv ((-1 : Int32)) d12_fits_6 rfl ?_
  refine g_ic_eq (-1) (-1) 22 (by decide) (by decide) d12_fits_7 rfl (fun _ => ?_) (fun c7 => absurd c7 (by decide))
  refine g_aload_n d12_fits_22 rfl ?_
  refine g_VV0 vm12_askNow ml12_403 c_74 (r12_askNow (Nat.le_refl 1)) (by omega) (Nat.le_of_ble_eq_true rfl) d12_fits_23 ?_
  refine g_aload_n d12_fits_26 rfl ?_
  refine g_iload_n d12_fits_27 rfl ?_
  refine g_putIh _ fl12_384 d12_fits_28 f_74_35 s_74_35 ?_
  refine g_aload_n d12_fits_31 rfl ?_
  refine g_iconstv ((-1 : Int32)) d12_fits_32 rfl ?_
  refine g_XV1 vm12_fitsBy ml12_539 c_74 (r12_fitsBy (I := (uI (uI (uI (uI I 74 0 0) 74 35 (I 76 5)) 74 36 (I 76 11)) 74 35 (-1))) none (Or.inl ⟨rfl, uI_ss⟩) (by exact t12) (cmR (I 76) (I 76 11) none) rfl n ss sc (by exact hSL) s0 (by exact t9) t11 (-1) (Nat.le_refl 5)) (by omega) (Nat.le_of_ble_eq_true rfl) d12_fits_33 (fun y hy => ?_)
  obtain ⟨I3, L3⟩ := y
  dsimp only at hy ⊢
  exact g_lret rfl d12_fits_36 (⟨(I3, L3), ((((FR.rf.uf (j := 0) (by decide)).uf (j := 35) (by decide)).uf (j := 36) (by decide)).uf (j := 35) (by decide)).tr (hy.up (by decide) (by decide) (by decide) (by decide)), rfl, rfl⟩)
set_option maxHeartbeats 400000 in
theorem r12_fits_law {l : Launch} {K : cK} {d : Nat} {I : wI} {L : wL} {R : wR} {dy : cH} (coin per fine s0 : Nat) (hT : RT I coin per fine s0) (n : Nat) (ss sc : Nat → Nat) (hSL : SLP I n ss sc) (nl : Nat) (hnl : I 76 1 = nI nl) (hnl6 : nl ≤ 6) (a : Nat) (ha6 : a < nl) (F : hbF) (hF : TMF (I 76) (80 + 900 * a) F) (hd : 6 ≤ d) : CX l K m12_fits d [.ref 74, .int (nI a)] (hp I L R dy) (α := wI × wL) (fun x => FR [90, 92, 93, 96, 98] [0, 28, 32, 35, 36, 43, 44] [87, 88, 89, 91, 94, 95, 97, 99, 100] [33, 34, 42] I L x.1 x.2) (fun _ => .long (lN (sm (pq (fun s => decide (sO ss sc s n 0 ≠ 1)) (fun s => decide (sO ss sc s n 0 ≠ 2 ∧ ¬ (s : Int) = (-1 : Int32).toInt)) (cmR (I 76) (I 76 11) (some F)) s0 12) 12))) (fun x => hp x.1 x.2 R dy) := by
  obtain ⟨t1, t2, t3, t4, t5, t6, t7, t8, t9, t10, t11, t12⟩ := id hT
  refine CC.of ok12_fits (Nat.le_of_ble_eq_true rfl) ?_
  refine g_aload_n d12_fits_0 rfl ?_
  refine g_iconstv (nI 0) d12_fits_1 rfl ?_
  refine g_putIh _ fl12_128 d12_fits_2 f_74_0 s_74_0 ?_
  refine g_iload_n d12_fits_5 rfl ?_
  refine g_iconstv ((-1 : Int32)) d12_fits_6 rfl ?_
  refine g_ic_eq ((a : Nat) : Int) (-1) 22 (nI_ti (by omega)) (by decide) d12_fits_7 rfl (fun c7 => absurd c7 (by omega)) (fun _ => ?_)
  refine g_aload_n d12_fits_10 rfl ?_
  refine g_iload_n d12_fits_11 rfl ?_
  refine g_EV1 vm12_isLaw ml12_349 c_74 (r12_isLawI (xi := ((a : Nat) : Int)) nl (by exact hnl) hnl6 (nI_ti (by omega)) (Nat.le_refl 1)) (by omega) (Nat.le_of_ble_eq_true rfl) d12_fits_12 ?_
  refine g_bnz 22 d12_fits_15 rfl (fun _ => ?_) (fun c15 => absurd c15 (fun q => q (by omega)))
  refine g_aload_n d12_fits_22 rfl ?_
  refine g_VV0 vm12_askNow ml12_403 c_74 (r12_askNow (Nat.le_refl 1)) (by omega) (Nat.le_of_ble_eq_true rfl) d12_fits_23 ?_
  refine g_aload_n d12_fits_26 rfl ?_
  refine g_iload_n d12_fits_27 rfl ?_
  refine g_putIh _ fl12_384 d12_fits_28 f_74_35 s_74_35 ?_
  refine g_aload_n d12_fits_31 rfl ?_
  refine g_iconstv ((-1 : Int32)) d12_fits_32 rfl ?_
  refine g_XV1 vm12_fitsBy ml12_539 c_74 (r12_fitsBy (I := (uI (uI (uI (uI I 74 0 0) 74 35 (I 76 5)) 74 36 (I 76 11)) 74 35 (nI a))) (some F) (Or.inr ⟨a, F, rfl, by omega, uI_ss, hF⟩) (by exact t12) (cmR (I 76) (I 76 11) (some F)) rfl n ss sc (by exact hSL) s0 (by exact t9) t11 (-1) (Nat.le_refl 5)) (by omega) (Nat.le_of_ble_eq_true rfl) d12_fits_33 (fun y hy => ?_)
  obtain ⟨I3, L3⟩ := y
  dsimp only at hy ⊢
  exact g_lret rfl d12_fits_36 (⟨(I3, L3), ((((FR.rf.uf (j := 0) (by decide)).uf (j := 35) (by decide)).uf (j := 36) (by decide)).uf (j := 35) (by decide)).tr (hy.up (by decide) (by decide) (by decide) (by decide)), rfl, rfl⟩)
set_option maxHeartbeats 200000 in
theorem r12_went_no {l : Launch} {K : cK} {d : Nat} {I : wI} {L : wL} {R : wR} {dy : cH} (x : Int32) (hbad : ¬ (0 ≤ x.toInt ∧ x.toInt < 12)) (hd : 2 ≤ d) : CE l K m12_went d [.ref 74, .int x] (hp I L R dy) (.long (-1)) (hp (uI I 74 0 0) L R dy) := by
  refine CC.of ok12_went (Nat.le_of_ble_eq_true rfl) ?_
  refine g_aload_n d12_went_0 rfl ?_
  refine g_iconstv (nI 0) d12_went_1 rfl ?_
  refine g_putIh _ fl12_128 d12_went_2 f_74_0 s_74_0 ?_
  refine g_iload_n d12_went_5 rfl ?_
  refine g_ES1 sm12_isSlot ml12_144 (r12_isSlotI  (rfl) (Nat.le_refl 1)) (by omega) (Nat.le_of_ble_eq_true rfl) d12_went_6 ?_
  refine g_bnz 16 d12_went_9 rfl (fun c9 => ?_) (fun c9 => ?_)
  · exact absurd (by omega) hbad
  · refine g_ldc2 d12_went_12 kl12_219 ?_
    exact g_lret rfl d12_went_15 (⟨rfl, rfl⟩)
set_option maxHeartbeats 400000 in
theorem r12_went_ok {l : Launch} {K : cK} {d : Nat} {I : wI} {L : wL} {R : wR} {dy : cH} (lf : lawF) (ha : inF I lf) (coin per fine s0 : Nat) (hT : RT I coin per fine s0) (n : Nat) (ss sc : Nat → Nat) (hSL : SLP I n ss sc) (sl : Nat) (hsl : sl < 12) (hd : 6 ≤ d) : CX l K m12_went d [.ref 74, .int (nI sl)] (hp I L R dy) (α := wI × wL) (fun x => FR [90, 92, 93, 96, 98] [0, 28, 32, 35, 36, 43, 44] [87, 88, 89, 91, 94, 95, 97, 99, 100] [33, 34, 42] I L x.1 x.2) (fun _ => .long (lN (sm (pq (fun s => decide (sO ss sc s n 0 ≠ 1)) (fun s => decide (sO ss sc s n 0 ≠ 2 ∧ ¬ (s : Int) = (nI sl).toInt)) (cmR (I 76) (I 76 11) lf) s0 12) 12))) (fun x => hp x.1 x.2 R dy) := by
  obtain ⟨t1, t2, t3, t4, t5, t6, t7, t8, t9, t10, t11, t12⟩ := id hT
  refine CC.of ok12_went (Nat.le_of_ble_eq_true rfl) ?_
  refine g_aload_n d12_went_0 rfl ?_
  refine g_iconstv (nI 0) d12_went_1 rfl ?_
  refine g_putIh _ fl12_128 d12_went_2 f_74_0 s_74_0 ?_
  refine g_iload_n d12_went_5 rfl ?_
  refine g_ES1 sm12_isSlot ml12_144 (r12_isSlotI (xi := ((sl : Nat) : Int)) (nI_ti (by omega)) (Nat.le_refl 1)) (by omega) (Nat.le_of_ble_eq_true rfl) d12_went_6 ?_
  refine g_bnz 16 d12_went_9 rfl (fun _ => ?_) (fun c9 => absurd c9 (fun q => q (by omega)))
  refine g_aload_n d12_went_16 rfl ?_
  refine g_VV0 vm12_askNow ml12_403 c_74 (r12_askNow (Nat.le_refl 1)) (by omega) (Nat.le_of_ble_eq_true rfl) d12_went_17 ?_
  refine g_aload_n d12_went_20 rfl ?_
  refine g_iload_n d12_went_21 rfl ?_
  refine g_XV1 vm12_fitsBy ml12_539 c_74 (r12_fitsBy (I := (uI (uI (uI I 74 0 0) 74 35 (I 76 5)) 74 36 (I 76 11))) lf (by exact ha) (by exact t12) (cmR (I 76) (I 76 11) lf) rfl n ss sc (by exact hSL) s0 (by exact t9) t11 (nI sl) (Nat.le_refl 5)) (by omega) (Nat.le_of_ble_eq_true rfl) d12_went_22 (fun y hy => ?_)
  obtain ⟨I3, L3⟩ := y
  dsimp only at hy ⊢
  exact g_lret rfl d12_went_25 (⟨(I3, L3), (((FR.rf.uf (j := 0) (by decide)).uf (j := 35) (by decide)).uf (j := 36) (by decide)).tr (hy.up (by decide) (by decide) (by decide) (by decide)), rfl, rfl⟩)
