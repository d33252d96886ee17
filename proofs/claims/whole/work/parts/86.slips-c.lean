/-- the class's slips -/
def CSL (I : wI) (n : Nat) (ss sc : Nat → Nat) : Prop := I 1 11 = nI n ∧ n ≤ 12 ∧ (∀ k, k < n → I 8 k = nI (ss k) ∧ ss k < 12 ∧ I 9 k = nI (sc k) ∧ sc k ≤ 1) ∧ dif ss n
theorem mI_le {m : Nat} (h : m ≤ 1) : mI m = nI m := if_neg (by omega)
theorem uR_uR {R : wR} {k j : Nat} {x y : Option Nat} : uR (uR R k j x) k j y = uR R k j y := by
  funext a b
  by_cases h : a = k ∧ b = j
  · rw [uR_at, if_pos h, uR_at, if_pos h]
  · rw [uR_at, if_neg h, uR_at, if_neg h, uR_at, if_neg h]
set_option maxHeartbeats 200000 in
theorem r11_slip_no1 {l : Launch} {K : cK} {d : Nat} {I : wI} {L : wL} {R : wR} {dy : cH} (x w : Int32) (hbad : ¬ ((0 ≤ x.toInt ∧ x.toInt < 12) ∧ 0 ≤ w.toInt ∧ w.toInt ≤ 1)) (hd : 1 ≤ d) : CE l K m11_slip d [.ref 0, .int x, .int w] (hp I L R dy) (.int (-1)) (hp (uI (uI (I) 55 0 (I 55 0 + 1)) 0 14 (-1)) L R dy) := by
  refine CC.of ok11_slip (Nat.le_of_ble_eq_true rfl) ?_
  by_cases h1 : ¬ (0 ≤ x.toInt ∧ x.toInt ≤ 11)
  · skip
    refine g_iload_n d11_slip_0 rfl ?_
    refine g_ES1 sm11_isSlot ml11_181 (r11_isSlotI  (rfl) (Nat.le_refl 0)) (by omega) (Nat.le_of_ble_eq_true rfl) d11_slip_1 ?_
    refine g_bz 16 d11_slip_4 rfl (fun _ => ?_) (fun c4 => absurd c4 (h1))
    refine g_aload_n d11_slip_16 rfl ?_
    refine g_iconstv ((-1 : Int32)) d11_slip_17 rfl ?_
    refine g_EV1 vm11_refuse ml11_108 c_0 (r11_refuse_1 (Nat.le_refl 0)) (by omega) (Nat.le_of_ble_eq_true rfl) d11_slip_18 ?_
    exact g_iret rfl d11_slip_21 (⟨rfl, rfl⟩)
  by_cases h2 : w.toInt < 0
  · skip
    refine g_iload_n d11_slip_0 rfl ?_
    refine g_ES1 sm11_isSlot ml11_181 (r11_isSlotI  (rfl) (Nat.le_refl 0)) (by omega) (Nat.le_of_ble_eq_true rfl) d11_slip_1 ?_
    refine g_bz 16 d11_slip_4 rfl (fun c4 => absurd (by omega) c4) (fun _ => ?_)
    refine g_iload_n d11_slip_7 rfl ?_
    refine g_iz_lt _ 16 (rfl) d11_slip_8 rfl (fun _ => ?_) (fun c8 => absurd c8 (by omega))
    refine g_aload_n d11_slip_16 rfl ?_
    refine g_iconstv ((-1 : Int32)) d11_slip_17 rfl ?_
    refine g_EV1 vm11_refuse ml11_108 c_0 (r11_refuse_1 (Nat.le_refl 0)) (by omega) (Nat.le_of_ble_eq_true rfl) d11_slip_18 ?_
    exact g_iret rfl d11_slip_21 (⟨rfl, rfl⟩)
  refine g_iload_n d11_slip_0 rfl ?_
  refine g_ES1 sm11_isSlot ml11_181 (r11_isSlotI  (rfl) (Nat.le_refl 0)) (by omega) (Nat.le_of_ble_eq_true rfl) d11_slip_1 ?_
  refine g_bz 16 d11_slip_4 rfl (fun c4 => absurd (by omega) c4) (fun _ => ?_)
  refine g_iload_n d11_slip_7 rfl ?_
  refine g_iz_lt _ 16 (rfl) d11_slip_8 rfl (fun c8 => absurd c8 (by omega)) (fun _ => ?_)
  refine g_iload_n d11_slip_11 rfl ?_
  refine g_iconstv (nI 1) d11_slip_12 rfl ?_
  refine g_ic_le _ (1) 22 (rfl) (by decide) d11_slip_13 rfl (fun c13 => absurd c13 (by omega)) (fun _ => ?_)
  refine g_aload_n d11_slip_16 rfl ?_
  refine g_iconstv ((-1 : Int32)) d11_slip_17 rfl ?_
  refine g_EV1 vm11_refuse ml11_108 c_0 (r11_refuse_1 (Nat.le_refl 0)) (by omega) (Nat.le_of_ble_eq_true rfl) d11_slip_18 ?_
  exact g_iret rfl d11_slip_21 (⟨rfl, rfl⟩)
set_option maxHeartbeats 800000 in
theorem r11_sl_no3 {l : Launch} {K : cK} {d : Nat} {I : wI} {L : wL} {R : wR} {dy : cH} (n : Nat) (ss sc : Nat → Nat) (hSL : CSL I n ss sc) (slot ca : Nat) (hs : slot < 12) (hc : ca ≤ 1) (h12 : n ≤ 12) (hd : 1 ≤ d) : ∀ (m j : Nat), j + m = n → sO ss sc slot m j ≠ 0 → GL l K m11_slip d 0 0 24 [(0, .ref 0), (1, .int (nI slot)), (2, .int (nI ca)), (3, .int (nI j))] [] (hp I L R dy) (fun r h => r = some (.int (-3)) ∧ h = (hp (uI (uI (I) 55 2 (I 55 2 + 1)) 0 14 (-3)) L R dy)) := by
  obtain ⟨q1, q2, q3, q4⟩ := hSL
  intro m
  induction m with
  | zero =>
    intro j hj h0
    obtain rfl : j = n := by omega
    exact absurd rfl h0
  | succ m ih =>
    intro j hj h0
    have e : sO ss sc slot (m + 1) j = if ss j = slot then sc j + 1 else sO ss sc slot m (j + 1) := rfl
    obtain ⟨p1, p2, p3, p4⟩ := q3 j (by omega)
    rw [e] at h0
    by_cases hh : ss j = slot
    · skip
      refine g_iload_n d11_slip_24 rfl ?_
      refine g_aload_n d11_slip_25 rfl ?_
      refine g_get fl11_10 d11_slip_26 f_0_0 ?_
      refine g_get fl11_297 d11_slip_29 f_1_11 ?_
      refine g_topI (nI (n)) (q1) ?_
      refine g_ic_ge ((j : Nat) : Int) ((n : Nat) : Int) 61 (nI_ti (by omega)) (nI_ti (by omega)) d11_slip_32 rfl (fun c32 => absurd c32 (by omega)) (fun _ => ?_)
      refine g_aload_n d11_slip_35 rfl ?_
      refine g_get fl11_10 d11_slip_36 f_0_0 ?_
      refine g_get fl11_300 d11_slip_39 f_1_12 ?_
      refine g_iload_n d11_slip_42 rfl ?_
      refine g_ialdN (j) d11_slip_43 a_8 (rfl) (by omega) (by decide) ?_
      refine g_topI (nI ((ss j))) (p1) ?_
      refine g_iload_n d11_slip_44 rfl ?_
      refine g_ic_ne (((ss j) : Nat) : Int) ((slot : Nat) : Int) 55 (nI_ti (by omega)) (nI_ti (by omega)) d11_slip_45 rfl (fun c45 => absurd c45 (by omega)) (fun _ => ?_)
      refine g_aload_n d11_slip_48 rfl ?_
      refine g_bipushv ((-3 : Int32)) d11_slip_49 rfl ?_
      refine g_EV1 vm11_refuse ml11_108 c_0 (r11_refuse_3 (Nat.le_refl 0)) (by omega) (Nat.le_of_ble_eq_true rfl) d11_slip_51 ?_
      exact g_iret rfl d11_slip_54 (⟨rfl, rfl⟩)
    · rw [if_neg hh] at h0
      refine g_iload_n d11_slip_24 rfl ?_
      refine g_aload_n d11_slip_25 rfl ?_
      refine g_get fl11_10 d11_slip_26 f_0_0 ?_
      refine g_get fl11_297 d11_slip_29 f_1_11 ?_
      refine g_topI (nI (n)) (q1) ?_
      refine g_ic_ge ((j : Nat) : Int) ((n : Nat) : Int) 61 (nI_ti (by omega)) (nI_ti (by omega)) d11_slip_32 rfl (fun c32 => absurd c32 (by omega)) (fun _ => ?_)
      refine g_aload_n d11_slip_35 rfl ?_
      refine g_get fl11_10 d11_slip_36 f_0_0 ?_
      refine g_get fl11_300 d11_slip_39 f_1_12 ?_
      refine g_iload_n d11_slip_42 rfl ?_
      refine g_ialdN (j) d11_slip_43 a_8 (rfl) (by omega) (by decide) ?_
      refine g_topI (nI ((ss j))) (p1) ?_
      refine g_iload_n d11_slip_44 rfl ?_
      refine g_ic_ne (((ss j) : Nat) : Int) ((slot : Nat) : Int) 55 (nI_ti (by omega)) (nI_ti (by omega)) d11_slip_45 rfl (fun _ => ?_) (fun c45 => absurd c45 (by omega))
      refine g_iincN d11_slip_55 rfl (by decide) ?_
      refine g_goto 24 d11_slip_58 rfl ?_
      refine g_lo [(0, .ref 0), (1, .int (nI slot)), (2, .int (nI ca)), (3, .int (nI (j + 1)))] ⟨rfl, rfl, rfl, rfl, trivial⟩ ?_
      exact ih (j + 1) (by omega) h0
set_option maxHeartbeats 200000 in
theorem r11_slip_no3 {l : Launch} {K : cK} {d : Nat} {I : wI} {L : wL} {R : wR} {dy : cH} (n : Nat) (ss sc : Nat → Nat) (hSL : CSL I n ss sc) (slot ca : Nat) (hs : slot < 12) (hc : ca ≤ 1) (h0 : sO ss sc slot n 0 ≠ 0) (hd : 1 ≤ d) : CE l K m11_slip d [.ref 0, .int (nI slot), .int (nI ca)] (hp I L R dy) (.int (-3)) (hp (uI (uI (I) 55 2 (I 55 2 + 1)) 0 14 (-3)) L R dy) := by
  refine CC.of ok11_slip (Nat.le_of_ble_eq_true rfl) ?_
  refine g_iload_n d11_slip_0 rfl ?_
  refine g_ES1 sm11_isSlot ml11_181 (r11_isSlotI (xi := ((slot : Nat) : Int)) (nI_ti (by omega)) (Nat.le_refl 0)) (by omega) (Nat.le_of_ble_eq_true rfl) d11_slip_1 ?_
  refine g_bz 16 d11_slip_4 rfl (fun c4 => absurd (by omega) c4) (fun _ => ?_)
  refine g_iload_n d11_slip_7 rfl ?_
  refine g_iz_lt ((ca : Nat) : Int) 16 (nI_ti (by omega)) d11_slip_8 rfl (fun c8 => absurd c8 (by omega)) (fun _ => ?_)
  refine g_iload_n d11_slip_11 rfl ?_
  refine g_iconstv (nI 1) d11_slip_12 rfl ?_
  refine g_ic_le ((ca : Nat) : Int) (1) 22 (nI_ti (by omega)) (by decide) d11_slip_13 rfl (fun _ => ?_) (fun c13 => absurd c13 (by omega))
  refine g_iconstv (nI 0) d11_slip_22 rfl ?_
  refine g_istore_n d11_slip_23 (by decide) ?_
  refine g_lo [(0, .ref 0), (1, .int (nI slot)), (2, .int (nI ca)), (3, .int (nI 0))] ⟨rfl, rfl, rfl, rfl, trivial⟩ ?_
  exact r11_sl_no3 n ss sc hSL slot ca hs hc hSL.2.1 hd n 0 (by omega) h0
set_option maxHeartbeats 800000 in
theorem r11_sl_ok {l : Launch} {K : cK} {d : Nat} {I : wI} {L : wL} {R : wR} {dy : cH} (n : Nat) (ss sc : Nat → Nat) (hSL : CSL I n ss sc) (slot ca : Nat) (hs : slot < 12) (hc : ca ≤ 1) (h12 : n ≤ 11) (hd : 1 ≤ d) : ∀ (m j : Nat), j + m = n → sO ss sc slot m j = 0 → GL l K m11_slip d 0 0 24 [(0, .ref 0), (1, .int (nI slot)), (2, .int (nI ca)), (3, .int (nI j))] [] (hp I L R dy) (fun r h => r = some (.int (nI (n + 1))) ∧ h = (hp (uI (uI (uI (uI I 8 n (nI slot)) 9 n (nI ca)) 1 11 (nI (n + 1))) 0 14 0) L R dy)) := by
  obtain ⟨q1, q2, q3, q4⟩ := hSL
  intro m
  induction m with
  | zero =>
    intro j hj h0
    obtain rfl : j = n := by omega
    refine g_iload_n d11_slip_24 rfl ?_
    refine g_aload_n d11_slip_25 rfl ?_
    refine g_get fl11_10 d11_slip_26 f_0_0 ?_
    refine g_get fl11_297 d11_slip_29 f_1_11 ?_
    refine g_topI (nI (j)) (q1) ?_
    refine g_ic_ge ((j : Nat) : Int) ((j : Nat) : Int) 61 (nI_ti (by omega)) (nI_ti (by omega)) d11_slip_32 rfl (fun _ => ?_) (fun c32 => absurd c32 (by omega))
    refine g_aload_n d11_slip_61 rfl ?_
    refine g_get fl11_10 d11_slip_62 f_0_0 ?_
    refine g_get fl11_297 d11_slip_65 f_1_11 ?_
    refine g_topI (nI (j)) (q1) ?_
    refine g_bipushv (nI 12) d11_slip_68 rfl ?_
    refine g_ic_lt ((j : Nat) : Int) (12) 80 (nI_ti (by omega)) (by decide) d11_slip_70 rfl (fun _ => ?_) (fun c70 => absurd c70 (by omega))
    refine g_aload_n d11_slip_80 rfl ?_
    refine g_get fl11_10 d11_slip_81 f_0_0 ?_
    refine g_get fl11_300 d11_slip_84 f_1_12 ?_
    refine g_aload_n d11_slip_87 rfl ?_
    refine g_get fl11_10 d11_slip_88 f_0_0 ?_
    refine g_get fl11_297 d11_slip_91 f_1_11 ?_
    refine g_topI (nI (j)) (q1) ?_
    refine g_iload_n d11_slip_94 rfl ?_
    refine g_iastN (j) _ d11_slip_95 a_8 (rfl) (by omega) (by decide) t_8 ?_
    refine g_aload_n d11_slip_96 rfl ?_
    refine g_get fl11_10 d11_slip_97 f_0_0 ?_
    refine g_get fl11_303 d11_slip_100 f_1_13 ?_
    refine g_aload_n d11_slip_103 rfl ?_
    refine g_get fl11_10 d11_slip_104 f_0_0 ?_
    refine g_get fl11_297 d11_slip_107 f_1_11 ?_
    refine g_topI (nI (j)) (q1) ?_
    refine g_iload_n d11_slip_110 rfl ?_
    refine g_iastN (j) _ d11_slip_111 a_9 (rfl) (by omega) (by decide) t_9 ?_
    refine g_aload_n d11_slip_112 rfl ?_
    refine g_get fl11_10 d11_slip_113 f_0_0 ?_
    refine g_dup d11_slip_116 rfl ?_
    refine g_get fl11_297 d11_slip_117 f_1_11 ?_
    refine g_topI (nI (j)) (q1) ?_
    refine g_iconstv (nI 1) d11_slip_120 rfl ?_
    refine g_iaddN d11_slip_121 ?_
    refine g_putIh _ fl11_297 d11_slip_122 f_1_11 s_1_11 ?_
    refine g_aload_n d11_slip_125 rfl ?_
    refine g_aload_n d11_slip_126 rfl ?_
    refine g_get fl11_10 d11_slip_127 f_0_0 ?_
    refine g_get fl11_297 d11_slip_130 f_1_11 ?_
    refine g_topI (nI ((j + 1))) (uI_ss) ?_
    refine g_EV1 vm11_allow ml11_119 c_0 (r11_allow (Nat.le_refl 0)) (by omega) (Nat.le_of_ble_eq_true rfl) d11_slip_133 ?_
    exact g_iret rfl d11_slip_136 (⟨rfl, rfl⟩)
  | succ m ih =>
    intro j hj h0
    have e : sO ss sc slot (m + 1) j = if ss j = slot then sc j + 1 else sO ss sc slot m (j + 1) := rfl
    obtain ⟨p1, p2, p3, p4⟩ := q3 j (by omega)
    rw [e] at h0
    by_cases hh : ss j = slot
    · rw [if_pos hh] at h0; omega
    · rw [if_neg hh] at h0
      refine g_iload_n d11_slip_24 rfl ?_
      refine g_aload_n d11_slip_25 rfl ?_
      refine g_get fl11_10 d11_slip_26 f_0_0 ?_
      refine g_get fl11_297 d11_slip_29 f_1_11 ?_
      refine g_topI (nI (n)) (q1) ?_
      refine g_ic_ge ((j : Nat) : Int) ((n : Nat) : Int) 61 (nI_ti (by omega)) (nI_ti (by omega)) d11_slip_32 rfl (fun c32 => absurd c32 (by omega)) (fun _ => ?_)
      refine g_aload_n d11_slip_35 rfl ?_
      refine g_get fl11_10 d11_slip_36 f_0_0 ?_
      refine g_get fl11_300 d11_slip_39 f_1_12 ?_
      refine g_iload_n d11_slip_42 rfl ?_
      refine g_ialdN (j) d11_slip_43 a_8 (rfl) (by omega) (by decide) ?_
      refine g_topI (nI ((ss j))) (p1) ?_
      refine g_iload_n d11_slip_44 rfl ?_
      refine g_ic_ne (((ss j) : Nat) : Int) ((slot : Nat) : Int) 55 (nI_ti (by omega)) (nI_ti (by omega)) d11_slip_45 rfl (fun _ => ?_) (fun c45 => absurd c45 (by omega))
      refine g_iincN d11_slip_55 rfl (by decide) ?_
      refine g_goto 24 d11_slip_58 rfl ?_
      refine g_lo [(0, .ref 0), (1, .int (nI slot)), (2, .int (nI ca)), (3, .int (nI (j + 1)))] ⟨rfl, rfl, rfl, rfl, trivial⟩ ?_
      exact ih (j + 1) (by omega) h0
set_option maxHeartbeats 200000 in
theorem r11_slip_ok {l : Launch} {K : cK} {d : Nat} {I : wI} {L : wL} {R : wR} {dy : cH} (n : Nat) (ss sc : Nat → Nat) (hSL : CSL I n ss sc) (slot ca : Nat) (hs : slot < 12) (hc : ca ≤ 1) (h0 : sO ss sc slot n 0 = 0) (hd : 1 ≤ d) : CE l K m11_slip d [.ref 0, .int (nI slot), .int (nI ca)] (hp I L R dy) (.int (nI (n + 1))) (hp (uI (uI (uI (uI I 8 n (nI slot)) 9 n (nI ca)) 1 11 (nI (n + 1))) 0 14 0) L R dy) := by
  refine CC.of ok11_slip (Nat.le_of_ble_eq_true rfl) ?_
  refine g_iload_n d11_slip_0 rfl ?_
  refine g_ES1 sm11_isSlot ml11_181 (r11_isSlotI (xi := ((slot : Nat) : Int)) (nI_ti (by omega)) (Nat.le_refl 0)) (by omega) (Nat.le_of_ble_eq_true rfl) d11_slip_1 ?_
  refine g_bz 16 d11_slip_4 rfl (fun c4 => absurd (by omega) c4) (fun _ => ?_)
  refine g_iload_n d11_slip_7 rfl ?_
  refine g_iz_lt ((ca : Nat) : Int) 16 (nI_ti (by omega)) d11_slip_8 rfl (fun c8 => absurd c8 (by omega)) (fun _ => ?_)
  refine g_iload_n d11_slip_11 rfl ?_
  refine g_iconstv (nI 1) d11_slip_12 rfl ?_
  refine g_ic_le ((ca : Nat) : Int) (1) 22 (nI_ti (by omega)) (by decide) d11_slip_13 rfl (fun _ => ?_) (fun c13 => absurd c13 (by omega))
  refine g_iconstv (nI 0) d11_slip_22 rfl ?_
  refine g_istore_n d11_slip_23 (by decide) ?_
  refine g_lo [(0, .ref 0), (1, .int (nI slot)), (2, .int (nI ca)), (3, .int (nI 0))] ⟨rfl, rfl, rfl, rfl, trivial⟩ ?_
  exact r11_sl_ok n ss sc hSL slot ca hs hc (by have := slip_room hSL.2.2.2 (fun k hk => (hSL.2.2.1 k hk).2.1) hs h0; omega) hd n 0 (by omega) h0
set_option maxHeartbeats 800000 in
theorem r11_spL {l : Launch} {K : cK} {d : Nat} {I : wI} {L : wL} {R : wR} {dy : cH} {Q : Option Value → cH → Prop} (n : Nat) (ss sc : Nat → Nat) (hSL : CSL I n ss sc) (x y : Int32) (J : wI) (hJ : ∀ k, k ≠ 25 → k ≠ 23 → J k = I k) (hd : 1 ≤ d)
    (kk : ∀ I3 : wI, (∀ k, k ≠ 25 → I3 k = J k) → (∀ s, s < 12 → I3 25 s = mI (mS ss sc n s)) → GL l K m11_slipParts d 0 0 73 [(0, .ref 0), (1, .int x), (2, .int y)] [] (hp I3 L R dy) Q) :
    ∀ (m j : Nat) (I2 : wI), j + m = n → (∀ k, k ≠ 25 → I2 k = J k) → (∀ s, s < 12 → I2 25 s = mI (mS ss sc j s)) → GL l K m11_slipParts d 0 0 30 [(0, .ref 0), (1, .int x), (2, .int y), (3, .int (nI j))] [] (hp I2 L R dy) Q := by
  obtain ⟨q1, q2, q3, q4⟩ := hSL
  intro m
  induction m with
  | zero =>
    intro j I2 hj h1 h2
    obtain rfl : j = n := by omega
    have e1 : I2 1 11 = nI j := by rw [h1 1 (by decide), hJ 1 (by decide) (by decide)]; exact q1
    refine g_iload_n d11_slipParts_30 rfl ?_
    refine g_aload_n d11_slipParts_31 rfl ?_
    refine g_get fl11_10 d11_slipParts_32 f_0_0 ?_
    refine g_get fl11_297 d11_slipParts_35 f_1_11 ?_
    refine g_topI (nI (j)) (e1) ?_
    refine g_ic_ge ((j : Nat) : Int) ((j : Nat) : Int) 73 (nI_ti (by omega)) (nI_ti (by omega)) d11_slipParts_38 rfl (fun _ => ?_) (fun c38 => absurd c38 (by omega))
    refine g_lo [(0, .ref 0), (1, .int x), (2, .int y)] ⟨rfl, rfl, rfl, trivial⟩ ?_
    exact kk I2 h1 h2
  | succ m ih =>
    intro j I2 hj h1 h2
    have e1 : I2 1 11 = nI n := by rw [h1 1 (by decide), hJ 1 (by decide) (by decide)]; exact q1
    obtain ⟨p1, p2, p3, p4⟩ := q3 j (by omega)
    have e8 : I2 8 j = nI (ss j) := by rw [h1 8 (by decide), hJ 8 (by decide) (by decide)]; exact p1
    have e9 : I2 9 j = nI (sc j) := by rw [h1 9 (by decide), hJ 9 (by decide) (by decide)]; exact p3
    refine g_iload_n d11_slipParts_30 rfl ?_
    refine g_aload_n d11_slipParts_31 rfl ?_
    refine g_get fl11_10 d11_slipParts_32 f_0_0 ?_
    refine g_get fl11_297 d11_slipParts_35 f_1_11 ?_
    refine g_topI (nI (n)) (e1) ?_
    refine g_ic_ge ((j : Nat) : Int) ((n : Nat) : Int) 73 (nI_ti (by omega)) (nI_ti (by omega)) d11_slipParts_38 rfl (fun c38 => absurd c38 (by omega)) (fun _ => ?_)
    refine g_aload_n d11_slipParts_41 rfl ?_
    refine g_get fl11_43 d11_slipParts_42 f_0_5 ?_
    refine g_get fl11_211 d11_slipParts_45 f_21_2 ?_
    refine g_aload_n d11_slipParts_48 rfl ?_
    refine g_get fl11_10 d11_slipParts_49 f_0_0 ?_
    refine g_get fl11_300 d11_slipParts_52 f_1_12 ?_
    refine g_iload_n d11_slipParts_55 rfl ?_
    refine g_ialdN (j) d11_slipParts_56 a_8 (rfl) (by omega) (by decide) ?_
    refine g_topI (nI ((ss j))) (e8) ?_
    refine g_aload_n d11_slipParts_57 rfl ?_
    refine g_get fl11_10 d11_slipParts_58 f_0_0 ?_
    refine g_get fl11_303 d11_slipParts_61 f_1_13 ?_
    refine g_iload_n d11_slipParts_64 rfl ?_
    refine g_ialdN (j) d11_slipParts_65 a_9 (rfl) (by omega) (by decide) ?_
    refine g_topI (nI ((sc j))) (e9) ?_
    refine g_iastN ((ss j)) _ d11_slipParts_66 a_25 (rfl) (by omega) (by decide) t_25 ?_
    refine g_iincN d11_slipParts_67 rfl (by decide) ?_
    refine g_goto 30 d11_slipParts_70 rfl ?_
    refine g_lo [(0, .ref 0), (1, .int x), (2, .int y), (3, .int (nI (j + 1)))] ⟨rfl, rfl, rfl, rfl, trivial⟩ ?_
    refine ih (j + 1) _ (by omega) (fun k hk => by rw [uI_n hk]; exact h1 k hk) (fun s hs => ?_)
    show _ = mI (if ss j = s then sc j else mS ss sc j s)
    by_cases e : ss j = s
    · rw [if_pos e, ← e, uI_ss, mI_le p4]
    · rw [if_neg e, uI_sn (fun z => e z.symm)]; exact h2 s hs
set_option maxHeartbeats 600000 in
theorem r11_parts0 {l : Launch} {K : cK} {d : Nat} {I : wI} {L : wL} {R : wR} {dy : cH} (g : Nat → Int32) (hg : g 9 = I 3 3 ∧ g 13 = I 3 7) (s0 : Nat) (h34 : I 3 4 = nI s0) (hs1 : 1 ≤ s0) (hs2 : s0 ≤ 12) (x : Int32) (o : Option Nat) (lc : Option (List Cl)) (hO : CLF I R dy x o lc) (n : Nat) (ss sc : Nat → Nat) (hSL : CSL I n ss sc) (y : Int32) (hy : ¬ (0 ≤ y.toInt ∧ y.toInt ≤ 11)) (hd : 5 ≤ d) : CX l K m11_slipParts d [.ref 0, .int x, .int y] (hp I L R dy) (α := wI × wL) (fun x => FK [22, 23, 25, 26, 28, 30, 31, 36, 39, 40, 41, 51, 52] [22, 24, 27, 30, 32, 33, 34, 35, 37, 38, 39, 42, 43, 51, 53, 54] I L x.1 x.2) (fun _ => .long (lN (sm (pq (fun s => decide (sO ss sc s n 0 ≠ 1)) (fun s => decide (sO ss sc s n 0 ≠ 2 ∧ ¬ (s : Int) = y.toInt)) (cmR g (I 3 5) (lfO lc)) s0 12) 12))) (fun x => hp x.1 x.2 (uR R 21 1 o) dy) := by
  obtain ⟨q1, q2, q3, q4⟩ := id hSL
  have hmS : ∀ s, mS ss sc n s ≤ 2 := fun s => mS_le n (fun k hk => (q3 k hk).2.2.2)
  have hsO := sO_mS q4 (fun k hk => (q3 k hk).2.2.2)
  obtain ⟨J, hJd⟩ : ∃ J, J = (cI (sv I (I 3 5)) 25 (fil (sv I (I 3 5) 25) (-1) 12)) := ⟨_, rfl⟩
  have hpq := pq_pt (u := fun s => decide (sO ss sc s n 0 ≠ 1)) (v := fun s => decide (sO ss sc s n 0 ≠ 2 ∧ ¬ (s : Int) = y.toInt)) (m := mS ss sc n) (cmR g (I 3 5) (lfO lc)) s0 12 (fun s hs => by
    have h1 := hsO s
    have h2 := hmS s
    refine ⟨?_, ?_⟩
    · simp only [decide_eq_true_eq]; rw [h1]; split <;> omega
    · simp only [decide_eq_true_eq]; rw [h1]; split <;> omega)
  rw [hpq]
  refine CC.of ok11_slipParts (Nat.le_of_ble_eq_true rfl) ?_
  refine g_aload_n d11_slipParts_0 rfl ?_
  refine g_get fl11_43 d11_slipParts_1 f_0_5 ?_
  refine g_aload_n d11_slipParts_4 rfl ?_
  refine g_get fl11_10 d11_slipParts_5 f_0_0 ?_
  refine g_iload_n d11_slipParts_8 rfl ?_
  refine g_aload_n d11_slipParts_9 rfl ?_
  refine g_get fl11_10 d11_slipParts_10 f_0_0 ?_
  refine g_get fl11_142 d11_slipParts_13 f_1_2 ?_
  refine g_iconstv (nI 5) d11_slipParts_16 rfl ?_
  refine g_ialdN (5) d11_slipParts_17 a_3 (rfl) (by omega) (by decide) ?_
  refine g_VV3 vm10_serve ml11_184 c_21 (r10_serve x o lc hO (I 3 5) (Nat.le_refl 1)) (by omega) (Nat.le_of_ble_eq_true rfl) d11_slipParts_18 ?_
  refine g_aload_n d11_slipParts_21 rfl ?_
  refine g_get fl11_43 d11_slipParts_22 f_0_5 ?_
  refine g_VV0 vm10_freeSlots ml11_208 c_21 (r10_free (Nat.le_refl 1)) (by omega) (Nat.le_of_ble_eq_true rfl) d11_slipParts_25 ?_
  refine g_iconstv (nI 0) d11_slipParts_28 rfl ?_
  refine g_istore_n d11_slipParts_29 (by decide) ?_
  rw [← hJd]
  refine g_lo [(0, .ref 0), (1, .int x), (2, .int y), (3, .int (nI 0))] ⟨rfl, rfl, rfl, rfl, trivial⟩ ?_
  refine r11_spL (I := I) n ss sc hSL x y J (fun k a b => by rw [hJd, cI_n a]; unfold sv; rw [uI_n b, uI_n b, uI_n b]) (by omega) (fun I3 h1 h2 => ?_) n 0 J (by omega) (fun _ _ => rfl) (fun s hs => by rw [hJd, cI_s]; exact if_pos hs)
  have w3 : WW I3 g (I 3 5) := (sv_ww hg).of (by rw [h1 23 (by decide), hJd, cI_n (by decide)])
  have F3 : FK [22, 23, 25, 26, 28, 30, 31, 36, 39, 40, 41, 51, 52] [22, 24, 27, 30, 32, 33, 34, 35, 37, 38, 39, 42, 43, 51, 53, 54] I L I3 L := ⟨fun k hk => by
    have hk1 : k ≠ 25 := fun z => hk (by rw [z]; decide)
    have hk2 : k ≠ 23 := fun z => hk (by rw [z]; decide)
    rw [h1 k hk1, hJd, cI_n hk1]; unfold sv; rw [uI_n hk2, uI_n hk2, uI_n hk2], fun _ _ => rfl⟩
  have e34 : I3 3 4 = nI s0 := by rw [F3.1 3 (by decide)]; exact h34
  refine g_iload_n d11_slipParts_73 rfl ?_
  refine g_ES1 sm11_isSlot ml11_181 (r11_isSlotI  (rfl) (Nat.le_refl 0)) (by omega) (Nat.le_of_ble_eq_true rfl) d11_slipParts_74 ?_
  refine g_bz 104 d11_slipParts_77 rfl (fun _ => ?_) (fun c77 => absurd c77 (hy))
  refine g_aload_n d11_slipParts_104 rfl ?_
  refine g_get fl11_43 d11_slipParts_105 f_0_5 ?_
  refine g_aload_n d11_slipParts_108 rfl ?_
  refine g_get fl11_10 d11_slipParts_109 f_0_0 ?_
  refine g_get fl11_142 d11_slipParts_112 f_1_2 ?_
  refine g_iconstv (nI 4) d11_slipParts_115 rfl ?_
  refine g_ialdN (4) d11_slipParts_116 a_3 (rfl) (by omega) (by decide) ?_
  refine g_topI (nI (s0)) (e34) ?_
  refine g_XV1 vm10_spread ml11_214 c_21 (r10_spread (I := I3) (L := L) g (I 3 5) w3 lc hO.lw (mS ss sc n) (fun s hs => ⟨h2 s hs, hmS s⟩) s0 hs1 hs2 (Nat.le_refl 4)) (by omega) (Nat.le_of_ble_eq_true rfl) d11_slipParts_117 (fun v hv => ?_)
  exact g_lret rfl d11_slipParts_120 (⟨v, F3.tr (hv.1.up (by decide) (by decide)), rfl, rfl⟩)
set_option maxHeartbeats 600000 in
theorem r11_parts1 {l : Launch} {K : cK} {d : Nat} {I : wI} {L : wL} {R : wR} {dy : cH} (g : Nat → Int32) (hg : g 9 = I 3 3 ∧ g 13 = I 3 7) (s0 : Nat) (h34 : I 3 4 = nI s0) (hs1 : 1 ≤ s0) (hs2 : s0 ≤ 12) (x : Int32) (o : Option Nat) (lc : Option (List Cl)) (hO : CLF I R dy x o lc) (n : Nat) (ss sc : Nat → Nat) (hSL : CSL I n ss sc) (y : Nat) (hy : y < 12) (hd : 5 ≤ d) : CX l K m11_slipParts d [.ref 0, .int x, .int (nI y)] (hp I L R dy) (α := wI × wL) (fun x => FK [22, 23, 25, 26, 28, 30, 31, 36, 39, 40, 41, 51, 52] [22, 24, 27, 30, 32, 33, 34, 35, 37, 38, 39, 42, 43, 51, 53, 54] I L x.1 x.2) (fun _ => .long (lN (sm (pq (fun s => decide (sO ss sc s n 0 ≠ 1)) (fun s => decide (sO ss sc s n 0 ≠ 2 ∧ ¬ (s : Int) = (nI y).toInt)) (cmR g (I 3 5) (lfO lc)) s0 12) 12))) (fun x => hp x.1 x.2 (uR R 21 1 o) dy) := by
  obtain ⟨q1, q2, q3, q4⟩ := id hSL
  have hmS : ∀ s, mS ss sc n s ≤ 2 := fun s => mS_le n (fun k hk => (q3 k hk).2.2.2)
  have hsO := sO_mS q4 (fun k hk => (q3 k hk).2.2.2)
  obtain ⟨J, hJd⟩ : ∃ J, J = (cI (sv I (I 3 5)) 25 (fil (sv I (I 3 5) 25) (-1) 12)) := ⟨_, rfl⟩
  refine CC.of ok11_slipParts (Nat.le_of_ble_eq_true rfl) ?_
  refine g_aload_n d11_slipParts_0 rfl ?_
  refine g_get fl11_43 d11_slipParts_1 f_0_5 ?_
  refine g_aload_n d11_slipParts_4 rfl ?_
  refine g_get fl11_10 d11_slipParts_5 f_0_0 ?_
  refine g_iload_n d11_slipParts_8 rfl ?_
  refine g_aload_n d11_slipParts_9 rfl ?_
  refine g_get fl11_10 d11_slipParts_10 f_0_0 ?_
  refine g_get fl11_142 d11_slipParts_13 f_1_2 ?_
  refine g_iconstv (nI 5) d11_slipParts_16 rfl ?_
  refine g_ialdN (5) d11_slipParts_17 a_3 (rfl) (by omega) (by decide) ?_
  refine g_VV3 vm10_serve ml11_184 c_21 (r10_serve x o lc hO (I 3 5) (Nat.le_refl 1)) (by omega) (Nat.le_of_ble_eq_true rfl) d11_slipParts_18 ?_
  refine g_aload_n d11_slipParts_21 rfl ?_
  refine g_get fl11_43 d11_slipParts_22 f_0_5 ?_
  refine g_VV0 vm10_freeSlots ml11_208 c_21 (r10_free (Nat.le_refl 1)) (by omega) (Nat.le_of_ble_eq_true rfl) d11_slipParts_25 ?_
  refine g_iconstv (nI 0) d11_slipParts_28 rfl ?_
  refine g_istore_n d11_slipParts_29 (by decide) ?_
  rw [← hJd]
  refine g_lo [(0, .ref 0), (1, .int x), (2, .int (nI y)), (3, .int (nI 0))] ⟨rfl, rfl, rfl, rfl, trivial⟩ ?_
  refine r11_spL (I := I) n ss sc hSL x (nI y) J (fun k a b => by rw [hJd, cI_n a]; unfold sv; rw [uI_n b, uI_n b, uI_n b]) (by omega) (fun I3 h1 h2 => ?_) n 0 J (by omega) (fun _ _ => rfl) (fun s hs => by rw [hJd, cI_s]; exact if_pos hs)
  have w3 : WW I3 g (I 3 5) := (sv_ww hg).of (by rw [h1 23 (by decide), hJd, cI_n (by decide)])
  have F3 : FK [22, 23, 25, 26, 28, 30, 31, 36, 39, 40, 41, 51, 52] [22, 24, 27, 30, 32, 33, 34, 35, 37, 38, 39, 42, 43, 51, 53, 54] I L I3 L := ⟨fun k hk => by
    have hk1 : k ≠ 25 := fun z => hk (by rw [z]; decide)
    have hk2 : k ≠ 23 := fun z => hk (by rw [z]; decide)
    rw [h1 k hk1, hJd, cI_n hk1]; unfold sv; rw [uI_n hk2, uI_n hk2, uI_n hk2], fun _ _ => rfl⟩
  have e34 : I3 3 4 = nI s0 := by rw [F3.1 3 (by decide)]; exact h34
  have hm0 := h2 y hy
  have hmy := hmS y
  have hoy := hsO y
  have hyt : (nI y).toInt = (y : Int) := nI_ti (by omega)
  by_cases h0 : mS ss sc n y = 0
  · have ez : (sm (pq (fun s => decide (sO ss sc s n 0 ≠ 1)) (fun s => decide (sO ss sc s n 0 ≠ 2 ∧ ¬ (s : Int) = (nI y).toInt)) (cmR g (I 3 5) (lfO lc)) s0 12) 12) = 0 := by
      have z := pq_0 (u := fun s => decide (sO ss sc s n 0 ≠ 1)) (v := fun s => decide (sO ss sc s n 0 ≠ 2 ∧ ¬ (s : Int) = (nI y).toInt)) (s := y) (cmR g (I 3 5) (lfO lc)) s0 (by simp only [decide_eq_false_iff_not]; rw [hoy, h0]; simp) (by simp only [decide_eq_false_iff_not]; rw [hyt]; omega) (11 - y)
      rw [show y + 1 + (11 - y) = 12 by omega] at z
      exact sm_z z 12
    rw [ez]
    refine g_iload_n d11_slipParts_73 rfl ?_
    refine g_ES1 sm11_isSlot ml11_181 (r11_isSlotI (xi := ((y : Nat) : Int)) (nI_ti (by omega)) (Nat.le_refl 0)) (by omega) (Nat.le_of_ble_eq_true rfl) d11_slipParts_74 ?_
    refine g_bz 104 d11_slipParts_77 rfl (fun c77 => absurd (by omega) c77) (fun _ => ?_)
    refine g_aload_n d11_slipParts_80 rfl ?_
    refine g_get fl11_43 d11_slipParts_81 f_0_5 ?_
    refine g_get fl11_211 d11_slipParts_84 f_21_2 ?_
    refine g_iload_n d11_slipParts_87 rfl ?_
    refine g_ialdN (y) d11_slipParts_88 a_25 (rfl) (by omega) (by decide) ?_
    refine g_topI ((0 : Int32)) (by rw [hm0, h0]; rfl) ?_
    refine g_iz_ne (0) 94 (by decide) d11_slipParts_89 rfl (fun c89 => absurd c89 (by decide)) (fun _ => ?_)
    refine g_lconstv (0) d11_slipParts_92 rfl ?_
    exact g_lret rfl d11_slipParts_93 (⟨(I3, L), F3, rfl, rfl⟩)
  · have hpq := pq_pt (u := fun s => decide (sO ss sc s n 0 ≠ 1)) (v := fun s => decide (sO ss sc s n 0 ≠ 2 ∧ ¬ (s : Int) = (nI y).toInt)) (m := fun s => if s = y then 1 else mS ss sc n s) (cmR g (I 3 5) (lfO lc)) s0 12 (fun s hs => by
      have h1 := hsO s
      have h2 := hmS s
      by_cases e : s = y
      · subst e
        refine ⟨?_, ?_⟩
        · simp only [decide_eq_true_eq, if_true]; rw [h1]; split <;> omega
        · simp only [decide_eq_true_eq, if_true]; rw [hyt]; omega
      · refine ⟨?_, ?_⟩
        · simp only [decide_eq_true_eq, if_neg e]; rw [h1]; split <;> omega
        · simp only [decide_eq_true_eq, if_neg e]; rw [h1, hyt]; split <;> omega)
    rw [hpq]
    have em : ∀ s, s < 12 → uI I3 25 y (nI 1) 25 s = mI (if s = y then 1 else mS ss sc n s) ∧ (if s = y then 1 else mS ss sc n s) ≤ 2 := fun s hs => by
      by_cases e : s = y
      · subst e; rw [if_pos rfl, uI_ss]; exact ⟨rfl, by decide⟩
      · rw [if_neg e, uI_sn e]; exact ⟨h2 s hs, hmS s⟩
    have hnz : ((mI (mS ss sc n y)).toInt ≠ 0) := by
      rcases (by omega : mS ss sc n y = 1 ∨ mS ss sc n y = 2) with q | q <;> rw [q] <;> decide
    refine g_iload_n d11_slipParts_73 rfl ?_
    refine g_ES1 sm11_isSlot ml11_181 (r11_isSlotI (xi := ((y : Nat) : Int)) (nI_ti (by omega)) (Nat.le_refl 0)) (by omega) (Nat.le_of_ble_eq_true rfl) d11_slipParts_74 ?_
    refine g_bz 104 d11_slipParts_77 rfl (fun c77 => absurd (by omega) c77) (fun _ => ?_)
    refine g_aload_n d11_slipParts_80 rfl ?_
    refine g_get fl11_43 d11_slipParts_81 f_0_5 ?_
    refine g_get fl11_211 d11_slipParts_84 f_21_2 ?_
    refine g_iload_n d11_slipParts_87 rfl ?_
    refine g_ialdN (y) d11_slipParts_88 a_25 (rfl) (by omega) (by decide) ?_
    refine g_topI (mI (mS ss sc n y)) (hm0) ?_
    refine g_iz_ne (mI (mS ss sc n y)).toInt 94 (rfl) d11_slipParts_89 rfl (fun _ => ?_) (fun c89 => absurd c89 (hnz))
    refine g_aload_n d11_slipParts_94 rfl ?_
    refine g_get fl11_43 d11_slipParts_95 f_0_5 ?_
    refine g_get fl11_211 d11_slipParts_98 f_21_2 ?_
    refine g_iload_n d11_slipParts_101 rfl ?_
    refine g_iconstv (nI 1) d11_slipParts_102 rfl ?_
    refine g_iastN (y) _ d11_slipParts_103 a_25 (rfl) (by omega) (by decide) t_25 ?_
    have w3b := w3
    refine g_aload_n d11_slipParts_104 rfl ?_
    refine g_get fl11_43 d11_slipParts_105 f_0_5 ?_
    refine g_aload_n d11_slipParts_108 rfl ?_
    refine g_get fl11_10 d11_slipParts_109 f_0_0 ?_
    refine g_get fl11_142 d11_slipParts_112 f_1_2 ?_
    refine g_iconstv (nI 4) d11_slipParts_115 rfl ?_
    refine g_ialdN (4) d11_slipParts_116 a_3 (rfl) (by omega) (by decide) ?_
    refine g_topI (nI (s0)) (e34) ?_
    refine g_XV1 vm10_spread ml11_214 c_21 (r10_spread (I := uI I3 25 y (nI 1)) (L := L) g (I 3 5) (w3.of (uI_n (by decide))) lc hO.lw (fun s => if s = y then 1 else mS ss sc n s) em s0 hs1 hs2 (Nat.le_refl 4)) (by omega) (Nat.le_of_ble_eq_true rfl) d11_slipParts_117 (fun v hv => ?_)
    exact g_lret rfl d11_slipParts_120 (⟨v, (F3.ui (by decide)).tr (hv.1.up (by decide) (by decide)), rfl, rfl⟩)
