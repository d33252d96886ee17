set_option maxHeartbeats 1000000 in
theorem r12_in {l : Launch} {K : cK} {d : Nat} {h : cH} {v a b : Int64} (hd : 0 ≤ d) : CE l K m12_in d [.long v, .long a, .long b] h (.int (if a.toInt ≤ v.toInt ∧ v.toInt ≤ b.toInt then 1 else 0)) h := by
  refine CC.of ok12_in (Nat.le_of_ble_eq_true rfl) ?_
  refine g_lload_n d12_in_0 rfl ?_
  refine g_lload_n d12_in_1 rfl ?_
  refine g_lx_lt _ _ 17 (rfl) (rfl) d12_in_2 d12_in_3 rfl (fun c2 => ?_) (fun c2 => ?_)
  · refine g_iconstv (nI 0) d12_in_17 rfl ?_
    exact g_zret rfl (by decide) d12_in_18 (⟨by first | rw [b_f (by omega)]; rfl | rw [b_t (by omega)]; rfl, rfl⟩)
  · refine g_lload_n d12_in_6 rfl ?_
    refine g_lload d12_in_7 rfl ?_
    refine g_lx_gt _ _ 17 (rfl) (rfl) d12_in_9 d12_in_10 rfl (fun c9 => ?_) (fun c9 => ?_)
    · refine g_iconstv (nI 0) d12_in_17 rfl ?_
      exact g_zret rfl (by decide) d12_in_18 (⟨by first | rw [b_f (by omega)]; rfl | rw [b_t (by omega)]; rfl, rfl⟩)
    · refine g_iconstv (nI 1) d12_in_13 rfl ?_
      refine g_goto 18 d12_in_14 rfl ?_
      exact g_zret rfl (by decide) d12_in_18 (⟨by first | rw [b_f (by omega)]; rfl | rw [b_t (by omega)]; rfl, rfl⟩)
set_option maxHeartbeats 1000000 in
theorem r12_isSlot {l : Launch} {K : cK} {d : Nat} {h : cH} {x : Int32} (hd : 1 ≤ d) : CE l K m12_isSlot d [.int x] h (.int (if 0 ≤ x.toInt ∧ x.toInt ≤ 11 then 1 else 0)) h := by
  refine CC.of ok12_isSlot (Nat.le_of_ble_eq_true rfl) ?_
  refine g_iload_n d12_isSlot_0 rfl ?_
  refine g_i2l d12_isSlot_1 ?_
  refine g_lconstv (0) d12_isSlot_2 rfl ?_
  refine g_ldc2 d12_isSlot_3 kl12_142 ?_
  refine g_ES3 sm12_in ml12_134 (r12_in (Nat.le_refl 0)) (by omega) (by decide) d12_isSlot_6 ?_
  exact g_zret rfl (b01 _) d12_isSlot_9 (⟨by rw [i2l_int]; rfl, rfl⟩)
set_option maxHeartbeats 1000000 in
theorem r12_term {l : Launch} {K : cK} {d : Nat} {I : wI} {L : wL} {R : wR} {dy : cH} (w : Nat) (hw : w < 8) (hd : 0 ≤ d) : CE l K m12_term d [.ref 74, .int (nI w)] (hp I L R dy) (.int (I 76 (6 + w))) (hp I L R dy) := by
  refine CC.of ok12_term (Nat.le_of_ble_eq_true rfl) ?_
  refine g_aload_n d12_term_0 rfl ?_
  refine g_get fl12_13 d12_term_1 f_74_3 ?_
  refine g_bipushv (nI 6) d12_term_4 rfl ?_
  refine g_iload_n d12_term_6 rfl ?_
  refine g_iaddN d12_term_7 ?_
  refine g_ialdN ((6 + w)) d12_term_8 a_76 (rfl) (by omega) (by decide) ?_
  exact g_iret rfl d12_term_9 (⟨rfl, rfl⟩)
set_option maxHeartbeats 1000000 in
theorem r12_ofCar {l : Launch} {K : cK} {d : Nat} {I : wI} {L : wL} {R : wR} {dy : cH} (c j : Nat) (hc : c < 6) (hj : j < 4) (hd : 0 ≤ d) : CE l K m12_ofCar d [.ref 74, .int (nI c), .int (nI j)] (hp I L R dy) (.int (I 76 (14 + 4 * c + j))) (hp I L R dy) := by
  refine CC.of ok12_ofCar (Nat.le_of_ble_eq_true rfl) ?_
  refine g_aload_n d12_ofCar_0 rfl ?_
  refine g_get fl12_13 d12_ofCar_1 f_74_3 ?_
  refine g_bipushv (nI 14) d12_ofCar_4 rfl ?_
  refine g_iconstv (nI 4) d12_ofCar_6 rfl ?_
  refine g_iload_n d12_ofCar_7 rfl ?_
  refine g_imulN d12_ofCar_8 ?_
  refine g_iaddN d12_ofCar_9 ?_
  refine g_iload_n d12_ofCar_10 rfl ?_
  refine g_iaddN d12_ofCar_11 ?_
  refine g_ialdN (((14 + (4 * c)) + j)) d12_ofCar_12 a_76 (rfl) (by omega) (by decide) ?_
  exact g_iret rfl d12_ofCar_13 (⟨rfl, rfl⟩)
set_option maxHeartbeats 1000000 in
theorem r12_isCar {l : Launch} {K : cK} {d : Nat} {I : wI} {L : wL} {R : wR} {dy : cH} (n : Nat) (hn : I 76 0 = nI n) (hn6 : n ≤ 6) (x : Int32) (hd : 1 ≤ d) : CE l K m12_isCar d [.ref 74, .int x] (hp I L R dy) (.int (if 0 ≤ x.toInt ∧ x.toInt < n then 1 else 0)) (hp I L R dy) := by
  refine CC.of ok12_isCar (Nat.le_of_ble_eq_true rfl) ?_
  refine g_iload_n d12_isCar_0 rfl ?_
  refine g_i2l d12_isCar_1 ?_
  refine g_lconstv (0) d12_isCar_2 rfl ?_
  refine g_aload_n d12_isCar_3 rfl ?_
  refine g_get fl12_13 d12_isCar_4 f_74_3 ?_
  refine g_iconstv (nI 0) d12_isCar_7 rfl ?_
  refine g_ialdN (0) d12_isCar_8 a_76 (rfl) (by omega) (by decide) ?_
  rw [hn]
  refine g_i2lN (by omega) d12_isCar_9 ?_
  refine g_lconstv (1) d12_isCar_10 rfl ?_
  refine g_lsub d12_isCar_11 ?_
  refine g_ES3 sm12_in ml12_134 (r12_in (Nat.le_refl 0)) (by omega) (by decide) d12_isCar_12 ?_
  exact g_zret rfl (b01 _) d12_isCar_15 (⟨by rw [i2l_int, show (lN n - 1).toInt = (n : Int) - 1 by (rcases (by omega : n = 0 ∨ n = 1 ∨ n = 2 ∨ n = 3 ∨ n = 4 ∨ n = 5 ∨ n = 6) with rfl | rfl | rfl | rfl | rfl | rfl | rfl <;> rfl)]; congr 3; exact propext ⟨fun q => ⟨q.1, by have := q.2; omega⟩, fun q => ⟨q.1, by have := q.2; omega⟩⟩, rfl⟩)
set_option maxHeartbeats 1000000 in
theorem r12_tell_ok {l : Launch} {K : cK} {d : Nat} {I : wI} {L : wL} {R : wR} {dy : cH} {v : Int32} (hv : 0 ≤ v.toInt) (hd : 0 ≤ d) : CE l K m12_tell d [.ref 74, .int v] (hp I L R dy) (.int v) (hp (uI I 74 1 0) L R dy) := by
  refine CC.of ok12_tell (Nat.le_of_ble_eq_true rfl) ?_
  refine g_aload_n d12_tell_0 rfl ?_
  refine g_iload_n d12_tell_1 rfl ?_
  refine g_iz_ge _ 9 (rfl) d12_tell_2 rfl (fun _ => ?_) (fun c2 => absurd c2 (by omega))
  refine g_iconstv (nI 0) d12_tell_9 rfl ?_
  refine g_putIh _ fl12_131 d12_tell_10 f_74_1 s_74_1 ?_
  refine g_iload_n d12_tell_13 rfl ?_
  refine g_iz_ge _ 28 (rfl) d12_tell_14 rfl (fun _ => ?_) (fun c14 => absurd c14 (by omega))
  refine g_iload_n d12_tell_28 rfl ?_
  exact g_iret rfl d12_tell_29 (⟨rfl, rfl⟩)
set_option maxHeartbeats 1000000 in
theorem r12_tell_no {l : Launch} {K : cK} {d : Nat} {I : wI} {L : wL} {R : wR} {dy : cH} (k : Nat) (hk0 : 1 ≤ k) (hk : k ≤ 6) {v : Int32} (hv : v.toInt < 0) (hkv : -v = nI k) (hd : 0 ≤ d) : CE l K m12_tell d [.ref 74, .int v] (hp I L R dy) (.int v) (hp (uI (uI I 74 1 v) 75 k (I 75 k + 1)) L R dy) := by
  refine CC.of ok12_tell (Nat.le_of_ble_eq_true rfl) ?_
  refine g_aload_n d12_tell_0 rfl ?_
  refine g_iload_n d12_tell_1 rfl ?_
  refine g_iz_ge _ 9 (rfl) d12_tell_2 rfl (fun c2 => absurd c2 (by omega)) (fun _ => ?_)
  refine g_iload_n d12_tell_5 rfl ?_
  refine g_goto 10 d12_tell_6 rfl ?_
  refine g_putIh _ fl12_131 d12_tell_10 f_74_1 s_74_1 ?_
  refine g_iload_n d12_tell_13 rfl ?_
  refine g_iz_ge _ 28 (rfl) d12_tell_14 rfl (fun c14 => absurd c14 (by omega)) (fun _ => ?_)
  refine g_aload_n d12_tell_17 rfl ?_
  refine g_get fl12_7 d12_tell_18 f_74_2 ?_
  refine g_iload_n d12_tell_21 rfl ?_
  refine g_ineg d12_tell_22 ?_
  rw [hkv]
  refine g_dup2 d12_tell_23 rfl rfl ?_
  refine g_ialdN (k) d12_tell_24 a_75 (rfl) (by omega) (by decide) ?_
  refine g_iconstv (nI 1) d12_tell_25 rfl ?_
  refine g_iadd d12_tell_26 ?_
  refine g_iastN (k) _ d12_tell_27 a_75 (rfl) (by omega) (by decide) t_75 ?_
  refine g_iload_n d12_tell_28 rfl ?_
  exact g_iret rfl d12_tell_29 (⟨rfl, rfl⟩)
set_option maxHeartbeats 1000000 in
theorem r12_change {l : Launch} {K : cK} {d : Nat} {I : wI} {L : wL} {R : wR} {dy : cH} (a : Nat) (ha : a < 10880) {v : Int32} (hd : 0 ≤ d) : CE l K m12_change d [.ref 74, .int (nI a), .int v] (hp I L R dy) (.int (I 76 a)) (hp (uI (uI I 76 a v) 74 1 0) L R dy) := by
  refine CC.of ok12_change (Nat.le_of_ble_eq_true rfl) ?_
  refine g_aload_n d12_change_0 rfl ?_
  refine g_get fl12_13 d12_change_1 f_74_3 ?_
  refine g_iload_n d12_change_4 rfl ?_
  refine g_ialdN (a) d12_change_5 a_76 (rfl) (by omega) (by decide) ?_
  refine g_istore_n d12_change_6 (by decide) ?_
  refine g_aload_n d12_change_7 rfl ?_
  refine g_get fl12_13 d12_change_8 f_74_3 ?_
  refine g_iload_n d12_change_11 rfl ?_
  refine g_iload_n d12_change_12 rfl ?_
  refine g_iastN (a) _ d12_change_13 a_76 (rfl) (by omega) (by decide) t_76 ?_
  refine g_aload_n d12_change_14 rfl ?_
  refine g_iconstv (nI 0) d12_change_15 rfl ?_
  refine g_putIh _ fl12_131 d12_change_16 f_74_1 s_74_1 ?_
  refine g_iload_n d12_change_19 rfl ?_
  exact g_iret rfl d12_change_20 (⟨rfl, rfl⟩)
