set_option maxHeartbeats 200000 in
theorem r12_force_no {l : Launch} {K : cK} {d : Nat} {I : wI} {L : wL} {R : wR} {dy : cH} (x : Int32) (n : Nat) (hn : I 76 1 = nI n) (hn6 : n ≤ 6) (hx : ¬ (x.toInt = -1 ∨ 0 ≤ x.toInt ∧ x.toInt < n)) (hd : 2 ≤ d) : CE l K m12_force d [.ref 74, .int x] (hp I L R dy) (.int (-2)) (hp (uI (uI (uI I 74 0 0) 74 1 (-2)) 75 2 (I 75 2 + 1)) L R dy) := by
  refine CC.of ok12_force (Nat.le_of_ble_eq_true rfl) ?_
  refine g_aload_n d12_force_0 rfl ?_
  refine g_iconstv (nI 0) d12_force_1 rfl ?_
  refine g_putIh _ fl12_128 d12_force_2 f_74_0 s_74_0 ?_
  refine g_iload_n d12_force_5 rfl ?_
  refine g_iconstv ((-1 : Int32)) d12_force_6 rfl ?_
  refine g_ic_eq _ (-1) 18 (rfl) (by decide) d12_force_7 rfl (fun c7 => absurd c7 (by omega)) (fun _ => ?_)
  refine g_aload_n d12_force_10 rfl ?_
  refine g_iload_n d12_force_11 rfl ?_
  refine g_EV1 vm12_isLaw ml12_349 c_74 (r12_isLawI  n (by exact hn) hn6 (rfl) (Nat.le_refl 1)) (by omega) (Nat.le_of_ble_eq_true rfl) d12_force_12 ?_
  refine g_bz 27 d12_force_15 rfl (fun _ => ?_) (fun c15 => absurd c15 (by omega))
  refine g_aload_n d12_force_27 rfl ?_
  refine g_bipushv ((-2 : Int32)) d12_force_28 rfl ?_
  refine g_EV1 vm12_tell ml12_138 c_74 (r12_tell_no 2 (by decide) (by decide) (by decide) (by decide) (Nat.le_refl 0)) (by omega) (Nat.le_of_ble_eq_true rfl) d12_force_30 ?_
  exact g_iret rfl d12_force_33 (⟨rfl, rfl⟩)
set_option maxHeartbeats 200000 in
theorem r12_force_ok {l : Launch} {K : cK} {d : Nat} {I : wI} {L : wL} {R : wR} {dy : cH} (x : Int32) (n : Nat) (hn : I 76 1 = nI n) (hn6 : n ≤ 6) (hx : x.toInt = -1 ∨ 0 ≤ x.toInt ∧ x.toInt < n) (hd : 2 ≤ d) : CE l K m12_force d [.ref 74, .int x] (hp I L R dy) (.int (I 76 5)) (hp (uI (uI (uI I 74 0 0) 76 5 x) 74 1 0) L R dy) := by
  refine CC.of ok12_force (Nat.le_of_ble_eq_true rfl) ?_
  refine g_aload_n d12_force_0 rfl ?_
  refine g_iconstv (nI 0) d12_force_1 rfl ?_
  refine g_putIh _ fl12_128 d12_force_2 f_74_0 s_74_0 ?_
  refine g_iload_n d12_force_5 rfl ?_
  refine g_iconstv ((-1 : Int32)) d12_force_6 rfl ?_
  refine g_ic_eq _ (-1) 18 (rfl) (by decide) d12_force_7 rfl (fun c7 => ?_) (fun c7 => ?_)
  · refine g_aload_n d12_force_18 rfl ?_
    refine g_iconstv (nI 5) d12_force_19 rfl ?_
    refine g_iload_n d12_force_20 rfl ?_
    refine g_EV2 vm12_change ml12_161 c_74 (r12_change (5) (by omega) (Nat.le_refl 0)) (by omega) (Nat.le_of_ble_eq_true rfl) d12_force_21 ?_
    refine g_goto 33 d12_force_24 rfl ?_
    exact g_iret rfl d12_force_33 (⟨rfl, rfl⟩)
  · refine g_aload_n d12_force_10 rfl ?_
    refine g_iload_n d12_force_11 rfl ?_
    refine g_EV1 vm12_isLaw ml12_349 c_74 (r12_isLawI  n (by exact hn) hn6 (rfl) (Nat.le_refl 1)) (by omega) (Nat.le_of_ble_eq_true rfl) d12_force_12 ?_
    refine g_bz 27 d12_force_15 rfl (fun c15 => ?_) (fun c15 => ?_)
    · exfalso
      omega
    · refine g_aload_n d12_force_18 rfl ?_
      refine g_iconstv (nI 5) d12_force_19 rfl ?_
      refine g_iload_n d12_force_20 rfl ?_
      refine g_EV2 vm12_change ml12_161 c_74 (r12_change (5) (by omega) (Nat.le_refl 0)) (by omega) (Nat.le_of_ble_eq_true rfl) d12_force_21 ?_
      refine g_goto 33 d12_force_24 rfl ?_
      exact g_iret rfl d12_force_33 (⟨rfl, rfl⟩)
theorem l_add1 (a : Int32) : (a.toInt64 + 1).toInt = a.toInt + 1 := by
  have h1 := a.toInt_lt
  have h2 := a.le_toInt
  rw [Int64.toInt_add, i2l_int, show (1 : Int64).toInt = 1 from rfl]
  exact Int.bmod_eq_of_le (by omega) (by omega)
set_option maxHeartbeats 200000 in
theorem r12_place_no {l : Launch} {K : cK} {d : Nat} {I : wI} {L : wL} {R : wR} {dy : cH} (a b : Int32) (hbad : ¬ (0 ≤ a.toInt ∧ a.toInt < b.toInt ∧ b.toInt ≤ 99)) (hd : 1 ≤ d) : CE l K m12_place d [.ref 74, .int a, .int b] (hp I L R dy) (.int (-1)) (hp (uI (uI (uI I 74 0 0) 74 1 (-1)) 75 1 (I 75 1 + 1)) L R dy) := by
  refine CC.of ok12_place (Nat.le_of_ble_eq_true rfl) ?_
  refine g_aload_n d12_place_0 rfl ?_
  refine g_iconstv (nI 0) d12_place_1 rfl ?_
  refine g_putIh _ fl12_128 d12_place_2 f_74_0 s_74_0 ?_
  refine g_iload_n d12_place_5 rfl ?_
  refine g_i2l d12_place_6 ?_
  refine g_lconstv (0) d12_place_7 rfl ?_
  refine g_ldc2 d12_place_8 kl12_501 ?_
  refine g_ES3 sm12_in ml12_134 (r12_inI (ai := (0)) (bi := (98)) (i2l_int _) (by decide) (by decide) (Nat.le_refl 0)) (by omega) (Nat.le_of_ble_eq_true rfl) d12_place_11 ?_
  refine g_bz 32 d12_place_14 rfl (fun c14 => ?_) (fun c14 => ?_)
  · refine g_aload_n d12_place_32 rfl ?_
    refine g_iconstv ((-1 : Int32)) d12_place_33 rfl ?_
    refine g_EV1 vm12_tell ml12_138 c_74 (r12_tell_no 1 (by decide) (by decide) (by decide) (by decide) (Nat.le_refl 0)) (by omega) (Nat.le_of_ble_eq_true rfl) d12_place_34 ?_
    exact g_iret rfl d12_place_37 (⟨rfl, rfl⟩)
  · refine g_iload_n d12_place_17 rfl ?_
    refine g_i2l d12_place_18 ?_
    refine g_iload_n d12_place_19 rfl ?_
    refine g_i2l d12_place_20 ?_
    refine g_lconstv (1) d12_place_21 rfl ?_
    refine g_ladd d12_place_22 ?_
    refine g_ldc2 d12_place_23 kl12_172 ?_
    refine g_ES3 sm12_in ml12_134 (r12_inI (ai := (a.toInt + 1)) (bi := (99)) (i2l_int _) (l_add1 a) (by decide) (Nat.le_refl 0)) (by omega) (Nat.le_of_ble_eq_true rfl) d12_place_26 ?_
    refine g_bnz 38 d12_place_29 rfl (fun c29 => ?_) (fun c29 => ?_)
    · exfalso
      omega
    · refine g_aload_n d12_place_32 rfl ?_
      refine g_iconstv ((-1 : Int32)) d12_place_33 rfl ?_
      refine g_EV1 vm12_tell ml12_138 c_74 (r12_tell_no 1 (by decide) (by decide) (by decide) (by decide) (Nat.le_refl 0)) (by omega) (Nat.le_of_ble_eq_true rfl) d12_place_34 ?_
      exact g_iret rfl d12_place_37 (⟨rfl, rfl⟩)
set_option maxHeartbeats 200000 in
theorem r12_place_full {l : Launch} {K : cK} {d : Nat} {I : wI} {L : wL} {R : wR} {dy : cH} (a b : Int32) (hok : 0 ≤ a.toInt ∧ a.toInt < b.toInt ∧ b.toInt ≤ 99) (hn : I 76 3 = nI 6) (hd : 1 ≤ d) : CE l K m12_place d [.ref 74, .int a, .int b] (hp I L R dy) (.int (-5)) (hp (uI (uI (uI I 74 0 0) 74 1 (-5)) 75 5 (I 75 5 + 1)) L R dy) := by
  refine CC.of ok12_place (Nat.le_of_ble_eq_true rfl) ?_
  refine g_aload_n d12_place_0 rfl ?_
  refine g_iconstv (nI 0) d12_place_1 rfl ?_
  refine g_putIh _ fl12_128 d12_place_2 f_74_0 s_74_0 ?_
  refine g_iload_n d12_place_5 rfl ?_
  refine g_i2l d12_place_6 ?_
  refine g_lconstv (0) d12_place_7 rfl ?_
  refine g_ldc2 d12_place_8 kl12_501 ?_
  refine g_ES3 sm12_in ml12_134 (r12_inI (ai := (0)) (bi := (98)) (i2l_int _) (by decide) (by decide) (Nat.le_refl 0)) (by omega) (Nat.le_of_ble_eq_true rfl) d12_place_11 ?_
  refine g_bz 32 d12_place_14 rfl (fun c14 => absurd c14 (fun q => q (by omega))) (fun _ => ?_)
  refine g_iload_n d12_place_17 rfl ?_
  refine g_i2l d12_place_18 ?_
  refine g_iload_n d12_place_19 rfl ?_
  refine g_i2l d12_place_20 ?_
  refine g_lconstv (1) d12_place_21 rfl ?_
  refine g_ladd d12_place_22 ?_
  refine g_ldc2 d12_place_23 kl12_172 ?_
  refine g_ES3 sm12_in ml12_134 (r12_inI (ai := (a.toInt + 1)) (bi := (99)) (i2l_int _) (l_add1 a) (by decide) (Nat.le_refl 0)) (by omega) (Nat.le_of_ble_eq_true rfl) d12_place_26 ?_
  refine g_bnz 38 d12_place_29 rfl (fun _ => ?_) (fun c29 => absurd c29 (fun q => q (by omega)))
  refine g_aload_n d12_place_38 rfl ?_
  refine g_get fl12_13 d12_place_39 f_74_3 ?_
  refine g_iconstv (nI 3) d12_place_42 rfl ?_
  refine g_ialdN (3) d12_place_43 a_76 (rfl) (by omega) (by decide) ?_
  refine g_topI (nI 6) (hn) ?_
  refine g_istore_n d12_place_44 (by decide) ?_
  refine g_iload_n d12_place_45 rfl ?_
  refine g_bipushv (nI 6) d12_place_46 rfl ?_
  refine g_ic_ne ((6 : Nat) : Int) (6) 58 (nI_ti (by omega)) (by decide) d12_place_48 rfl (fun c48 => absurd c48 (fun q => q rfl)) (fun _ => ?_)
  refine g_aload_n d12_place_51 rfl ?_
  refine g_bipushv ((-5 : Int32)) d12_place_52 rfl ?_
  refine g_EV1 vm12_tell ml12_138 c_74 (r12_tell_no 5 (by decide) (by decide) (by decide) (by decide) (Nat.le_refl 0)) (by omega) (Nat.le_of_ble_eq_true rfl) d12_place_54 ?_
  exact g_iret rfl d12_place_57 (⟨rfl, rfl⟩)
set_option maxHeartbeats 200000 in
theorem r12_place_ok {l : Launch} {K : cK} {d : Nat} {I : wI} {L : wL} {R : wR} {dy : cH} (a b : Int32) (hok : 0 ≤ a.toInt ∧ a.toInt < b.toInt ∧ b.toInt ≤ 99) (n : Nat) (hn : I 76 3 = nI n) (hn6 : n < 6) (hd : 1 ≤ d) : CE l K m12_place d [.ref 74, .int a, .int b] (hp I L R dy) (.int (nI n)) (hp (uI (uI (uI (uI (uI I 74 0 0) 76 (38 + 2 * n) a) 76 (38 + 2 * n + 1) b) 76 3 (nI (n + 1))) 74 1 0) L R dy) := by
  refine CC.of ok12_place (Nat.le_of_ble_eq_true rfl) ?_
  refine g_aload_n d12_place_0 rfl ?_
  refine g_iconstv (nI 0) d12_place_1 rfl ?_
  refine g_putIh _ fl12_128 d12_place_2 f_74_0 s_74_0 ?_
  refine g_iload_n d12_place_5 rfl ?_
  refine g_i2l d12_place_6 ?_
  refine g_lconstv (0) d12_place_7 rfl ?_
  refine g_ldc2 d12_place_8 kl12_501 ?_
  refine g_ES3 sm12_in ml12_134 (r12_inI (ai := (0)) (bi := (98)) (i2l_int _) (by decide) (by decide) (Nat.le_refl 0)) (by omega) (Nat.le_of_ble_eq_true rfl) d12_place_11 ?_
  refine g_bz 32 d12_place_14 rfl (fun c14 => absurd c14 (fun q => q (by omega))) (fun _ => ?_)
  refine g_iload_n d12_place_17 rfl ?_
  refine g_i2l d12_place_18 ?_
  refine g_iload_n d12_place_19 rfl ?_
  refine g_i2l d12_place_20 ?_
  refine g_lconstv (1) d12_place_21 rfl ?_
  refine g_ladd d12_place_22 ?_
  refine g_ldc2 d12_place_23 kl12_172 ?_
  refine g_ES3 sm12_in ml12_134 (r12_inI (ai := (a.toInt + 1)) (bi := (99)) (i2l_int _) (l_add1 a) (by decide) (Nat.le_refl 0)) (by omega) (Nat.le_of_ble_eq_true rfl) d12_place_26 ?_
  refine g_bnz 38 d12_place_29 rfl (fun _ => ?_) (fun c29 => absurd c29 (fun q => q (by omega)))
  refine g_aload_n d12_place_38 rfl ?_
  refine g_get fl12_13 d12_place_39 f_74_3 ?_
  refine g_iconstv (nI 3) d12_place_42 rfl ?_
  refine g_ialdN (3) d12_place_43 a_76 (rfl) (by omega) (by decide) ?_
  refine g_topI (nI n) (hn) ?_
  refine g_istore_n d12_place_44 (by decide) ?_
  refine g_iload_n d12_place_45 rfl ?_
  refine g_bipushv (nI 6) d12_place_46 rfl ?_
  refine g_ic_ne ((n : Nat) : Int) (6) 58 (nI_ti (by omega)) (by decide) d12_place_48 rfl (fun _ => ?_) (fun c48 => absurd c48 (by omega))
  refine g_aload_n d12_place_58 rfl ?_
  refine g_get fl12_13 d12_place_59 f_74_3 ?_
  refine g_bipushv (nI 38) d12_place_62 rfl ?_
  refine g_iconstv (nI 2) d12_place_64 rfl ?_
  refine g_iload_n d12_place_65 rfl ?_
  refine g_imulN d12_place_66 ?_
  refine g_iaddN d12_place_67 ?_
  refine g_iload_n d12_place_68 rfl ?_
  refine g_iastN ((38 + (2 * n))) _ d12_place_69 a_76 (rfl) (by omega) (by decide) t_76 ?_
  refine g_aload_n d12_place_70 rfl ?_
  refine g_get fl12_13 d12_place_71 f_74_3 ?_
  refine g_bipushv (nI 38) d12_place_74 rfl ?_
  refine g_iconstv (nI 2) d12_place_76 rfl ?_
  refine g_iload_n d12_place_77 rfl ?_
  refine g_imulN d12_place_78 ?_
  refine g_iaddN d12_place_79 ?_
  refine g_iconstv (nI 1) d12_place_80 rfl ?_
  refine g_iaddN d12_place_81 ?_
  refine g_iload_n d12_place_82 rfl ?_
  refine g_iastN (((38 + (2 * n)) + 1)) _ d12_place_83 a_76 (rfl) (by omega) (by decide) t_76 ?_
  refine g_aload_n d12_place_84 rfl ?_
  refine g_get fl12_13 d12_place_85 f_74_3 ?_
  refine g_iconstv (nI 3) d12_place_88 rfl ?_
  refine g_dup2 d12_place_89 rfl rfl ?_
  refine g_ialdN (3) d12_place_90 a_76 (rfl) (by omega) (by decide) ?_
  refine g_topI (nI n) (by rw [uI_sn (by omega), uI_sn (by omega)]; exact hn) ?_
  refine g_iconstv (nI 1) d12_place_91 rfl ?_
  refine g_iaddN d12_place_92 ?_
  refine g_iastN (3) _ d12_place_93 a_76 (rfl) (by omega) (by decide) t_76 ?_
  refine g_aload_n d12_place_94 rfl ?_
  refine g_iload_n d12_place_95 rfl ?_
  refine g_EV1 vm12_tell ml12_138 c_74 (r12_tell_ok (by rw [nI_ti (by omega)]; omega) (Nat.le_refl 0)) (by omega) (Nat.le_of_ble_eq_true rfl) d12_place_96 ?_
  exact g_iret rfl d12_place_99 (⟨rfl, rfl⟩)
set_option maxHeartbeats 200000 in
theorem r12_undo_no {l : Launch} {K : cK} {d : Nat} {I : wI} {L : wL} {R : wR} {dy : cH} (hn : I 76 4 = nI 0) (hd : 1 ≤ d) : CE l K m12_undo d [.ref 74] (hp I L R dy) (.int (-3)) (hp (uI (uI (uI I 74 0 0) 74 1 (-3)) 75 3 (I 75 3 + 1)) L R dy) := by
  refine CC.of ok12_undo (Nat.le_of_ble_eq_true rfl) ?_
  refine g_aload_n d12_undo_0 rfl ?_
  refine g_iconstv (nI 0) d12_undo_1 rfl ?_
  refine g_putIh _ fl12_128 d12_undo_2 f_74_0 s_74_0 ?_
  refine g_aload_n d12_undo_5 rfl ?_
  refine g_get fl12_13 d12_undo_6 f_74_3 ?_
  refine g_iconstv (nI 4) d12_undo_9 rfl ?_
  refine g_ialdN (4) d12_undo_10 a_76 (rfl) (by omega) (by decide) ?_
  refine g_topI (nI 0) (hn) ?_
  refine g_iz_ne ((0 : Nat) : Int) 21 (nI_ti (by omega)) d12_undo_11 rfl (fun c11 => absurd c11 (by decide)) (fun _ => ?_)
  refine g_aload_n d12_undo_14 rfl ?_
  refine g_bipushv ((-3 : Int32)) d12_undo_15 rfl ?_
  refine g_EV1 vm12_tell ml12_138 c_74 (r12_tell_no 3 (by decide) (by decide) (by decide) (by decide) (Nat.le_refl 0)) (by omega) (Nat.le_of_ble_eq_true rfl) d12_undo_17 ?_
  exact g_iret rfl d12_undo_20 (⟨rfl, rfl⟩)
set_option maxHeartbeats 200000 in
theorem r12_undo_ok {l : Launch} {K : cK} {d : Nat} {I : wI} {L : wL} {R : wR} {dy : cH} (n : Nat) (hn : I 76 4 = nI (n + 1)) (hn12 : n < 12) (hs : 0 ≤ (I 76 (50 + 2 * n)).toInt) (hd : 1 ≤ d) : CE l K m12_undo d [.ref 74] (hp I L R dy) (.int (I 76 (50 + 2 * n))) (hp (uI (uI (uI I 74 0 0) 76 4 (nI n)) 74 1 0) L R dy) := by
  refine CC.of ok12_undo (Nat.le_of_ble_eq_true rfl) ?_
  refine g_aload_n d12_undo_0 rfl ?_
  refine g_iconstv (nI 0) d12_undo_1 rfl ?_
  refine g_putIh _ fl12_128 d12_undo_2 f_74_0 s_74_0 ?_
  refine g_aload_n d12_undo_5 rfl ?_
  refine g_get fl12_13 d12_undo_6 f_74_3 ?_
  refine g_iconstv (nI 4) d12_undo_9 rfl ?_
  refine g_ialdN (4) d12_undo_10 a_76 (rfl) (by omega) (by decide) ?_
  refine g_topI (nI (n + 1)) (hn) ?_
  refine g_iz_ne (((n + 1) : Nat) : Int) 21 (nI_ti (by omega)) d12_undo_11 rfl (fun _ => ?_) (fun c11 => absurd c11 (by omega))
  refine g_aload_n d12_undo_21 rfl ?_
  refine g_get fl12_13 d12_undo_22 f_74_3 ?_
  refine g_iconstv (nI 4) d12_undo_25 rfl ?_
  refine g_dup2 d12_undo_26 rfl rfl ?_
  refine g_ialdN (4) d12_undo_27 a_76 (rfl) (by omega) (by decide) ?_
  refine g_topI (nI (n + 1)) (hn) ?_
  refine g_iconstv (nI 1) d12_undo_28 rfl ?_
  refine g_isubN (by omega) d12_undo_29 ?_
  refine g_topI (nI n) (by rw [Nat.add_sub_cancel]) ?_
  refine g_iastN (4) _ d12_undo_30 a_76 (rfl) (by omega) (by decide) t_76 ?_
  refine g_aload_n d12_undo_31 rfl ?_
  refine g_aload_n d12_undo_32 rfl ?_
  refine g_get fl12_13 d12_undo_33 f_74_3 ?_
  refine g_bipushv (nI 50) d12_undo_36 rfl ?_
  refine g_iconstv (nI 2) d12_undo_38 rfl ?_
  refine g_aload_n d12_undo_39 rfl ?_
  refine g_get fl12_13 d12_undo_40 f_74_3 ?_
  refine g_iconstv (nI 4) d12_undo_43 rfl ?_
  refine g_ialdN (4) d12_undo_44 a_76 (rfl) (by omega) (by decide) ?_
  refine g_topI (nI n) (by rw [uI_ss]) ?_
  refine g_imulN d12_undo_45 ?_
  refine g_iaddN d12_undo_46 ?_
  refine g_ialdN ((50 + (2 * n))) d12_undo_47 a_76 (rfl) (by omega) (by decide) ?_
  refine g_topI (I 76 (50 + 2 * n)) (by rw [uI_sn (by omega)]; rfl) ?_
  refine g_EV1 vm12_tell ml12_138 c_74 (r12_tell_ok (hs) (Nat.le_refl 0)) (by omega) (Nat.le_of_ble_eq_true rfl) d12_undo_48 ?_
  exact g_iret rfl d12_undo_51 (⟨rfl, rfl⟩)
/-- four bytes come behind the tape: cell c its bytes, its length at cell k, place j -/
def fo (I : wI) (c k j t : Nat) (v : Int32) : wI := uI (uI (uI (uI (uI (uI (uI (uI (I) c (t) (v >>> (nI 24 &&& 31) &&& nI 255)) k j (nI (t + 1))) c (t + 1) (v >>> (nI 16 &&& 31) &&& nI 255)) k j (nI (t + 2))) c (t + 2) (v >>> (nI 8 &&& 31) &&& nI 255)) k j (nI (t + 3))) c (t + 3) (v >>> (nI 0 &&& 31) &&& nI 255)) k j (nI (t + 4))
set_option maxHeartbeats 200000 in
theorem r12_four {l : Launch} {K : cK} {d : Nat} {I : wI} {L : wL} {R : wR} {dy : cH} (t : Nat) (ht : I 74 8 = nI t) (ht4 : t + 4 ≤ 400) (v : Int32) (hd : 0 ≤ d) : CV l K m12_four d [.ref 74, .int v] (hp I L R dy) (hp (fo I 79 74 8 t v) L R dy) := by
  refine CC.of ok12_four (Nat.le_of_ble_eq_true rfl) ?_
  refine g_bipushv (nI 24) d12_four_0 rfl ?_
  refine g_istore_n d12_four_2 (by decide) ?_
  refine g_iload_n d12_four_3 rfl ?_
  refine g_iz_lt (24) 39 (by decide) d12_four_4 rfl (fun c4 => absurd c4 (by decide)) (fun _ => ?_)
  refine g_aload_n d12_four_7 rfl ?_
  refine g_get fl12_23 d12_four_8 f_74_7 ?_
  refine g_aload_n d12_four_11 rfl ?_
  refine g_get fl12_179 d12_four_12 f_74_8 ?_
  refine g_topI (nI t) (ht) ?_
  refine g_iload_n d12_four_15 rfl ?_
  refine g_iload_n d12_four_16 rfl ?_
  refine g_ishr d12_four_17 ?_
  refine g_sipushv (nI 255) d12_four_18 rfl ?_
  refine g_iand d12_four_21 ?_
  refine g_iastN (t) _ d12_four_22 a_79 (rfl) (by omega) (by decide) t_79 ?_
  refine g_aload_n d12_four_23 rfl ?_
  refine g_dup d12_four_24 rfl ?_
  refine g_get fl12_179 d12_four_25 f_74_8 ?_
  refine g_topI (nI t) (ht) ?_
  refine g_iconstv (nI 1) d12_four_28 rfl ?_
  refine g_iaddN d12_four_29 ?_
  refine g_putIh _ fl12_179 d12_four_30 f_74_8 s_74_8 ?_
  refine g_iinc (nI 16) d12_four_33 rfl (by decide) (by decide) ?_
  refine g_goto 3 d12_four_36 rfl ?_
  refine g_iload_n d12_four_3 rfl ?_
  refine g_iz_lt (16) 39 (by decide) d12_four_4 rfl (fun c4 => absurd c4 (by decide)) (fun _ => ?_)
  refine g_aload_n d12_four_7 rfl ?_
  refine g_get fl12_23 d12_four_8 f_74_7 ?_
  refine g_aload_n d12_four_11 rfl ?_
  refine g_get fl12_179 d12_four_12 f_74_8 ?_
  refine g_topI (nI (t + 1)) (rfl) ?_
  refine g_iload_n d12_four_15 rfl ?_
  refine g_iload_n d12_four_16 rfl ?_
  refine g_ishr d12_four_17 ?_
  refine g_sipushv (nI 255) d12_four_18 rfl ?_
  refine g_iand d12_four_21 ?_
  refine g_iastN ((t + 1)) _ d12_four_22 a_79 (rfl) (by omega) (by decide) t_79 ?_
  refine g_aload_n d12_four_23 rfl ?_
  refine g_dup d12_four_24 rfl ?_
  refine g_get fl12_179 d12_four_25 f_74_8 ?_
  refine g_topI (nI (t + 1)) (rfl) ?_
  refine g_iconstv (nI 1) d12_four_28 rfl ?_
  refine g_iaddN d12_four_29 ?_
  refine g_putIh _ fl12_179 d12_four_30 f_74_8 s_74_8 ?_
  refine g_iinc (nI 8) d12_four_33 rfl (by decide) (by decide) ?_
  refine g_goto 3 d12_four_36 rfl ?_
  refine g_iload_n d12_four_3 rfl ?_
  refine g_iz_lt (8) 39 (by decide) d12_four_4 rfl (fun c4 => absurd c4 (by decide)) (fun _ => ?_)
  refine g_aload_n d12_four_7 rfl ?_
  refine g_get fl12_23 d12_four_8 f_74_7 ?_
  refine g_aload_n d12_four_11 rfl ?_
  refine g_get fl12_179 d12_four_12 f_74_8 ?_
  refine g_topI (nI (t + 2)) (rfl) ?_
  refine g_iload_n d12_four_15 rfl ?_
  refine g_iload_n d12_four_16 rfl ?_
  refine g_ishr d12_four_17 ?_
  refine g_sipushv (nI 255) d12_four_18 rfl ?_
  refine g_iand d12_four_21 ?_
  refine g_iastN ((t + 2)) _ d12_four_22 a_79 (rfl) (by omega) (by decide) t_79 ?_
  refine g_aload_n d12_four_23 rfl ?_
  refine g_dup d12_four_24 rfl ?_
  refine g_get fl12_179 d12_four_25 f_74_8 ?_
  refine g_topI (nI (t + 2)) (rfl) ?_
  refine g_iconstv (nI 1) d12_four_28 rfl ?_
  refine g_iaddN d12_four_29 ?_
  refine g_putIh _ fl12_179 d12_four_30 f_74_8 s_74_8 ?_
  refine g_iinc (nI 0) d12_four_33 rfl (by decide) (by decide) ?_
  refine g_goto 3 d12_four_36 rfl ?_
  refine g_iload_n d12_four_3 rfl ?_
  refine g_iz_lt (0) 39 (by decide) d12_four_4 rfl (fun c4 => absurd c4 (by decide)) (fun _ => ?_)
  refine g_aload_n d12_four_7 rfl ?_
  refine g_get fl12_23 d12_four_8 f_74_7 ?_
  refine g_aload_n d12_four_11 rfl ?_
  refine g_get fl12_179 d12_four_12 f_74_8 ?_
  refine g_topI (nI (t + 3)) (rfl) ?_
  refine g_iload_n d12_four_15 rfl ?_
  refine g_iload_n d12_four_16 rfl ?_
  refine g_ishr d12_four_17 ?_
  refine g_sipushv (nI 255) d12_four_18 rfl ?_
  refine g_iand d12_four_21 ?_
  refine g_iastN ((t + 3)) _ d12_four_22 a_79 (rfl) (by omega) (by decide) t_79 ?_
  refine g_aload_n d12_four_23 rfl ?_
  refine g_dup d12_four_24 rfl ?_
  refine g_get fl12_179 d12_four_25 f_74_8 ?_
  refine g_topI (nI (t + 3)) (rfl) ?_
  refine g_iconstv (nI 1) d12_four_28 rfl ?_
  refine g_iaddN d12_four_29 ?_
  refine g_putIh _ fl12_179 d12_four_30 f_74_8 s_74_8 ?_
  refine g_iinc ((-8 : Int32)) d12_four_33 rfl (by decide) (by decide) ?_
  refine g_goto 3 d12_four_36 rfl ?_
  refine g_iload_n d12_four_3 rfl ?_
  refine g_iz_lt (-8) 39 (by decide) d12_four_4 rfl (fun _ => ?_) (fun c4 => absurd c4 (by decide))
  exact g_vret rfl d12_four_39 (⟨rfl, rfl⟩)
