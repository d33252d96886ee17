abbrev FX (I : wI) (L : wL) (I2 : wI) (L2 : wL) : Prop := FR [75, 76, 80, 81, 82, 83, 84] [0, 1, 8, 9, 10, 11, 13, 14, 15, 16, 18, 21, 24, 25] [] [12] I L I2 L2
set_option maxHeartbeats 200000 in
theorem r12_t1_law_f {l : Launch} {K : cK} {d : Nat} {I : wI} {L : wL} {R : wR} {dy : cH} (hn : I 76 1 = nI 6) (hd : 1 ≤ d) : CE l K m12_text1 d [.ref 74, .int (nI 0), .int (nI 1), .int (nI 80)] (hp I L R dy) (.int (-5)) (hp (uI (uI (uI I 74 8 0) 74 1 (-5)) 75 5 (I 75 5 + 1)) L R dy) := by
  refine CC.of ok12_text1 (Nat.le_of_ble_eq_true rfl) ?_
  refine g_aload_n d12_text1_0 rfl ?_
  refine g_get fl12_13 d12_text1_1 f_74_3 ?_
  refine g_iload_n d12_text1_4 rfl ?_
  refine g_ialdN (1) d12_text1_5 a_76 (rfl) (by omega) (by decide) ?_
  refine g_topI (nI 6) (hn) ?_
  refine g_istore d12_text1_6 (by decide) ?_
  refine g_iload d12_text1_8 rfl ?_
  refine g_bipushv (nI 6) d12_text1_10 rfl ?_
  refine g_ic_ne (6) (6) 27 (by decide) (by decide) d12_text1_12 rfl (fun c12 => absurd c12 (by decide)) (fun _ => ?_)
  refine g_aload_n d12_text1_15 rfl ?_
  refine g_iconstv (nI 0) d12_text1_16 rfl ?_
  refine g_putIh _ fl12_179 d12_text1_17 f_74_8 s_74_8 ?_
  refine g_aload_n d12_text1_20 rfl ?_
  refine g_bipushv ((-5 : Int32)) d12_text1_21 rfl ?_
  refine g_EV1 vm12_tell ml12_138 c_74 (r12_tell_no 5 (by decide) (by decide) (by decide) (by decide) (Nat.le_refl 0)) (by omega) (Nat.le_of_ble_eq_true rfl) d12_text1_23 ?_
  exact g_iret rfl d12_text1_26 (⟨rfl, rfl⟩)
set_option maxHeartbeats 400000 in
theorem r12_t1_law_n {l : Launch} {K : cK} {d : Nat} {I : wI} {L : wL} {R : wR} {dy : cH} (tp : Nat → Nat) (t : Nat) (hTP : TPm I tp t) (hW : ∀ k, k < 7 → L 85 k = lN (lws true k) ∧ L 86 k = lN (lws false k)) (n : Nat) (hn : I 76 1 = nI n) (hn6 : n < 6) (e : Nat) (hz : ptx tp t true = .inl e) (hd : 11 ≤ d) : CX l K m12_text1 d [.ref 74, .int (nI 0), .int (nI 1), .int (nI 80)] (hp I L R dy) (α := wI × wL) (fun x => FX I L x.1 x.2 ∧ x.1 76 = I 76 ∧ x.1 74 13 = nI e ∧ x.1 74 8 = 0 ∧ x.1 74 15 = 0 ∧ x.1 74 1 = -6 ∧ x.1 75 = upd (I 75) 6 (I 75 6 + 1)) (fun _ => .int (-6)) (fun x => hp x.1 x.2 R dy) := by
  refine CC.of ok12_text1 (Nat.le_of_ble_eq_true rfl) ?_
  refine g_aload_n d12_text1_0 rfl ?_
  refine g_get fl12_13 d12_text1_1 f_74_3 ?_
  refine g_iload_n d12_text1_4 rfl ?_
  refine g_ialdN (1) d12_text1_5 a_76 (rfl) (by omega) (by decide) ?_
  refine g_topI (nI (n)) (hn) ?_
  refine g_istore d12_text1_6 (by decide) ?_
  refine g_iload d12_text1_8 rfl ?_
  refine g_bipushv (nI 6) d12_text1_10 rfl ?_
  refine g_ic_ne ((n : Nat) : Int) (6) 27 (nI_ti (by omega)) (by decide) d12_text1_12 rfl (fun _ => ?_) (fun c12 => absurd c12 (by omega))
  refine g_aload_n d12_text1_27 rfl ?_
  refine g_iload_n d12_text1_28 rfl ?_
  refine g_iload_n d12_text1_29 rfl ?_
  refine g_sipushv (nI 900) d12_text1_30 rfl ?_
  refine g_iload d12_text1_33 rfl ?_
  refine g_imulN d12_text1_35 ?_
  refine g_iaddN d12_text1_36 ?_
  refine g_XV2 vm12_readText ml12_341 c_74 (r12_readText tp t true hTP hW (80 + 900 * n) (by omega) (nI 0) rfl (Nat.le_refl 10)) (by omega) (Nat.le_of_ble_eq_true rfl) d12_text1_37 (fun x hx => ?_)
  refine g_topI (nI 0) (by rw [hz]; rfl) ?_
  rw [hz] at hx
  obtain ⟨x1, x2, x3, x4, x5⟩ := hx
  refine g_iz_ne (0) 50 (by decide) d12_text1_40 rfl (fun c40 => absurd c40 (by decide)) (fun _ => ?_)
  refine g_aload_n d12_text1_43 rfl ?_
  refine g_bipushv ((-6 : Int32)) d12_text1_44 rfl ?_
  refine g_EV1 vm12_tell ml12_138 c_74 (r12_tell_no (I := x.1) 6 (by decide) (by decide) (by decide) (by decide) (Nat.le_refl 0)) (by omega) (Nat.le_of_ble_eq_true rfl) d12_text1_46 ?_
  refine g_iret rfl d12_text1_49 (⟨(uI (uI x.1 74 1 (-6)) 75 6 (x.1 75 6 + 1), x.2), ⟨((x1.up (by decide) (by decide) (by decide) (by decide)).uf (by decide)).ui (by decide) (by decide), x4, x5, x2, x3, rfl, ?_⟩, rfl, rfl⟩)
  show upd (x.1 75) 6 (x.1 75 6 + 1) = _
  rw [x1.1 75 (by decide) (by decide)]
set_option maxHeartbeats 400000 in
theorem r12_t1_law_y {l : Launch} {K : cK} {d : Nat} {I : wI} {L : wL} {R : wR} {dy : cH} (tp : Nat → Nat) (t : Nat) (hTP : TPm I tp t) (hW : ∀ k, k < 7 → L 85 k = lN (lws true k) ∧ L 86 k = lN (lws false k)) (n : Nat) (hn : I 76 1 = nI n) (hn6 : n < 6) (cs : List Cl) (hz : ptx tp t true = .inr cs) (hd : 11 ≤ d) : CX l K m12_text1 d [.ref 74, .int (nI 0), .int (nI 1), .int (nI 80)] (hp I L R dy) (α := wI × wL) (fun x => FX I L x.1 x.2 ∧ x.1 75 = I 75 ∧ x.1 74 1 = 0 ∧ x.1 74 8 = 0 ∧ x.1 74 13 = -1 ∧ x.1 74 15 = 0 ∧ x.1 76 1 = nI (n + 1) ∧ (∀ q, q ≠ 1 → (q < 80 + 900 * n ∨ 80 + 900 * n + 900 ≤ q) → x.1 76 q = I 76 q) ∧ TMF (x.1 76) (80 + 900 * n) (txF cs)) (fun _ => .int (nI n)) (fun x => hp x.1 x.2 R dy) := by
  refine CC.of ok12_text1 (Nat.le_of_ble_eq_true rfl) ?_
  refine g_aload_n d12_text1_0 rfl ?_
  refine g_get fl12_13 d12_text1_1 f_74_3 ?_
  refine g_iload_n d12_text1_4 rfl ?_
  refine g_ialdN (1) d12_text1_5 a_76 (rfl) (by omega) (by decide) ?_
  refine g_topI (nI (n)) (hn) ?_
  refine g_istore d12_text1_6 (by decide) ?_
  refine g_iload d12_text1_8 rfl ?_
  refine g_bipushv (nI 6) d12_text1_10 rfl ?_
  refine g_ic_ne ((n : Nat) : Int) (6) 27 (nI_ti (by omega)) (by decide) d12_text1_12 rfl (fun _ => ?_) (fun c12 => absurd c12 (by omega))
  refine g_aload_n d12_text1_27 rfl ?_
  refine g_iload_n d12_text1_28 rfl ?_
  refine g_iload_n d12_text1_29 rfl ?_
  refine g_sipushv (nI 900) d12_text1_30 rfl ?_
  refine g_iload d12_text1_33 rfl ?_
  refine g_imulN d12_text1_35 ?_
  refine g_iaddN d12_text1_36 ?_
  refine g_XV2 vm12_readText ml12_341 c_74 (r12_readText tp t true hTP hW (80 + 900 * n) (by omega) (nI 0) rfl (Nat.le_refl 10)) (by omega) (Nat.le_of_ble_eq_true rfl) d12_text1_37 (fun x hx => ?_)
  refine g_topI (nI 1) (by rw [hz]; rfl) ?_
  rw [hz] at hx
  obtain ⟨x1, x2, x3, x4, x5, x6⟩ := hx
  have xn : x.1 76 1 = nI n := (x4 1 (by omega)).trans hn
  refine g_iz_ne (1) 50 (by decide) d12_text1_40 rfl (fun _ => ?_) (fun c40 => absurd c40 (by decide))
  refine g_aload_n d12_text1_50 rfl ?_
  refine g_get fl12_13 d12_text1_51 f_74_3 ?_
  refine g_iload_n d12_text1_54 rfl ?_
  refine g_dup2 d12_text1_55 rfl rfl ?_
  refine g_ialdN (1) d12_text1_56 a_76 (rfl) (by omega) (by decide) ?_
  refine g_topI (nI (n)) (xn) ?_
  refine g_iconstv (nI 1) d12_text1_57 rfl ?_
  refine g_iaddN d12_text1_58 ?_
  refine g_iastN (1) _ d12_text1_59 a_76 (rfl) (by omega) (by decide) t_76 ?_
  refine g_aload_n d12_text1_60 rfl ?_
  refine g_iload d12_text1_61 rfl ?_
  refine g_EV1 vm12_tell ml12_138 c_74 (r12_tell_ok (I := uI x.1 76 1 (nI (n + 1))) (by rw [nI_ti (by omega)]; omega) (Nat.le_refl 0)) (by omega) (Nat.le_of_ble_eq_true rfl) d12_text1_63 ?_
  refine g_iret rfl d12_text1_66 (⟨(uI (uI x.1 76 1 (nI (n + 1))) 74 1 0, x.2), ⟨((x1.up (by decide) (by decide) (by decide) (by decide)).ui (by decide) (by decide)).uf (by decide), x1.1 75 (by decide) (by decide), rfl, x2, x5, x3, rfl, fun q hq hq2 => ?_, x6.cg (fun q q1 q2 => ?_)⟩, rfl, rfl⟩)
  · show uI (uI x.1 76 1 (nI (n + 1))) 74 1 0 76 q = _
    rw [uI_n (by decide), uI_sn hq]; exact x4 q hq2
  · show uI (uI x.1 76 1 (nI (n + 1))) 74 1 0 76 q = _
    rw [uI_n (by decide), uI_sn (by omega)]
set_option maxHeartbeats 200000 in
theorem r12_law_f {l : Launch} {K : cK} {d : Nat} {I : wI} {L : wL} {R : wR} {dy : cH} (hn : I 76 1 = nI 6) (hd : 2 ≤ d) : CE l K m12_law d [.ref 74] (hp I L R dy) (.int (-5)) (hp (uI (uI (uI (uI I 74 0 0) 74 8 0) 74 1 (-5)) 75 5 (I 75 5 + 1)) L R dy) := by
  refine CC.of ok12_law (Nat.le_of_ble_eq_true rfl) ?_
  refine g_aload_n d12_law_0 rfl ?_
  refine g_iconstv (nI 0) d12_law_1 rfl ?_
  refine g_putIh _ fl12_128 d12_law_2 f_74_0 s_74_0 ?_
  refine g_aload_n d12_law_5 rfl ?_
  refine g_iconstv (nI 0) d12_law_6 rfl ?_
  refine g_iconstv (nI 1) d12_law_7 rfl ?_
  refine g_bipushv (nI 80) d12_law_8 rfl ?_
  refine g_EV3 vm12_text1 ml12_345 c_74 (r12_t1_law_f (I := uI I 74 0 0) (by exact hn) (Nat.le_refl 1)) (by omega) (Nat.le_of_ble_eq_true rfl) d12_law_10 ?_
  exact g_iret rfl d12_law_13 (⟨rfl, rfl⟩)
set_option maxHeartbeats 200000 in
theorem r12_law_n {l : Launch} {K : cK} {d : Nat} {I : wI} {L : wL} {R : wR} {dy : cH} (tp : Nat → Nat) (t : Nat) (hTP : TPm I tp t) (hW : ∀ k, k < 7 → L 85 k = lN (lws true k) ∧ L 86 k = lN (lws false k)) (n : Nat) (hn : I 76 1 = nI n) (hn6 : n < 6) (e : Nat) (hz : ptx tp t true = .inl e) (hd : 12 ≤ d) : CX l K m12_law d [.ref 74] (hp I L R dy) (α := wI × wL) (fun x => FX I L x.1 x.2 ∧ x.1 76 = I 76 ∧ x.1 74 13 = nI e ∧ x.1 74 8 = 0 ∧ x.1 74 15 = 0 ∧ x.1 74 1 = -6 ∧ x.1 75 = upd (I 75) 6 (I 75 6 + 1)) (fun _ => .int (-6)) (fun x => hp x.1 x.2 R dy) := by
  refine CC.of ok12_law (Nat.le_of_ble_eq_true rfl) ?_
  refine g_aload_n d12_law_0 rfl ?_
  refine g_iconstv (nI 0) d12_law_1 rfl ?_
  refine g_putIh _ fl12_128 d12_law_2 f_74_0 s_74_0 ?_
  refine g_aload_n d12_law_5 rfl ?_
  refine g_iconstv (nI 0) d12_law_6 rfl ?_
  refine g_iconstv (nI 1) d12_law_7 rfl ?_
  refine g_bipushv (nI 80) d12_law_8 rfl ?_
  refine g_XV3 vm12_text1 ml12_345 c_74 (r12_t1_law_n (I := uI I 74 0 0) tp t (by exact hTP) hW n (by exact hn) hn6 e hz (Nat.le_refl 11)) (by omega) (Nat.le_of_ble_eq_true rfl) d12_law_10 (fun x hx => ?_)
  exact g_iret rfl d12_law_13 (⟨x, ⟨(FR.rf.uf (by decide)).tr hx.1, hx.2⟩, rfl, rfl⟩)
set_option maxHeartbeats 200000 in
theorem r12_law_y {l : Launch} {K : cK} {d : Nat} {I : wI} {L : wL} {R : wR} {dy : cH} (tp : Nat → Nat) (t : Nat) (hTP : TPm I tp t) (hW : ∀ k, k < 7 → L 85 k = lN (lws true k) ∧ L 86 k = lN (lws false k)) (n : Nat) (hn : I 76 1 = nI n) (hn6 : n < 6) (cs : List Cl) (hz : ptx tp t true = .inr cs) (hd : 12 ≤ d) : CX l K m12_law d [.ref 74] (hp I L R dy) (α := wI × wL) (fun x => FX I L x.1 x.2 ∧ x.1 75 = I 75 ∧ x.1 74 1 = 0 ∧ x.1 74 8 = 0 ∧ x.1 74 13 = -1 ∧ x.1 74 15 = 0 ∧ x.1 76 1 = nI (n + 1) ∧ (∀ q, q ≠ 1 → (q < 80 + 900 * n ∨ 80 + 900 * n + 900 ≤ q) → x.1 76 q = I 76 q) ∧ TMF (x.1 76) (80 + 900 * n) (txF cs)) (fun _ => .int (nI n)) (fun x => hp x.1 x.2 R dy) := by
  refine CC.of ok12_law (Nat.le_of_ble_eq_true rfl) ?_
  refine g_aload_n d12_law_0 rfl ?_
  refine g_iconstv (nI 0) d12_law_1 rfl ?_
  refine g_putIh _ fl12_128 d12_law_2 f_74_0 s_74_0 ?_
  refine g_aload_n d12_law_5 rfl ?_
  refine g_iconstv (nI 0) d12_law_6 rfl ?_
  refine g_iconstv (nI 1) d12_law_7 rfl ?_
  refine g_bipushv (nI 80) d12_law_8 rfl ?_
  refine g_XV3 vm12_text1 ml12_345 c_74 (r12_t1_law_y (I := uI I 74 0 0) tp t (by exact hTP) hW n (by exact hn) hn6 cs hz (Nat.le_refl 11)) (by omega) (Nat.le_of_ble_eq_true rfl) d12_law_10 (fun x hx => ?_)
  exact g_iret rfl d12_law_13 (⟨x, ⟨(FR.rf.uf (by decide)).tr hx.1, hx.2⟩, rfl, rfl⟩)
set_option maxHeartbeats 200000 in
theorem r12_t1_habit_f {l : Launch} {K : cK} {d : Nat} {I : wI} {L : wL} {R : wR} {dy : cH} (hn : I 76 2 = nI 6) (hd : 1 ≤ d) : CE l K m12_text1 d [.ref 74, .int (nI 1), .int (nI 2), .int (nI 5480)] (hp I L R dy) (.int (-5)) (hp (uI (uI (uI I 74 8 0) 74 1 (-5)) 75 5 (I 75 5 + 1)) L R dy) := by
  refine CC.of ok12_text1 (Nat.le_of_ble_eq_true rfl) ?_
  refine g_aload_n d12_text1_0 rfl ?_
  refine g_get fl12_13 d12_text1_1 f_74_3 ?_
  refine g_iload_n d12_text1_4 rfl ?_
  refine g_ialdN (2) d12_text1_5 a_76 (rfl) (by omega) (by decide) ?_
  refine g_topI (nI 6) (hn) ?_
  refine g_istore d12_text1_6 (by decide) ?_
  refine g_iload d12_text1_8 rfl ?_
  refine g_bipushv (nI 6) d12_text1_10 rfl ?_
  refine g_ic_ne (6) (6) 27 (by decide) (by decide) d12_text1_12 rfl (fun c12 => absurd c12 (by decide)) (fun _ => ?_)
  refine g_aload_n d12_text1_15 rfl ?_
  refine g_iconstv (nI 0) d12_text1_16 rfl ?_
  refine g_putIh _ fl12_179 d12_text1_17 f_74_8 s_74_8 ?_
  refine g_aload_n d12_text1_20 rfl ?_
  refine g_bipushv ((-5 : Int32)) d12_text1_21 rfl ?_
  refine g_EV1 vm12_tell ml12_138 c_74 (r12_tell_no 5 (by decide) (by decide) (by decide) (by decide) (Nat.le_refl 0)) (by omega) (Nat.le_of_ble_eq_true rfl) d12_text1_23 ?_
  exact g_iret rfl d12_text1_26 (⟨rfl, rfl⟩)
set_option maxHeartbeats 400000 in
theorem r12_t1_habit_n {l : Launch} {K : cK} {d : Nat} {I : wI} {L : wL} {R : wR} {dy : cH} (tp : Nat → Nat) (t : Nat) (hTP : TPm I tp t) (hW : ∀ k, k < 7 → L 85 k = lN (lws true k) ∧ L 86 k = lN (lws false k)) (n : Nat) (hn : I 76 2 = nI n) (hn6 : n < 6) (e : Nat) (hz : ptx tp t false = .inl e) (hd : 11 ≤ d) : CX l K m12_text1 d [.ref 74, .int (nI 1), .int (nI 2), .int (nI 5480)] (hp I L R dy) (α := wI × wL) (fun x => FX I L x.1 x.2 ∧ x.1 76 = I 76 ∧ x.1 74 13 = nI e ∧ x.1 74 8 = 0 ∧ x.1 74 15 = 0 ∧ x.1 74 1 = -6 ∧ x.1 75 = upd (I 75) 6 (I 75 6 + 1)) (fun _ => .int (-6)) (fun x => hp x.1 x.2 R dy) := by
  refine CC.of ok12_text1 (Nat.le_of_ble_eq_true rfl) ?_
  refine g_aload_n d12_text1_0 rfl ?_
  refine g_get fl12_13 d12_text1_1 f_74_3 ?_
  refine g_iload_n d12_text1_4 rfl ?_
  refine g_ialdN (2) d12_text1_5 a_76 (rfl) (by omega) (by decide) ?_
  refine g_topI (nI (n)) (hn) ?_
  refine g_istore d12_text1_6 (by decide) ?_
  refine g_iload d12_text1_8 rfl ?_
  refine g_bipushv (nI 6) d12_text1_10 rfl ?_
  refine g_ic_ne ((n : Nat) : Int) (6) 27 (nI_ti (by omega)) (by decide) d12_text1_12 rfl (fun _ => ?_) (fun c12 => absurd c12 (by omega))
  refine g_aload_n d12_text1_27 rfl ?_
  refine g_iload_n d12_text1_28 rfl ?_
  refine g_iload_n d12_text1_29 rfl ?_
  refine g_sipushv (nI 900) d12_text1_30 rfl ?_
  refine g_iload d12_text1_33 rfl ?_
  refine g_imulN d12_text1_35 ?_
  refine g_iaddN d12_text1_36 ?_
  refine g_XV2 vm12_readText ml12_341 c_74 (r12_readText tp t false hTP hW (5480 + 900 * n) (by omega) (nI 1) rfl (Nat.le_refl 10)) (by omega) (Nat.le_of_ble_eq_true rfl) d12_text1_37 (fun x hx => ?_)
  refine g_topI (nI 0) (by rw [hz]; rfl) ?_
  rw [hz] at hx
  obtain ⟨x1, x2, x3, x4, x5⟩ := hx
  refine g_iz_ne (0) 50 (by decide) d12_text1_40 rfl (fun c40 => absurd c40 (by decide)) (fun _ => ?_)
  refine g_aload_n d12_text1_43 rfl ?_
  refine g_bipushv ((-6 : Int32)) d12_text1_44 rfl ?_
  refine g_EV1 vm12_tell ml12_138 c_74 (r12_tell_no (I := x.1) 6 (by decide) (by decide) (by decide) (by decide) (Nat.le_refl 0)) (by omega) (Nat.le_of_ble_eq_true rfl) d12_text1_46 ?_
  refine g_iret rfl d12_text1_49 (⟨(uI (uI x.1 74 1 (-6)) 75 6 (x.1 75 6 + 1), x.2), ⟨((x1.up (by decide) (by decide) (by decide) (by decide)).uf (by decide)).ui (by decide) (by decide), x4, x5, x2, x3, rfl, ?_⟩, rfl, rfl⟩)
  show upd (x.1 75) 6 (x.1 75 6 + 1) = _
  rw [x1.1 75 (by decide) (by decide)]
set_option maxHeartbeats 400000 in
theorem r12_t1_habit_y {l : Launch} {K : cK} {d : Nat} {I : wI} {L : wL} {R : wR} {dy : cH} (tp : Nat → Nat) (t : Nat) (hTP : TPm I tp t) (hW : ∀ k, k < 7 → L 85 k = lN (lws true k) ∧ L 86 k = lN (lws false k)) (n : Nat) (hn : I 76 2 = nI n) (hn6 : n < 6) (cs : List Cl) (hz : ptx tp t false = .inr cs) (hd : 11 ≤ d) : CX l K m12_text1 d [.ref 74, .int (nI 1), .int (nI 2), .int (nI 5480)] (hp I L R dy) (α := wI × wL) (fun x => FX I L x.1 x.2 ∧ x.1 75 = I 75 ∧ x.1 74 1 = 0 ∧ x.1 74 8 = 0 ∧ x.1 74 13 = -1 ∧ x.1 74 15 = 0 ∧ x.1 76 2 = nI (n + 1) ∧ (∀ q, q ≠ 2 → (q < 5480 + 900 * n ∨ 5480 + 900 * n + 900 ≤ q) → x.1 76 q = I 76 q) ∧ TMF (x.1 76) (5480 + 900 * n) (txF cs)) (fun _ => .int (nI n)) (fun x => hp x.1 x.2 R dy) := by
  refine CC.of ok12_text1 (Nat.le_of_ble_eq_true rfl) ?_
  refine g_aload_n d12_text1_0 rfl ?_
  refine g_get fl12_13 d12_text1_1 f_74_3 ?_
  refine g_iload_n d12_text1_4 rfl ?_
  refine g_ialdN (2) d12_text1_5 a_76 (rfl) (by omega) (by decide) ?_
  refine g_topI (nI (n)) (hn) ?_
  refine g_istore d12_text1_6 (by decide) ?_
  refine g_iload d12_text1_8 rfl ?_
  refine g_bipushv (nI 6) d12_text1_10 rfl ?_
  refine g_ic_ne ((n : Nat) : Int) (6) 27 (nI_ti (by omega)) (by decide) d12_text1_12 rfl (fun _ => ?_) (fun c12 => absurd c12 (by omega))
  refine g_aload_n d12_text1_27 rfl ?_
  refine g_iload_n d12_text1_28 rfl ?_
  refine g_iload_n d12_text1_29 rfl ?_
  refine g_sipushv (nI 900) d12_text1_30 rfl ?_
  refine g_iload d12_text1_33 rfl ?_
  refine g_imulN d12_text1_35 ?_
  refine g_iaddN d12_text1_36 ?_
  refine g_XV2 vm12_readText ml12_341 c_74 (r12_readText tp t false hTP hW (5480 + 900 * n) (by omega) (nI 1) rfl (Nat.le_refl 10)) (by omega) (Nat.le_of_ble_eq_true rfl) d12_text1_37 (fun x hx => ?_)
  refine g_topI (nI 1) (by rw [hz]; rfl) ?_
  rw [hz] at hx
  obtain ⟨x1, x2, x3, x4, x5, x6⟩ := hx
  have xn : x.1 76 2 = nI n := (x4 2 (by omega)).trans hn
  refine g_iz_ne (1) 50 (by decide) d12_text1_40 rfl (fun _ => ?_) (fun c40 => absurd c40 (by decide))
  refine g_aload_n d12_text1_50 rfl ?_
  refine g_get fl12_13 d12_text1_51 f_74_3 ?_
  refine g_iload_n d12_text1_54 rfl ?_
  refine g_dup2 d12_text1_55 rfl rfl ?_
  refine g_ialdN (2) d12_text1_56 a_76 (rfl) (by omega) (by decide) ?_
  refine g_topI (nI (n)) (xn) ?_
  refine g_iconstv (nI 1) d12_text1_57 rfl ?_
  refine g_iaddN d12_text1_58 ?_
  refine g_iastN (2) _ d12_text1_59 a_76 (rfl) (by omega) (by decide) t_76 ?_
  refine g_aload_n d12_text1_60 rfl ?_
  refine g_iload d12_text1_61 rfl ?_
  refine g_EV1 vm12_tell ml12_138 c_74 (r12_tell_ok (I := uI x.1 76 2 (nI (n + 1))) (by rw [nI_ti (by omega)]; omega) (Nat.le_refl 0)) (by omega) (Nat.le_of_ble_eq_true rfl) d12_text1_63 ?_
  refine g_iret rfl d12_text1_66 (⟨(uI (uI x.1 76 2 (nI (n + 1))) 74 1 0, x.2), ⟨((x1.up (by decide) (by decide) (by decide) (by decide)).ui (by decide) (by decide)).uf (by decide), x1.1 75 (by decide) (by decide), rfl, x2, x5, x3, rfl, fun q hq hq2 => ?_, x6.cg (fun q q1 q2 => ?_)⟩, rfl, rfl⟩)
  · show uI (uI x.1 76 2 (nI (n + 1))) 74 1 0 76 q = _
    rw [uI_n (by decide), uI_sn hq]; exact x4 q hq2
  · show uI (uI x.1 76 2 (nI (n + 1))) 74 1 0 76 q = _
    rw [uI_n (by decide), uI_sn (by omega)]
set_option maxHeartbeats 200000 in
theorem r12_habit_f {l : Launch} {K : cK} {d : Nat} {I : wI} {L : wL} {R : wR} {dy : cH} (hn : I 76 2 = nI 6) (hd : 2 ≤ d) : CE l K m12_habit d [.ref 74] (hp I L R dy) (.int (-5)) (hp (uI (uI (uI (uI I 74 0 0) 74 8 0) 74 1 (-5)) 75 5 (I 75 5 + 1)) L R dy) := by
  refine CC.of ok12_habit (Nat.le_of_ble_eq_true rfl) ?_
  refine g_aload_n d12_habit_0 rfl ?_
  refine g_iconstv (nI 0) d12_habit_1 rfl ?_
  refine g_putIh _ fl12_128 d12_habit_2 f_74_0 s_74_0 ?_
  refine g_aload_n d12_habit_5 rfl ?_
  refine g_iconstv (nI 1) d12_habit_6 rfl ?_
  refine g_iconstv (nI 2) d12_habit_7 rfl ?_
  refine g_sipushv (nI 5480) d12_habit_8 rfl ?_
  refine g_EV3 vm12_text1 ml12_345 c_74 (r12_t1_habit_f (I := uI I 74 0 0) (by exact hn) (Nat.le_refl 1)) (by omega) (Nat.le_of_ble_eq_true rfl) d12_habit_11 ?_
  exact g_iret rfl d12_habit_14 (⟨rfl, rfl⟩)
set_option maxHeartbeats 200000 in
theorem r12_habit_n {l : Launch} {K : cK} {d : Nat} {I : wI} {L : wL} {R : wR} {dy : cH} (tp : Nat → Nat) (t : Nat) (hTP : TPm I tp t) (hW : ∀ k, k < 7 → L 85 k = lN (lws true k) ∧ L 86 k = lN (lws false k)) (n : Nat) (hn : I 76 2 = nI n) (hn6 : n < 6) (e : Nat) (hz : ptx tp t false = .inl e) (hd : 12 ≤ d) : CX l K m12_habit d [.ref 74] (hp I L R dy) (α := wI × wL) (fun x => FX I L x.1 x.2 ∧ x.1 76 = I 76 ∧ x.1 74 13 = nI e ∧ x.1 74 8 = 0 ∧ x.1 74 15 = 0 ∧ x.1 74 1 = -6 ∧ x.1 75 = upd (I 75) 6 (I 75 6 + 1)) (fun _ => .int (-6)) (fun x => hp x.1 x.2 R dy) := by
  refine CC.of ok12_habit (Nat.le_of_ble_eq_true rfl) ?_
  refine g_aload_n d12_habit_0 rfl ?_
  refine g_iconstv (nI 0) d12_habit_1 rfl ?_
  refine g_putIh _ fl12_128 d12_habit_2 f_74_0 s_74_0 ?_
  refine g_aload_n d12_habit_5 rfl ?_
  refine g_iconstv (nI 1) d12_habit_6 rfl ?_
  refine g_iconstv (nI 2) d12_habit_7 rfl ?_
  refine g_sipushv (nI 5480) d12_habit_8 rfl ?_
  refine g_XV3 vm12_text1 ml12_345 c_74 (r12_t1_habit_n (I := uI I 74 0 0) tp t (by exact hTP) hW n (by exact hn) hn6 e hz (Nat.le_refl 11)) (by omega) (Nat.le_of_ble_eq_true rfl) d12_habit_11 (fun x hx => ?_)
  exact g_iret rfl d12_habit_14 (⟨x, ⟨(FR.rf.uf (by decide)).tr hx.1, hx.2⟩, rfl, rfl⟩)
set_option maxHeartbeats 200000 in
theorem r12_habit_y {l : Launch} {K : cK} {d : Nat} {I : wI} {L : wL} {R : wR} {dy : cH} (tp : Nat → Nat) (t : Nat) (hTP : TPm I tp t) (hW : ∀ k, k < 7 → L 85 k = lN (lws true k) ∧ L 86 k = lN (lws false k)) (n : Nat) (hn : I 76 2 = nI n) (hn6 : n < 6) (cs : List Cl) (hz : ptx tp t false = .inr cs) (hd : 12 ≤ d) : CX l K m12_habit d [.ref 74] (hp I L R dy) (α := wI × wL) (fun x => FX I L x.1 x.2 ∧ x.1 75 = I 75 ∧ x.1 74 1 = 0 ∧ x.1 74 8 = 0 ∧ x.1 74 13 = -1 ∧ x.1 74 15 = 0 ∧ x.1 76 2 = nI (n + 1) ∧ (∀ q, q ≠ 2 → (q < 5480 + 900 * n ∨ 5480 + 900 * n + 900 ≤ q) → x.1 76 q = I 76 q) ∧ TMF (x.1 76) (5480 + 900 * n) (txF cs)) (fun _ => .int (nI n)) (fun x => hp x.1 x.2 R dy) := by
  refine CC.of ok12_habit (Nat.le_of_ble_eq_true rfl) ?_
  refine g_aload_n d12_habit_0 rfl ?_
  refine g_iconstv (nI 0) d12_habit_1 rfl ?_
  refine g_putIh _ fl12_128 d12_habit_2 f_74_0 s_74_0 ?_
  refine g_aload_n d12_habit_5 rfl ?_
  refine g_iconstv (nI 1) d12_habit_6 rfl ?_
  refine g_iconstv (nI 2) d12_habit_7 rfl ?_
  refine g_sipushv (nI 5480) d12_habit_8 rfl ?_
  refine g_XV3 vm12_text1 ml12_345 c_74 (r12_t1_habit_y (I := uI I 74 0 0) tp t (by exact hTP) hW n (by exact hn) hn6 cs hz (Nat.le_refl 11)) (by omega) (Nat.le_of_ble_eq_true rfl) d12_habit_11 (fun x hx => ?_)
  exact g_iret rfl d12_habit_14 (⟨x, ⟨(FR.rf.uf (by decide)).tr hx.1, hx.2⟩, rfl, rfl⟩)
