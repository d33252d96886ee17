set_option maxHeartbeats 200000 in
theorem r12_asks_no {l : Launch} {K : cK} {d : Nat} {I : wI} {L : wL} {R : wR} {dy : cH} (s k c w : Int32) (hbad : ¬ ((0 ≤ s.toInt ∧ s.toInt < 12) ∧ (1 ≤ k.toInt ∧ k.toInt ≤ 12) ∧ 0 ≤ w.toInt ∧ w.toInt ≤ 2)) (hd : 2 ≤ d) : CE l K m12_asks d [.ref 74, .int s, .int k, .int c, .int w] (hp I L R dy) (.int (-1)) (hp (uI I 74 0 0) L R dy) := by
  refine CC.of ok12_asks (Nat.le_of_ble_eq_true rfl) ?_
  refine g_aload_n d12_asks_0 rfl ?_
  refine g_iconstv (nI 0) d12_asks_1 rfl ?_
  refine g_putIh _ fl12_128 d12_asks_2 f_74_0 s_74_0 ?_
  refine g_iload_n d12_asks_5 rfl ?_
  refine g_ES1 sm12_isSlot ml12_144 (r12_isSlotI  (rfl) (Nat.le_refl 1)) (by omega) (Nat.le_of_ble_eq_true rfl) d12_asks_6 ?_
  refine g_bz 37 d12_asks_9 rfl (fun c9 => ?_) (fun c9 => ?_)
  · refine g_iconstv ((-1 : Int32)) d12_asks_37 rfl ?_
    exact g_iret rfl d12_asks_38 (⟨rfl, rfl⟩)
  · refine g_iload_n d12_asks_12 rfl ?_
    refine g_i2l d12_asks_13 ?_
    refine g_lconstv (1) d12_asks_14 rfl ?_
    refine g_ldc2 d12_asks_15 kl12_174 ?_
    refine g_ES3 sm12_in ml12_134 (r12_inI (ai := (1)) (bi := (12)) (i2l_int _) (by decide) (by decide) (Nat.le_refl 0)) (by omega) (Nat.le_of_ble_eq_true rfl) d12_asks_18 ?_
    refine g_bz 37 d12_asks_21 rfl (fun c21 => ?_) (fun c21 => ?_)
    · refine g_iconstv ((-1 : Int32)) d12_asks_37 rfl ?_
      exact g_iret rfl d12_asks_38 (⟨rfl, rfl⟩)
    · refine g_iload d12_asks_24 rfl ?_
      refine g_i2l d12_asks_26 ?_
      refine g_lconstv (0) d12_asks_27 rfl ?_
      refine g_ldc2 d12_asks_28 kl12_401 ?_
      refine g_ES3 sm12_in ml12_134 (r12_inI (ai := (0)) (bi := (2)) (i2l_int _) (by decide) (by decide) (Nat.le_refl 0)) (by omega) (Nat.le_of_ble_eq_true rfl) d12_asks_31 ?_
      refine g_bnz 39 d12_asks_34 rfl (fun c34 => ?_) (fun c34 => ?_)
      · exact absurd ⟨by omega, by omega, by omega⟩ hbad
      · refine g_iconstv ((-1 : Int32)) d12_asks_37 rfl ?_
        exact g_iret rfl d12_asks_38 (⟨rfl, rfl⟩)
set_option maxHeartbeats 200000 in
theorem r12_asks_0 {l : Launch} {K : cK} {d : Nat} {I : wI} {L : wL} {R : wR} {dy : cH} (lf : lawF) (ha : inF I lf) (ho : I 74 15 = 0) (s k : Nat) (hs : s < 12) (hk1 : 1 ≤ k) (hk2 : k ≤ 12) (c : Int32) (hd : 6 ≤ d) : CX l K m12_asks d [.ref 74, .int (nI s), .int (nI k), .int c, .int (nI 0)] (hp I L R dy) (α := wI × wL) (fun x => FR [90, 92, 93, 96, 98] [0, 28, 32, 35, 36, 43, 44] [87, 88, 89, 91, 94, 95, 97, 99, 100] [33, 34, 42] I L x.1 x.2) (fun _ => .int (nI (cmR (I 76) (I 76 11) lf s k))) (fun x => hp x.1 x.2 R dy) := by
  refine CC.of ok12_asks (Nat.le_of_ble_eq_true rfl) ?_
  refine g_aload_n d12_asks_0 rfl ?_
  refine g_iconstv (nI 0) d12_asks_1 rfl ?_
  refine g_putIh _ fl12_128 d12_asks_2 f_74_0 s_74_0 ?_
  refine g_iload_n d12_asks_5 rfl ?_
  refine g_ES1 sm12_isSlot ml12_144 (r12_isSlotI (xi := ((s : Nat) : Int)) (nI_ti (by omega)) (Nat.le_refl 1)) (by omega) (Nat.le_of_ble_eq_true rfl) d12_asks_6 ?_
  refine g_bz 37 d12_asks_9 rfl (fun c9 => absurd c9 (fun q => q (by omega))) (fun _ => ?_)
  refine g_iload_n d12_asks_12 rfl ?_
  refine g_i2lN (by omega) d12_asks_13 ?_
  refine g_lconstv (1) d12_asks_14 rfl ?_
  refine g_ldc2 d12_asks_15 kl12_174 ?_
  refine g_ES3 sm12_in ml12_134 (r12_inI (vi := ((k : Nat) : Int)) (ai := (1)) (bi := (12)) (pk_lT (by omega)) (by decide) (by decide) (Nat.le_refl 0)) (by omega) (Nat.le_of_ble_eq_true rfl) d12_asks_18 ?_
  refine g_bz 37 d12_asks_21 rfl (fun c21 => absurd c21 (fun q => q (by omega))) (fun _ => ?_)
  refine g_iload d12_asks_24 rfl ?_
  refine g_i2lN (by omega) d12_asks_26 ?_
  refine g_lconstv (0) d12_asks_27 rfl ?_
  refine g_ldc2 d12_asks_28 kl12_401 ?_
  refine g_ES3 sm12_in ml12_134 (r12_inI (vi := ((0 : Nat) : Int)) (ai := (0)) (bi := (2)) (pk_lT (by omega)) (by decide) (by decide) (Nat.le_refl 0)) (by omega) (Nat.le_of_ble_eq_true rfl) d12_asks_31 ?_
  refine g_bnz 39 d12_asks_34 rfl (fun _ => ?_) (fun c34 => absurd c34 (fun q => q (by omega)))
  refine g_aload_n d12_asks_39 rfl ?_
  refine g_VV0 vm12_askNow ml12_403 c_74 (r12_askNow (Nat.le_refl 1)) (by omega) (Nat.le_of_ble_eq_true rfl) d12_asks_40 ?_
  refine g_iload d12_asks_43 rfl ?_
  refine g_iz_ne (0) 55 (by decide) d12_asks_45 rfl (fun c45 => absurd c45 (by decide)) (fun _ => ?_)
  refine g_aload_n d12_asks_48 rfl ?_
  refine g_iload_n d12_asks_49 rfl ?_
  refine g_iload_n d12_asks_50 rfl ?_
  refine g_XV2 vm12_comesOf ml12_406 c_74 (r12_comesOf (I := (uI (uI (uI I 74 0 0) 74 35 (I 76 5)) 74 36 (I 76 11))) s k (by omega) (by omega) lf (by exact ha) (by exact ho) (Nat.le_refl 4)) (by omega) (Nat.le_of_ble_eq_true rfl) d12_asks_51 (fun y hy => ?_)
  exact g_iret rfl d12_asks_54 (⟨y, (((FR.rf.uf (j := 0) (by decide)).uf (j := 35) (by decide)).uf (j := 36) (by decide)).tr (hy.fr.up (by decide) (by decide) (by decide) (by decide)), rfl, rfl⟩)
set_option maxHeartbeats 200000 in
theorem r12_asks_n1 {l : Launch} {K : cK} {d : Nat} {I : wI} {L : wL} {R : wR} {dy : cH} (lf : lawF) (ha : inF I lf) (ho : I 74 15 = 0) (s k : Nat) (hs : s < 12) (hk1 : 1 ≤ k) (hk2 : k ≤ 12) (n : Nat) (hn : I 76 0 = nI n) (hn6 : n ≤ 6) (c : Int32) (hc : ¬ (0 ≤ c.toInt ∧ c.toInt < n)) (w : Nat) (hw1 : 1 ≤ w) (hw : w ≤ 2) (hd : 2 ≤ d) : CE l K m12_asks d [.ref 74, .int (nI s), .int (nI k), .int c, .int (nI w)] (hp I L R dy) (.int (-1)) (hp (uI (uI (uI I 74 0 0) 74 35 (I 76 5)) 74 36 (I 76 11)) L R dy) := by
  refine CC.of ok12_asks (Nat.le_of_ble_eq_true rfl) ?_
  refine g_aload_n d12_asks_0 rfl ?_
  refine g_iconstv (nI 0) d12_asks_1 rfl ?_
  refine g_putIh _ fl12_128 d12_asks_2 f_74_0 s_74_0 ?_
  refine g_iload_n d12_asks_5 rfl ?_
  refine g_ES1 sm12_isSlot ml12_144 (r12_isSlotI (xi := ((s : Nat) : Int)) (nI_ti (by omega)) (Nat.le_refl 1)) (by omega) (Nat.le_of_ble_eq_true rfl) d12_asks_6 ?_
  refine g_bz 37 d12_asks_9 rfl (fun c9 => absurd c9 (fun q => q (by omega))) (fun _ => ?_)
  refine g_iload_n d12_asks_12 rfl ?_
  refine g_i2lN (by omega) d12_asks_13 ?_
  refine g_lconstv (1) d12_asks_14 rfl ?_
  refine g_ldc2 d12_asks_15 kl12_174 ?_
  refine g_ES3 sm12_in ml12_134 (r12_inI (vi := ((k : Nat) : Int)) (ai := (1)) (bi := (12)) (pk_lT (by omega)) (by decide) (by decide) (Nat.le_refl 0)) (by omega) (Nat.le_of_ble_eq_true rfl) d12_asks_18 ?_
  refine g_bz 37 d12_asks_21 rfl (fun c21 => absurd c21 (fun q => q (by omega))) (fun _ => ?_)
  refine g_iload d12_asks_24 rfl ?_
  refine g_i2lN (by omega) d12_asks_26 ?_
  refine g_lconstv (0) d12_asks_27 rfl ?_
  refine g_ldc2 d12_asks_28 kl12_401 ?_
  refine g_ES3 sm12_in ml12_134 (r12_inI (vi := ((w : Nat) : Int)) (ai := (0)) (bi := (2)) (pk_lT (by omega)) (by decide) (by decide) (Nat.le_refl 0)) (by omega) (Nat.le_of_ble_eq_true rfl) d12_asks_31 ?_
  refine g_bnz 39 d12_asks_34 rfl (fun _ => ?_) (fun c34 => absurd c34 (fun q => q (by omega)))
  refine g_aload_n d12_asks_39 rfl ?_
  refine g_VV0 vm12_askNow ml12_403 c_74 (r12_askNow (Nat.le_refl 1)) (by omega) (Nat.le_of_ble_eq_true rfl) d12_asks_40 ?_
  refine g_iload d12_asks_43 rfl ?_
  refine g_iz_ne ((w : Nat) : Int) 55 (nI_ti (by omega)) d12_asks_45 rfl (fun _ => ?_) (fun c45 => absurd c45 (by omega))
  refine g_aload_n d12_asks_55 rfl ?_
  refine g_iload_n d12_asks_56 rfl ?_
  refine g_EV1 vm12_isCar ml12_158 c_74 (r12_isCarI  n (by exact hn) hn6 (rfl) (Nat.le_refl 1)) (by omega) (Nat.le_of_ble_eq_true rfl) d12_asks_57 ?_
  refine g_bz 85 d12_asks_60 rfl (fun c60 => ?_) (fun c60 => ?_)
  · refine g_iconstv ((-1 : Int32)) d12_asks_85 rfl ?_
    exact g_iret rfl d12_asks_86 (⟨rfl, rfl⟩)
  · exact absurd c60 hc
set_option maxHeartbeats 200000 in
theorem r12_asks_n2 {l : Launch} {K : cK} {d : Nat} {I : wI} {L : wL} {R : wR} {dy : cH} (lf : lawF) (ha : inF I lf) (ho : I 74 15 = 0) (s k : Nat) (hs : s < 12) (hk1 : 1 ≤ k) (hk2 : k ≤ 12) (n : Nat) (hn : I 76 0 = nI n) (hn6 : n ≤ 6) (c fr ti se fl : Nat) (hC : CF I c fr ti se fl) (hcn : c < n) (hc : ¬ (fr ≤ s ∧ s ≤ ti)) (w : Nat) (hw1 : 1 ≤ w) (hw : w ≤ 2) (hd : 2 ≤ d) : CE l K m12_asks d [.ref 74, .int (nI s), .int (nI k), .int (nI c), .int (nI w)] (hp I L R dy) (.int (-1)) (hp (uI (uI (uI I 74 0 0) 74 35 (I 76 5)) 74 36 (I 76 11)) L R dy) := by
  obtain ⟨hc6, q0, q1, q2, q3, hft, ht11, hse, hfl⟩ := id hC
  refine CC.of ok12_asks (Nat.le_of_ble_eq_true rfl) ?_
  refine g_aload_n d12_asks_0 rfl ?_
  refine g_iconstv (nI 0) d12_asks_1 rfl ?_
  refine g_putIh _ fl12_128 d12_asks_2 f_74_0 s_74_0 ?_
  refine g_iload_n d12_asks_5 rfl ?_
  refine g_ES1 sm12_isSlot ml12_144 (r12_isSlotI (xi := ((s : Nat) : Int)) (nI_ti (by omega)) (Nat.le_refl 1)) (by omega) (Nat.le_of_ble_eq_true rfl) d12_asks_6 ?_
  refine g_bz 37 d12_asks_9 rfl (fun c9 => absurd c9 (fun q => q (by omega))) (fun _ => ?_)
  refine g_iload_n d12_asks_12 rfl ?_
  refine g_i2lN (by omega) d12_asks_13 ?_
  refine g_lconstv (1) d12_asks_14 rfl ?_
  refine g_ldc2 d12_asks_15 kl12_174 ?_
  refine g_ES3 sm12_in ml12_134 (r12_inI (vi := ((k : Nat) : Int)) (ai := (1)) (bi := (12)) (pk_lT (by omega)) (by decide) (by decide) (Nat.le_refl 0)) (by omega) (Nat.le_of_ble_eq_true rfl) d12_asks_18 ?_
  refine g_bz 37 d12_asks_21 rfl (fun c21 => absurd c21 (fun q => q (by omega))) (fun _ => ?_)
  refine g_iload d12_asks_24 rfl ?_
  refine g_i2lN (by omega) d12_asks_26 ?_
  refine g_lconstv (0) d12_asks_27 rfl ?_
  refine g_ldc2 d12_asks_28 kl12_401 ?_
  refine g_ES3 sm12_in ml12_134 (r12_inI (vi := ((w : Nat) : Int)) (ai := (0)) (bi := (2)) (pk_lT (by omega)) (by decide) (by decide) (Nat.le_refl 0)) (by omega) (Nat.le_of_ble_eq_true rfl) d12_asks_31 ?_
  refine g_bnz 39 d12_asks_34 rfl (fun _ => ?_) (fun c34 => absurd c34 (fun q => q (by omega)))
  refine g_aload_n d12_asks_39 rfl ?_
  refine g_VV0 vm12_askNow ml12_403 c_74 (r12_askNow (Nat.le_refl 1)) (by omega) (Nat.le_of_ble_eq_true rfl) d12_asks_40 ?_
  refine g_iload d12_asks_43 rfl ?_
  refine g_iz_ne ((w : Nat) : Int) 55 (nI_ti (by omega)) d12_asks_45 rfl (fun _ => ?_) (fun c45 => absurd c45 (by omega))
  refine g_aload_n d12_asks_55 rfl ?_
  refine g_iload_n d12_asks_56 rfl ?_
  refine g_EV1 vm12_isCar ml12_158 c_74 (r12_isCarI (xi := ((c : Nat) : Int)) n (by exact hn) hn6 (nI_ti (by omega)) (Nat.le_refl 1)) (by omega) (Nat.le_of_ble_eq_true rfl) d12_asks_57 ?_
  refine g_bz 85 d12_asks_60 rfl (fun c60 => absurd c60 (fun q => q (by omega))) (fun _ => ?_)
  refine g_iload_n d12_asks_63 rfl ?_
  refine g_i2lN (by omega) d12_asks_64 ?_
  refine g_aload_n d12_asks_65 rfl ?_
  refine g_iload_n d12_asks_66 rfl ?_
  refine g_iconstv (nI 0) d12_asks_67 rfl ?_
  refine g_EV2 vm12_ofCar ml12_167 c_74 (r12_ofCar (c) (0) (by omega) (by omega) (Nat.le_refl 0)) (by omega) (Nat.le_of_ble_eq_true rfl) d12_asks_68 ?_
  refine g_topI (nI (fr)) (q0) ?_
  refine g_i2lN (by omega) d12_asks_71 ?_
  refine g_aload_n d12_asks_72 rfl ?_
  refine g_iload_n d12_asks_73 rfl ?_
  refine g_iconstv (nI 1) d12_asks_74 rfl ?_
  refine g_EV2 vm12_ofCar ml12_167 c_74 (r12_ofCar (c) (1) (by omega) (by omega) (Nat.le_refl 0)) (by omega) (Nat.le_of_ble_eq_true rfl) d12_asks_75 ?_
  refine g_topI (nI (ti)) (q1) ?_
  refine g_i2lN (by omega) d12_asks_78 ?_
  refine g_ES3 sm12_in ml12_134 (r12_inI (vi := ((s : Nat) : Int)) (ai := ((fr : Nat) : Int)) (bi := ((ti : Nat) : Int)) (pk_lT (by omega)) (pk_lT (by omega)) (pk_lT (by omega)) (Nat.le_refl 0)) (by omega) (Nat.le_of_ble_eq_true rfl) d12_asks_79 ?_
  refine g_bnz 87 d12_asks_82 rfl (fun c82 => ?_) (fun c82 => ?_)
  · exact absurd ⟨by omega, by omega⟩ hc
  · refine g_iconstv ((-1 : Int32)) d12_asks_85 rfl ?_
    exact g_iret rfl d12_asks_86 (⟨rfl, rfl⟩)
set_option maxHeartbeats 200000 in
theorem r12_asks_1 {l : Launch} {K : cK} {d : Nat} {I : wI} {L : wL} {R : wR} {dy : cH} (lf : lawF) (ha : inF I lf) (ho : I 74 15 = 0) (s k : Nat) (hs : s < 12) (hk1 : 1 ≤ k) (hk2 : k ≤ 12) (n : Nat) (hn : I 76 0 = nI n) (hn6 : n ≤ 6) (c fr ti se fl : Nat) (hC : CF I c fr ti se fl) (hcn : c < n) (hs1 : fr ≤ s) (hs2 : s ≤ ti) (fine : Nat) (hfi : I 76 8 = nI fine) (hf9 : fine ≤ 99) (hd : 6 ≤ d) : CX l K m12_asks d [.ref 74, .int (nI s), .int (nI k), .int (nI c), .int (nI 1)] (hp I L R dy) (α := wI × wL) (fun x => FR [90, 92, 93, 96, 98] [0, 28, 32, 35, 36, 43, 44] [87, 88, 89, 91, 94, 95, 97, 99, 100] [33, 34, 42] I L x.1 x.2) (fun _ => .int (nI (fiF lf (ceR (I 76) (I 76 11) c fr s k) fine))) (fun x => hp x.1 x.2 R dy) := by
  obtain ⟨hc6, q0, q1, q2, q3, hft, ht11, hse, hfl⟩ := id hC
  refine CC.of ok12_asks (Nat.le_of_ble_eq_true rfl) ?_
  refine g_aload_n d12_asks_0 rfl ?_
  refine g_iconstv (nI 0) d12_asks_1 rfl ?_
  refine g_putIh _ fl12_128 d12_asks_2 f_74_0 s_74_0 ?_
  refine g_iload_n d12_asks_5 rfl ?_
  refine g_ES1 sm12_isSlot ml12_144 (r12_isSlotI (xi := ((s : Nat) : Int)) (nI_ti (by omega)) (Nat.le_refl 1)) (by omega) (Nat.le_of_ble_eq_true rfl) d12_asks_6 ?_
  refine g_bz 37 d12_asks_9 rfl (fun c9 => absurd c9 (fun q => q (by omega))) (fun _ => ?_)
  refine g_iload_n d12_asks_12 rfl ?_
  refine g_i2lN (by omega) d12_asks_13 ?_
  refine g_lconstv (1) d12_asks_14 rfl ?_
  refine g_ldc2 d12_asks_15 kl12_174 ?_
  refine g_ES3 sm12_in ml12_134 (r12_inI (vi := ((k : Nat) : Int)) (ai := (1)) (bi := (12)) (pk_lT (by omega)) (by decide) (by decide) (Nat.le_refl 0)) (by omega) (Nat.le_of_ble_eq_true rfl) d12_asks_18 ?_
  refine g_bz 37 d12_asks_21 rfl (fun c21 => absurd c21 (fun q => q (by omega))) (fun _ => ?_)
  refine g_iload d12_asks_24 rfl ?_
  refine g_i2lN (by omega) d12_asks_26 ?_
  refine g_lconstv (0) d12_asks_27 rfl ?_
  refine g_ldc2 d12_asks_28 kl12_401 ?_
  refine g_ES3 sm12_in ml12_134 (r12_inI (vi := ((1 : Nat) : Int)) (ai := (0)) (bi := (2)) (pk_lT (by omega)) (by decide) (by decide) (Nat.le_refl 0)) (by omega) (Nat.le_of_ble_eq_true rfl) d12_asks_31 ?_
  refine g_bnz 39 d12_asks_34 rfl (fun _ => ?_) (fun c34 => absurd c34 (fun q => q (by omega)))
  refine g_aload_n d12_asks_39 rfl ?_
  refine g_VV0 vm12_askNow ml12_403 c_74 (r12_askNow (Nat.le_refl 1)) (by omega) (Nat.le_of_ble_eq_true rfl) d12_asks_40 ?_
  refine g_iload d12_asks_43 rfl ?_
  refine g_iz_ne (1) 55 (by decide) d12_asks_45 rfl (fun _ => ?_) (fun c45 => absurd c45 (by decide))
  refine g_aload_n d12_asks_55 rfl ?_
  refine g_iload_n d12_asks_56 rfl ?_
  refine g_EV1 vm12_isCar ml12_158 c_74 (r12_isCarI (xi := ((c : Nat) : Int)) n (by exact hn) hn6 (nI_ti (by omega)) (Nat.le_refl 1)) (by omega) (Nat.le_of_ble_eq_true rfl) d12_asks_57 ?_
  refine g_bz 85 d12_asks_60 rfl (fun c60 => absurd c60 (fun q => q (by omega))) (fun _ => ?_)
  refine g_iload_n d12_asks_63 rfl ?_
  refine g_i2lN (by omega) d12_asks_64 ?_
  refine g_aload_n d12_asks_65 rfl ?_
  refine g_iload_n d12_asks_66 rfl ?_
  refine g_iconstv (nI 0) d12_asks_67 rfl ?_
  refine g_EV2 vm12_ofCar ml12_167 c_74 (r12_ofCar (c) (0) (by omega) (by omega) (Nat.le_refl 0)) (by omega) (Nat.le_of_ble_eq_true rfl) d12_asks_68 ?_
  refine g_topI (nI (fr)) (q0) ?_
  refine g_i2lN (by omega) d12_asks_71 ?_
  refine g_aload_n d12_asks_72 rfl ?_
  refine g_iload_n d12_asks_73 rfl ?_
  refine g_iconstv (nI 1) d12_asks_74 rfl ?_
  refine g_EV2 vm12_ofCar ml12_167 c_74 (r12_ofCar (c) (1) (by omega) (by omega) (Nat.le_refl 0)) (by omega) (Nat.le_of_ble_eq_true rfl) d12_asks_75 ?_
  refine g_topI (nI (ti)) (q1) ?_
  refine g_i2lN (by omega) d12_asks_78 ?_
  refine g_ES3 sm12_in ml12_134 (r12_inI (vi := ((s : Nat) : Int)) (ai := ((fr : Nat) : Int)) (bi := ((ti : Nat) : Int)) (pk_lT (by omega)) (pk_lT (by omega)) (pk_lT (by omega)) (Nat.le_refl 0)) (by omega) (Nat.le_of_ble_eq_true rfl) d12_asks_79 ?_
  refine g_bnz 87 d12_asks_82 rfl (fun _ => ?_) (fun c82 => absurd c82 (fun q => q (by omega)))
  refine g_iload d12_asks_87 rfl ?_
  refine g_iconstv (nI 1) d12_asks_89 rfl ?_
  refine g_ic_ne (1) (1) 108 (by decide) (by decide) d12_asks_90 rfl (fun c90 => absurd c90 (by decide)) (fun _ => ?_)
  refine g_aload_n d12_asks_93 rfl ?_
  refine g_iload_n d12_asks_94 rfl ?_
  refine g_iload_n d12_asks_95 rfl ?_
  refine g_iload_n d12_asks_96 rfl ?_
  refine g_aload_n d12_asks_97 rfl ?_
  refine g_iconstv (nI 2) d12_asks_98 rfl ?_
  refine g_EV1 vm12_term ml12_378 c_74 (r12_term (2) (by omega) (Nat.le_refl 0)) (by omega) (Nat.le_of_ble_eq_true rfl) d12_asks_99 ?_
  refine g_topI (nI (fine)) (hfi) ?_
  refine g_XV4 vm12_finesOf ml12_409 c_74 (r12_finesOf (I := (uI (uI (uI I 74 0 0) 74 35 (I 76 5)) 74 36 (I 76 11))) s k c fr (by omega) (by omega) hc6 q0 hs1 fine (by omega) lf (by exact ha) (by exact ho) (Nat.le_refl 4)) (by omega) (Nat.le_of_ble_eq_true rfl) d12_asks_102 (fun y hy => ?_)
  refine g_goto 123 d12_asks_105 rfl ?_
  exact g_iret rfl d12_asks_123 (⟨y, (((FR.rf.uf (j := 0) (by decide)).uf (j := 35) (by decide)).uf (j := 36) (by decide)).tr (hy.fr.up (by decide) (by decide) (by decide) (by decide)), rfl, rfl⟩)
set_option maxHeartbeats 200000 in
theorem r12_asks_2 {l : Launch} {K : cK} {d : Nat} {I : wI} {L : wL} {R : wR} {dy : cH} (lf : lawF) (ha : inF I lf) (ho : I 74 15 = 0) (s k : Nat) (hs : s < 12) (hk1 : 1 ≤ k) (hk2 : k ≤ 12) (n : Nat) (hn : I 76 0 = nI n) (hn6 : n ≤ 6) (c fr ti se fl : Nat) (hC : CF I c fr ti se fl) (hcn : c < n) (hs1 : fr ≤ s) (hs2 : s ≤ ti) (hd : 6 ≤ d) : CX l K m12_asks d [.ref 74, .int (nI s), .int (nI k), .int (nI c), .int (nI 2)] (hp I L R dy) (α := wI × wL) (fun x => FR [90, 92, 93, 96, 98] [0, 28, 32, 35, 36, 43, 44] [87, 88, 89, 91, 94, 95, 97, 99, 100] [33, 34, 42] I L x.1 x.2) (fun _ => .int (if spB lf (ceR (I 76) (I 76 11) c fr s k) = true then 1 else 0)) (fun x => hp x.1 x.2 R dy) := by
  obtain ⟨hc6, q0, q1, q2, q3, hft, ht11, hse, hfl⟩ := id hC
  refine CC.of ok12_asks (Nat.le_of_ble_eq_true rfl) ?_
  refine g_aload_n d12_asks_0 rfl ?_
  refine g_iconstv (nI 0) d12_asks_1 rfl ?_
  refine g_putIh _ fl12_128 d12_asks_2 f_74_0 s_74_0 ?_
  refine g_iload_n d12_asks_5 rfl ?_
  refine g_ES1 sm12_isSlot ml12_144 (r12_isSlotI (xi := ((s : Nat) : Int)) (nI_ti (by omega)) (Nat.le_refl 1)) (by omega) (Nat.le_of_ble_eq_true rfl) d12_asks_6 ?_
  refine g_bz 37 d12_asks_9 rfl (fun c9 => absurd c9 (fun q => q (by omega))) (fun _ => ?_)
  refine g_iload_n d12_asks_12 rfl ?_
  refine g_i2lN (by omega) d12_asks_13 ?_
  refine g_lconstv (1) d12_asks_14 rfl ?_
  refine g_ldc2 d12_asks_15 kl12_174 ?_
  refine g_ES3 sm12_in ml12_134 (r12_inI (vi := ((k : Nat) : Int)) (ai := (1)) (bi := (12)) (pk_lT (by omega)) (by decide) (by decide) (Nat.le_refl 0)) (by omega) (Nat.le_of_ble_eq_true rfl) d12_asks_18 ?_
  refine g_bz 37 d12_asks_21 rfl (fun c21 => absurd c21 (fun q => q (by omega))) (fun _ => ?_)
  refine g_iload d12_asks_24 rfl ?_
  refine g_i2lN (by omega) d12_asks_26 ?_
  refine g_lconstv (0) d12_asks_27 rfl ?_
  refine g_ldc2 d12_asks_28 kl12_401 ?_
  refine g_ES3 sm12_in ml12_134 (r12_inI (vi := ((2 : Nat) : Int)) (ai := (0)) (bi := (2)) (pk_lT (by omega)) (by decide) (by decide) (Nat.le_refl 0)) (by omega) (Nat.le_of_ble_eq_true rfl) d12_asks_31 ?_
  refine g_bnz 39 d12_asks_34 rfl (fun _ => ?_) (fun c34 => absurd c34 (fun q => q (by omega)))
  refine g_aload_n d12_asks_39 rfl ?_
  refine g_VV0 vm12_askNow ml12_403 c_74 (r12_askNow (Nat.le_refl 1)) (by omega) (Nat.le_of_ble_eq_true rfl) d12_asks_40 ?_
  refine g_iload d12_asks_43 rfl ?_
  refine g_iz_ne (2) 55 (by decide) d12_asks_45 rfl (fun _ => ?_) (fun c45 => absurd c45 (by decide))
  refine g_aload_n d12_asks_55 rfl ?_
  refine g_iload_n d12_asks_56 rfl ?_
  refine g_EV1 vm12_isCar ml12_158 c_74 (r12_isCarI (xi := ((c : Nat) : Int)) n (by exact hn) hn6 (nI_ti (by omega)) (Nat.le_refl 1)) (by omega) (Nat.le_of_ble_eq_true rfl) d12_asks_57 ?_
  refine g_bz 85 d12_asks_60 rfl (fun c60 => absurd c60 (fun q => q (by omega))) (fun _ => ?_)
  refine g_iload_n d12_asks_63 rfl ?_
  refine g_i2lN (by omega) d12_asks_64 ?_
  refine g_aload_n d12_asks_65 rfl ?_
  refine g_iload_n d12_asks_66 rfl ?_
  refine g_iconstv (nI 0) d12_asks_67 rfl ?_
  refine g_EV2 vm12_ofCar ml12_167 c_74 (r12_ofCar (c) (0) (by omega) (by omega) (Nat.le_refl 0)) (by omega) (Nat.le_of_ble_eq_true rfl) d12_asks_68 ?_
  refine g_topI (nI (fr)) (q0) ?_
  refine g_i2lN (by omega) d12_asks_71 ?_
  refine g_aload_n d12_asks_72 rfl ?_
  refine g_iload_n d12_asks_73 rfl ?_
  refine g_iconstv (nI 1) d12_asks_74 rfl ?_
  refine g_EV2 vm12_ofCar ml12_167 c_74 (r12_ofCar (c) (1) (by omega) (by omega) (Nat.le_refl 0)) (by omega) (Nat.le_of_ble_eq_true rfl) d12_asks_75 ?_
  refine g_topI (nI (ti)) (q1) ?_
  refine g_i2lN (by omega) d12_asks_78 ?_
  refine g_ES3 sm12_in ml12_134 (r12_inI (vi := ((s : Nat) : Int)) (ai := ((fr : Nat) : Int)) (bi := ((ti : Nat) : Int)) (pk_lT (by omega)) (pk_lT (by omega)) (pk_lT (by omega)) (Nat.le_refl 0)) (by omega) (Nat.le_of_ble_eq_true rfl) d12_asks_79 ?_
  refine g_bnz 87 d12_asks_82 rfl (fun _ => ?_) (fun c82 => absurd c82 (fun q => q (by omega)))
  refine g_iload d12_asks_87 rfl ?_
  refine g_iconstv (nI 1) d12_asks_89 rfl ?_
  refine g_ic_ne (2) (1) 108 (by decide) (by decide) d12_asks_90 rfl (fun _ => ?_) (fun c90 => absurd c90 (by decide))
  refine g_aload_n d12_asks_108 rfl ?_
  refine g_iload_n d12_asks_109 rfl ?_
  refine g_iload_n d12_asks_110 rfl ?_
  refine g_iload_n d12_asks_111 rfl ?_
  refine g_XV3 vm12_isSpared ml12_412 c_74 (r12_isSpared (I := (uI (uI (uI I 74 0 0) 74 35 (I 76 5)) 74 36 (I 76 11))) s k c fr (by omega) (by omega) hc6 q0 hs1 lf (by exact ha) (by exact ho) (Nat.le_refl 4)) (by omega) (Nat.le_of_ble_eq_true rfl) d12_asks_112 (fun y hy => ?_)
  refine g_bz 122 d12_asks_115 rfl (fun c115 => ?_) (fun c115 => ?_)
  · refine g_iconstv (nI 0) d12_asks_122 rfl ?_
    exact g_iret rfl d12_asks_123 (⟨y, (((FR.rf.uf (j := 0) (by decide)).uf (j := 35) (by decide)).uf (j := 36) (by decide)).tr (hy.fr.up (by decide) (by decide) (by decide) (by decide)), congrArg (fun z => some (Value.int z)) (by first | exact (if_pos c115).symm | exact (if_neg c115).symm), rfl⟩)
  · refine g_iconstv (nI 1) d12_asks_118 rfl ?_
    refine g_goto 123 d12_asks_119 rfl ?_
    exact g_iret rfl d12_asks_123 (⟨y, (((FR.rf.uf (j := 0) (by decide)).uf (j := 35) (by decide)).uf (j := 36) (by decide)).tr (hy.fr.up (by decide) (by decide) (by decide) (by decide)), congrArg (fun z => some (Value.int z)) (by first | exact (if_pos c115).symm | exact (if_neg c115).symm), rfl⟩)
abbrev isL (c : Nat) : Prop := 97 ≤ c ∧ c ≤ 122
abbrev isD (c : Nat) : Prop := 48 ≤ c ∧ c ≤ 57
def rn (p : Nat → Bool) : Nat → Nat → Nat
  | 0, f => f
  | m + 1, f => if p f = true then rn p m (f + 1) else f
/-- from f on as long as p holds, t at most -/
def ru (p : Nat → Bool) (t f : Nat) : Nat := rn p (t - f) f
theorem ru_s {p : Nat → Bool} {t f : Nat} (h : f < t) (hp : p f = true) : ru p t f = ru p t (f + 1) := by
  unfold ru
  rw [show t - f = (t - (f + 1)) + 1 by omega]
  exact if_pos hp
theorem ru_e {p : Nat → Bool} {t f : Nat} (h : ¬ (f < t ∧ p f = true)) : ru p t f = f := by
  unfold ru
  by_cases e : f < t
  · rw [show t - f = (t - (f + 1)) + 1 by omega]
    exact if_neg (fun z => h ⟨e, z⟩)
  · rw [show t - f = 0 by omega]; rfl
theorem rn_le (p : Nat → Bool) : ∀ m f, f ≤ rn p m f ∧ rn p m f ≤ f + m
  | 0, f => ⟨Nat.le_refl _, Nat.le_refl _⟩
  | m + 1, f => by
    show f ≤ (if _ then _ else _) ∧ (if _ then _ else _) ≤ f + (m + 1)
    split
    · have := rn_le p m (f + 1); omega
    · omega
theorem ru_le {p : Nat → Bool} {t f : Nat} (h : f ≤ t) : f ≤ ru p t f ∧ ru p t f ≤ t := by have := rn_le p (t - f) f; unfold ru; omega
theorem rn_all (p : Nat → Bool) : ∀ m f q, f ≤ q → q < rn p m f → p q = true
  | 0, f, q, h1, h2 => by have h3 : q < f := h2; omega
  | m + 1, f, q, h1, h2 => by
    by_cases e : p f = true
    · rw [show rn p (m + 1) f = rn p m (f + 1) from if_pos e] at h2
      by_cases e2 : q = f
      · rw [e2]; exact e
      · exact rn_all p m (f + 1) q (by omega) h2
    · rw [show rn p (m + 1) f = f from if_neg e] at h2; omega
theorem ru_all {p : Nat → Bool} {t f q : Nat} (h1 : f ≤ q) (h2 : q < ru p t f) : p q = true := rn_all p (t - f) f q h1 h2
def sk (tp : Nat → Nat) (t f : Nat) : Nat := ru (fun q => decide (tp q = 32)) t f
def kd (tp : Nat → Nat) (t f : Nat) : Nat := if t ≤ f then 0 else if isL (tp f) then 1 else if isD (tp f) then 2 else 3
def eL (tp : Nat → Nat) (t f : Nat) : Nat := ru (fun q => decide (isL (tp q))) t f
def eD (tp : Nat → Nat) (t f : Nat) : Nat := ru (fun q => decide (isD (tp q))) t f
def tE (tp : Nat → Nat) (t f : Nat) : Nat := if kd tp t f = 0 then f else if kd tp t f = 3 then f + 1 else if kd tp t f = 1 then eL tp t f else eD tp t f
/-- what a word is worth: its letters in the base of 32; more than ten: -1 -/
def wwI (tp : Nat → Nat) (f : Nat) : Nat → Int
  | 0 => 0
  | m + 1 => if m < 10 then wwI tp f m * 32 + tp (f + m) - 96 else -1
def wn (tp : Nat → Nat) (f : Nat) : Nat → Nat
  | 0 => 0
  | m + 1 => if 1000000 < wn tp f m then wn tp f m else wn tp f m * 10 + (tp (f + m) - 48)
def wth (tp : Nat → Nat) (t f : Nat) : Int64 := if kd tp t f = 3 then lN (tp f) else if kd tp t f = 1 then lI (wwI tp f (tE tp t f - f)) else if kd tp t f = 2 then lN (wn tp f (tE tp t f - f)) else 0
theorem wwI_le (tp : Nat → Nat) (f : Nat) : ∀ m, (∀ q, q < m → isL (tp (f + q))) → -1 ≤ wwI tp f m ∧ wwI tp f m < 32 ^ 10 ∧ (m ≤ 10 → 0 ≤ wwI tp f m ∧ wwI tp f m < 32 ^ m)
  | 0, _ => by show (-1 : Int) ≤ 0 ∧ (0 : Int) < 32 ^ 10 ∧ (0 ≤ 10 → (0 : Int) ≤ 0 ∧ (0 : Int) < 32 ^ 0); decide
  | m + 1, h => by
    obtain ⟨a, b, c⟩ := wwI_le tp f m (fun q hq => h q (by omega))
    have hl := h m (by omega)
    have e9 : wwI tp f (m + 1) = if m < 10 then wwI tp f m * 32 + tp (f + m) - 96 else -1 := rfl
    rw [e9]
    by_cases e : m < 10
    · obtain ⟨c1, c2⟩ := c (by omega)
      rw [if_pos e]
      have hp : (32 : Int) ^ (m + 1) = 32 ^ m * 32 := Int.pow_succ 32 m
      have hmon : (32 : Int) ^ (m + 1) ≤ 32 ^ 10 := by exact_mod_cast Nat.pow_le_pow_right (show 0 < 32 by decide) (show m + 1 ≤ 10 by omega)
      rw [hp] at hmon ⊢
      omega
    · rw [if_neg e]
      exact ⟨by decide, by decide, fun z => by omega⟩
theorem wn_le (tp : Nat → Nat) (f : Nat) : ∀ m, (∀ q, q < m → isD (tp (f + q))) → wn tp f m ≤ 10000009
  | 0, _ => by show 0 ≤ _; omega
  | m + 1, h => by
    have := wn_le tp f m (fun q hq => h q (by omega))
    have hl := h m (by omega)
    have e9 : wn tp f (m + 1) = if 1000000 < wn tp f m then wn tp f m else wn tp f m * 10 + (tp (f + m) - 48) := rfl
    rw [e9]
    split <;> omega
theorem kd_le (tp : Nat → Nat) (t f : Nat) : kd tp t f ≤ 3 := by unfold kd; split <;> (try split) <;> (try split) <;> omega
theorem tE_le {tp : Nat → Nat} {t f : Nat} (h : f ≤ t) : f ≤ tE tp t f ∧ tE tp t f ≤ t ∧ (kd tp t f ≠ 0 → f < tE tp t f) := by
  unfold tE
  by_cases e0 : kd tp t f = 0
  · rw [if_pos e0]; exact ⟨Nat.le_refl _, h, fun z => absurd e0 z⟩
  · have hft : f < t := by
      by_cases e : t ≤ f
      · exact absurd (if_pos e) e0
      · omega
    rw [if_neg e0]
    by_cases e3 : kd tp t f = 3
    · rw [if_pos e3]; omega
    · rw [if_neg e3]
      by_cases e1 : kd tp t f = 1
      · rw [if_pos e1]
        have hl : isL (tp f) := by
          by_cases hh : isL (tp f)
          · exact hh
          · have : kd tp t f = 2 ∨ kd tp t f = 3 := by unfold kd; rw [if_neg (by omega), if_neg hh]; split; exact Or.inl rfl; exact Or.inr rfl
            omega
        have := ru_le (p := fun q => decide (isL (tp q))) (show f + 1 ≤ t by omega)
        unfold eL
        rw [ru_s hft (decide_eq_true hl)]
        omega
      · rw [if_neg e1]
        have hd : isD (tp f) := by
          by_cases hh : isD (tp f)
          · exact hh
          · have : kd tp t f = 1 ∨ kd tp t f = 3 := by
              unfold kd; rw [if_neg (by omega)]
              split
              · exact Or.inl rfl
              · first | exact Or.inr rfl | (rw [if_neg hh]; exact Or.inr rfl)
            omega
        have := ru_le (p := fun q => decide (isD (tp q))) (show f + 1 ≤ t by omega)
        unfold eD
        rw [ru_s hft (decide_eq_true hd)]
        omega
def nxt (tp : Nat → Nat) (t f : Nat) : Nat := sk tp t (tE tp t f)
theorem nxt_le {tp : Nat → Nat} {t f : Nat} (h : f ≤ t) : tE tp t f ≤ nxt tp t f ∧ nxt tp t f ≤ t ∧ (kd tp t f ≠ 0 → f < nxt tp t f) := by
  have h1 := tE_le (tp := tp) h
  have h2 := ru_le (p := fun q => decide (tp q = 32)) h1.2.1
  unfold nxt sk
  exact ⟨h2.1, h2.2, fun z => by have := h1.2.2 z; omega⟩
/-- the tape (the model) -/
def TPm (I : wI) (tp : Nat → Nat) (t : Nat) : Prop := t ≤ 400 ∧ I 74 8 = nI t ∧ (∀ q, q < 400 → I 79 q = nI (tp q)) ∧ ∀ q, tp q < 256
/-- the token that is read (the model) -/
def TKm (I : wI) (L : wL) (tp : Nat → Nat) (t f : Nat) : Prop := f ≤ t ∧ I 74 9 = nI f ∧ I 74 10 = nI (tE tp t f) ∧ I 74 11 = nI (kd tp t f) ∧ L 74 12 = wth tp t f
theorem lI_mul (z : Int) (b : Nat) : lI z * lN b = lI (z * b) := by unfold lI lN; rw [Int64.ofInt_mul, Int64.ofInt_eq_ofNat]
theorem lI_sub (z : Int) (b : Nat) : lI z - lN b = lI (z - b) := by unfold lI lN; rw [Int64.ofInt_sub, Int64.ofInt_eq_ofNat]
set_option maxHeartbeats 200000 in
theorem r12_isSmall {l : Launch} {K : cK} {d : Nat} {h : cH} (c : Nat) (hc : c < 1000) (hd : 0 ≤ d) : CE l K m12_isSmall d [.int (nI c)] h (.int (if isL c then 1 else 0)) h := by
  refine CC.of ok12_isSmall (Nat.le_of_ble_eq_true rfl) ?_
  refine g_iload_n d12_isSmall_0 rfl ?_
  refine g_bipushv (nI 97) d12_isSmall_1 rfl ?_
  refine g_ic_lt ((c : Nat) : Int) (97) 16 (nI_ti (by omega)) (by decide) d12_isSmall_3 rfl (fun c3 => ?_) (fun c3 => ?_)
  · refine g_iconstv (nI 0) d12_isSmall_16 rfl ?_
    exact g_zret rfl (by decide) d12_isSmall_17 (⟨congrArg (fun z => some (Value.int z)) (by first | exact (if_pos (show isL c from ⟨by omega, by omega⟩)).symm | exact (if_neg (show ¬ isL c from fun z => by omega)).symm), rfl⟩)
  · refine g_iload_n d12_isSmall_6 rfl ?_
    refine g_bipushv (nI 122) d12_isSmall_7 rfl ?_
    refine g_ic_gt ((c : Nat) : Int) (122) 16 (nI_ti (by omega)) (by decide) d12_isSmall_9 rfl (fun c9 => ?_) (fun c9 => ?_)
    · refine g_iconstv (nI 0) d12_isSmall_16 rfl ?_
      exact g_zret rfl (by decide) d12_isSmall_17 (⟨congrArg (fun z => some (Value.int z)) (by first | exact (if_pos (show isL c from ⟨by omega, by omega⟩)).symm | exact (if_neg (show ¬ isL c from fun z => by omega)).symm), rfl⟩)
    · refine g_iconstv (nI 1) d12_isSmall_12 rfl ?_
      refine g_goto 17 d12_isSmall_13 rfl ?_
      exact g_zret rfl (by decide) d12_isSmall_17 (⟨congrArg (fun z => some (Value.int z)) (by first | exact (if_pos (show isL c from ⟨by omega, by omega⟩)).symm | exact (if_neg (show ¬ isL c from fun z => by omega)).symm), rfl⟩)
set_option maxHeartbeats 200000 in
theorem r12_isDigit {l : Launch} {K : cK} {d : Nat} {h : cH} (c : Nat) (hc : c < 1000) (hd : 0 ≤ d) : CE l K m12_isDigit d [.int (nI c)] h (.int (if isD c then 1 else 0)) h := by
  refine CC.of ok12_isDigit (Nat.le_of_ble_eq_true rfl) ?_
  refine g_iload_n d12_isDigit_0 rfl ?_
  refine g_bipushv (nI 48) d12_isDigit_1 rfl ?_
  refine g_ic_lt ((c : Nat) : Int) (48) 16 (nI_ti (by omega)) (by decide) d12_isDigit_3 rfl (fun c3 => ?_) (fun c3 => ?_)
  · refine g_iconstv (nI 0) d12_isDigit_16 rfl ?_
    exact g_zret rfl (by decide) d12_isDigit_17 (⟨congrArg (fun z => some (Value.int z)) (by first | exact (if_pos (show isD c from ⟨by omega, by omega⟩)).symm | exact (if_neg (show ¬ isD c from fun z => by omega)).symm), rfl⟩)
  · refine g_iload_n d12_isDigit_6 rfl ?_
    refine g_bipushv (nI 57) d12_isDigit_7 rfl ?_
    refine g_ic_gt ((c : Nat) : Int) (57) 16 (nI_ti (by omega)) (by decide) d12_isDigit_9 rfl (fun c9 => ?_) (fun c9 => ?_)
    · refine g_iconstv (nI 0) d12_isDigit_16 rfl ?_
      exact g_zret rfl (by decide) d12_isDigit_17 (⟨congrArg (fun z => some (Value.int z)) (by first | exact (if_pos (show isD c from ⟨by omega, by omega⟩)).symm | exact (if_neg (show ¬ isD c from fun z => by omega)).symm), rfl⟩)
    · refine g_iconstv (nI 1) d12_isDigit_12 rfl ?_
      refine g_goto 17 d12_isDigit_13 rfl ?_
      exact g_zret rfl (by decide) d12_isDigit_17 (⟨congrArg (fun z => some (Value.int z)) (by first | exact (if_pos (show isD c from ⟨by omega, by omega⟩)).symm | exact (if_neg (show ¬ isD c from fun z => by omega)).symm), rfl⟩)
set_option maxHeartbeats 400000 in
theorem r12_nx1 {l : Launch} {K : cK} {d : Nat} {I : wI} {L : wL} {R : wR} {dy : cH} {Q : Option Value → cH → Prop} (tp : Nat → Nat) (t : Nat) (hTP : TPm I tp t) : ∀ (m p : Nat), p + m = t → GL l K m12_next d 0 0 46 [(0, .ref 74)] [] (hp (uI I 74 9 (nI (sk tp t p))) L R dy) Q → GL l K m12_next d 0 0 8 [(0, .ref 74)] [] (hp (uI I 74 9 (nI p)) L R dy) Q := by
  obtain ⟨ht4, h8, h79, hb⟩ := id hTP
  intro m
  induction m with
  | zero =>
    intro p hm kk
    obtain rfl : t = p := by omega
    rw [show sk tp t t = t from ru_e (by omega)] at kk
    refine g_aload_n d12_next_8 rfl ?_
    refine g_get fl12_199 d12_next_9 f_74_9 ?_
    refine g_topI (nI (t)) (uI_ss) ?_
    refine g_aload_n d12_next_12 rfl ?_
    refine g_get fl12_179 d12_next_13 f_74_8 ?_
    refine g_topI (nI (t)) (h8) ?_
    refine g_ic_ge ((t : Nat) : Int) ((t : Nat) : Int) 46 (nI_ti (by omega)) (nI_ti (by omega)) d12_next_16 rfl (fun _ => ?_) (fun c16 => absurd c16 (by omega))
    refine g_lo [(0, .ref 74)] ⟨rfl, trivial⟩ ?_
    exact kk
  | succ m ih =>
    intro p hm kk
    have hbp := hb p
    by_cases e : tp p = 32
    · rw [show sk tp t p = sk tp t (p + 1) from ru_s (by omega) (decide_eq_true e)] at kk
      refine g_aload_n d12_next_8 rfl ?_
      refine g_get fl12_199 d12_next_9 f_74_9 ?_
      refine g_topI (nI (p)) (uI_ss) ?_
      refine g_aload_n d12_next_12 rfl ?_
      refine g_get fl12_179 d12_next_13 f_74_8 ?_
      refine g_topI (nI (t)) (h8) ?_
      refine g_ic_ge ((p : Nat) : Int) ((t : Nat) : Int) 46 (nI_ti (by omega)) (nI_ti (by omega)) d12_next_16 rfl (fun c16 => absurd c16 (by omega)) (fun _ => ?_)
      refine g_aload_n d12_next_19 rfl ?_
      refine g_get fl12_23 d12_next_20 f_74_7 ?_
      refine g_aload_n d12_next_23 rfl ?_
      refine g_get fl12_199 d12_next_24 f_74_9 ?_
      refine g_topI (nI (p)) (uI_ss) ?_
      refine g_ialdN (p) d12_next_27 a_79 (rfl) (by omega) (by decide) ?_
      refine g_topI (nI (tp p)) (h79 p (by omega)) ?_
      refine g_bipushv (nI 32) d12_next_28 rfl ?_
      refine g_ic_ne ((tp p : Nat) : Int) (32) 46 (nI_ti (by omega)) (by decide) d12_next_30 rfl (fun c30 => absurd c30 (by omega)) (fun _ => ?_)
      refine g_aload_n d12_next_33 rfl ?_
      refine g_dup d12_next_34 rfl ?_
      refine g_get fl12_199 d12_next_35 f_74_9 ?_
      refine g_topI (nI (p)) (uI_ss) ?_
      refine g_iconstv (nI 1) d12_next_38 rfl ?_
      refine g_iaddN d12_next_39 ?_
      refine g_putIh _ fl12_199 d12_next_40 f_74_9 s_74_9 ?_
      refine g_goto 8 d12_next_43 rfl ?_
      refine g_lo [(0, .ref 74)] ⟨rfl, trivial⟩ ?_
      rw [uI_uI]
      exact ih (p + 1) (by omega) kk
    · rw [show sk tp t p = p from ru_e (fun z => e (of_decide_eq_true z.2))] at kk
      refine g_aload_n d12_next_8 rfl ?_
      refine g_get fl12_199 d12_next_9 f_74_9 ?_
      refine g_topI (nI (p)) (uI_ss) ?_
      refine g_aload_n d12_next_12 rfl ?_
      refine g_get fl12_179 d12_next_13 f_74_8 ?_
      refine g_topI (nI (t)) (h8) ?_
      refine g_ic_ge ((p : Nat) : Int) ((t : Nat) : Int) 46 (nI_ti (by omega)) (nI_ti (by omega)) d12_next_16 rfl (fun c16 => absurd c16 (by omega)) (fun _ => ?_)
      refine g_aload_n d12_next_19 rfl ?_
      refine g_get fl12_23 d12_next_20 f_74_7 ?_
      refine g_aload_n d12_next_23 rfl ?_
      refine g_get fl12_199 d12_next_24 f_74_9 ?_
      refine g_topI (nI (p)) (uI_ss) ?_
      refine g_ialdN (p) d12_next_27 a_79 (rfl) (by omega) (by decide) ?_
      refine g_topI (nI (tp p)) (h79 p (by omega)) ?_
      refine g_bipushv (nI 32) d12_next_28 rfl ?_
      refine g_ic_ne ((tp p : Nat) : Int) (32) 46 (nI_ti (by omega)) (by decide) d12_next_30 rfl (fun _ => ?_) (fun c30 => absurd c30 (by omega))
      refine g_lo [(0, .ref 74)] ⟨rfl, trivial⟩ ?_
      exact kk
set_option maxHeartbeats 800000 in
theorem r12_nx2 {l : Launch} {K : cK} {d : Nat} {I : wI} {L : wL} {R : wR} {dy : cH} {Q : Option Value → cH → Prop} (tp : Nat → Nat) (t : Nat) (hTP : TPm I tp t) (f : Nat) (h9 : I 74 9 = nI f) (h11 : I 74 11 = nI 1) (hd : 1 ≤ d) : ∀ (m p : Nat), p + m = t → f ≤ p → (∀ q, f ≤ q → q < p → isL (tp q)) → GL l K m12_next d 0 0 243 [(0, .ref 74)] [] (hp (uI I 74 10 (nI (eL tp t p))) (uL L 74 12 (lI (wwI tp f (eL tp t p - f)))) R dy) Q → GL l K m12_next d 0 0 149 [(0, .ref 74)] [] (hp (uI I 74 10 (nI p)) (uL L 74 12 (lI (wwI tp f (p - f)))) R dy) Q := by
  obtain ⟨ht4, h8, h79, hb⟩ := id hTP
  intro m
  induction m with
  | zero =>
    intro p hm hfp hall kk
    obtain rfl : t = p := by omega
    rw [show eL tp t t = t from ru_e (by omega)] at kk
    refine g_aload_n d12_next_149 rfl ?_
    refine g_get fl12_212 d12_next_150 f_74_11 ?_
    refine g_topI (nI (1)) (h11) ?_
    refine g_iconstv (nI 1) d12_next_153 rfl ?_
    refine g_ic_ne ((1 : Nat) : Int) (1) 243 (nI_ti (by omega)) (by decide) d12_next_154 rfl (fun c154 => absurd c154 (by omega)) (fun _ => ?_)
    refine g_aload_n d12_next_157 rfl ?_
    refine g_get fl12_189 d12_next_158 f_74_10 ?_
    refine g_topI (nI (t)) (uI_ss) ?_
    refine g_aload_n d12_next_161 rfl ?_
    refine g_get fl12_179 d12_next_162 f_74_8 ?_
    refine g_topI (nI (t)) (h8) ?_
    refine g_ic_ge ((t : Nat) : Int) ((t : Nat) : Int) 243 (nI_ti (by omega)) (nI_ti (by omega)) d12_next_165 rfl (fun _ => ?_) (fun c165 => absurd c165 (by omega))
    refine g_lo [(0, .ref 74)] ⟨rfl, trivial⟩ ?_
    exact kk
  | succ m ih =>
    intro p hm hfp hall kk
    have hbp := hb p
    by_cases e : isL (tp p)
    · rw [show eL tp t p = eL tp t (p + 1) from ru_s (by omega) (decide_eq_true e)] at kk
      have hall2 : ∀ q, f ≤ q → q < p + 1 → isL (tp q) := fun q h1 h2 => (Nat.lt_or_eq_of_le (Nat.le_of_lt_succ h2)).elim (fun h3 => hall q h1 h3) (fun h3 => by rw [h3]; exact e)
      obtain ⟨w1, w2, w3⟩ := wwI_le tp f (p - f) (fun q hq => hall (f + q) (by omega) (by omega))
      have hst : wwI tp f (p + 1 - f) = if p - f < 10 then wwI tp f (p - f) * 32 + tp p - 96 else -1 := by rw [show p + 1 - f = (p - f) + 1 by omega]; show (if _ then wwI tp f (p - f) * 32 + tp (f + (p - f)) - 96 else _) = _; rw [show f + (p - f) = p by omega]
      by_cases e10 : p - f < 10
      · have hst2 : wwI tp f (p + 1 - f) = wwI tp f (p - f) * 32 + tp p - 96 := by rw [hst, if_pos e10]
        refine g_aload_n d12_next_149 rfl ?_
        refine g_get fl12_212 d12_next_150 f_74_11 ?_
        refine g_topI (nI (1)) (h11) ?_
        refine g_iconstv (nI 1) d12_next_153 rfl ?_
        refine g_ic_ne ((1 : Nat) : Int) (1) 243 (nI_ti (by omega)) (by decide) d12_next_154 rfl (fun c154 => absurd c154 (by omega)) (fun _ => ?_)
        refine g_aload_n d12_next_157 rfl ?_
        refine g_get fl12_189 d12_next_158 f_74_10 ?_
        refine g_topI (nI (p)) (uI_ss) ?_
        refine g_aload_n d12_next_161 rfl ?_
        refine g_get fl12_179 d12_next_162 f_74_8 ?_
        refine g_topI (nI (t)) (h8) ?_
        refine g_ic_ge ((p : Nat) : Int) ((t : Nat) : Int) 243 (nI_ti (by omega)) (nI_ti (by omega)) d12_next_165 rfl (fun c165 => absurd c165 (by omega)) (fun _ => ?_)
        refine g_aload_n d12_next_168 rfl ?_
        refine g_get fl12_23 d12_next_169 f_74_7 ?_
        refine g_aload_n d12_next_172 rfl ?_
        refine g_get fl12_189 d12_next_173 f_74_10 ?_
        refine g_topI (nI (p)) (uI_ss) ?_
        refine g_ialdN (p) d12_next_176 a_79 (rfl) (by omega) (by decide) ?_
        refine g_topI (nI (tp p)) (h79 p (by omega)) ?_
        refine g_ES1 sm12_isSmall ml12_206 (r12_isSmall (tp p) (by omega) (Nat.le_refl 0)) (by omega) (Nat.le_of_ble_eq_true rfl) d12_next_177 ?_
        refine g_bz 243 d12_next_180 rfl (fun c180 => absurd c180 (fun z => z e)) (fun _ => ?_)
        refine g_aload_n d12_next_183 rfl ?_
        refine g_aload_n d12_next_184 rfl ?_
        refine g_get fl12_189 d12_next_185 f_74_10 ?_
        refine g_topI (nI (p)) (uI_ss) ?_
        refine g_aload_n d12_next_188 rfl ?_
        refine g_get fl12_199 d12_next_189 f_74_9 ?_
        refine g_topI (nI (f)) (h9) ?_
        refine g_isubN (hfp) d12_next_192 ?_
        refine g_bipushv (nI 10) d12_next_193 rfl ?_
        refine g_ic_ge (((p - f) : Nat) : Int) (10) 224 (nI_ti (by omega)) (by decide) d12_next_195 rfl (fun c195 => absurd c195 (by omega)) (fun _ => ?_)
        refine g_aload_n d12_next_198 rfl ?_
        refine g_get fl12_202 d12_next_199 f_74_12 ?_
        refine g_topL (lI (wwI tp f (p - f))) (uL_ss) ?_
        refine g_ldc2 d12_next_202 kl12_215 ?_
        refine g_lmul d12_next_205 ?_
        refine g_topL (lI (wwI tp f (p - f) * 32)) (lI_mul _ 32) ?_
        refine g_aload_n d12_next_206 rfl ?_
        refine g_get fl12_23 d12_next_207 f_74_7 ?_
        refine g_aload_n d12_next_210 rfl ?_
        refine g_get fl12_189 d12_next_211 f_74_10 ?_
        refine g_topI (nI (p)) (uI_ss) ?_
        refine g_ialdN (p) d12_next_214 a_79 (rfl) (by omega) (by decide) ?_
        refine g_topI (nI (tp p)) (h79 p (by omega)) ?_
        refine g_i2lN (by omega) d12_next_215 ?_
        refine g_ladd d12_next_216 ?_
        refine g_topL (lI (wwI tp f (p - f) * 32 + tp p)) (lI_add _ _) ?_
        refine g_ldc2 d12_next_217 kl12_217 ?_
        refine g_lsub d12_next_220 ?_
        refine g_topL (lI (wwI tp f (p - f) * 32 + tp p - 96)) (lI_sub _ 96) ?_
        refine g_goto 227 d12_next_221 rfl ?_
        refine g_putLh _ fl12_202 d12_next_227 f_74_12 s_74_12 ?_
        refine g_aload_n d12_next_230 rfl ?_
        refine g_dup d12_next_231 rfl ?_
        refine g_get fl12_189 d12_next_232 f_74_10 ?_
        refine g_topI (nI (p)) (uI_ss) ?_
        refine g_iconstv (nI 1) d12_next_235 rfl ?_
        refine g_iaddN d12_next_236 ?_
        refine g_putIh _ fl12_189 d12_next_237 f_74_10 s_74_10 ?_
        refine g_goto 149 d12_next_240 rfl ?_
        refine g_lo [(0, .ref 74)] ⟨rfl, trivial⟩ ?_
        rw [uI_uI, uL_uL, ← hst2]
        exact ih (p + 1) (by omega) (by omega) hall2 kk
      · have hst2 : wwI tp f (p + 1 - f) = -1 := by rw [hst, if_neg e10]
        refine g_aload_n d12_next_149 rfl ?_
        refine g_get fl12_212 d12_next_150 f_74_11 ?_
        refine g_topI (nI (1)) (h11) ?_
        refine g_iconstv (nI 1) d12_next_153 rfl ?_
        refine g_ic_ne ((1 : Nat) : Int) (1) 243 (nI_ti (by omega)) (by decide) d12_next_154 rfl (fun c154 => absurd c154 (by omega)) (fun _ => ?_)
        refine g_aload_n d12_next_157 rfl ?_
        refine g_get fl12_189 d12_next_158 f_74_10 ?_
        refine g_topI (nI (p)) (uI_ss) ?_
        refine g_aload_n d12_next_161 rfl ?_
        refine g_get fl12_179 d12_next_162 f_74_8 ?_
        refine g_topI (nI (t)) (h8) ?_
        refine g_ic_ge ((p : Nat) : Int) ((t : Nat) : Int) 243 (nI_ti (by omega)) (nI_ti (by omega)) d12_next_165 rfl (fun c165 => absurd c165 (by omega)) (fun _ => ?_)
        refine g_aload_n d12_next_168 rfl ?_
        refine g_get fl12_23 d12_next_169 f_74_7 ?_
        refine g_aload_n d12_next_172 rfl ?_
        refine g_get fl12_189 d12_next_173 f_74_10 ?_
        refine g_topI (nI (p)) (uI_ss) ?_
        refine g_ialdN (p) d12_next_176 a_79 (rfl) (by omega) (by decide) ?_
        refine g_topI (nI (tp p)) (h79 p (by omega)) ?_
        refine g_ES1 sm12_isSmall ml12_206 (r12_isSmall (tp p) (by omega) (Nat.le_refl 0)) (by omega) (Nat.le_of_ble_eq_true rfl) d12_next_177 ?_
        refine g_bz 243 d12_next_180 rfl (fun c180 => absurd c180 (fun z => z e)) (fun _ => ?_)
        refine g_aload_n d12_next_183 rfl ?_
        refine g_aload_n d12_next_184 rfl ?_
        refine g_get fl12_189 d12_next_185 f_74_10 ?_
        refine g_topI (nI (p)) (uI_ss) ?_
        refine g_aload_n d12_next_188 rfl ?_
        refine g_get fl12_199 d12_next_189 f_74_9 ?_
        refine g_topI (nI (f)) (h9) ?_
        refine g_isubN (hfp) d12_next_192 ?_
        refine g_bipushv (nI 10) d12_next_193 rfl ?_
        refine g_ic_ge (((p - f) : Nat) : Int) (10) 224 (nI_ti (by omega)) (by decide) d12_next_195 rfl (fun _ => ?_) (fun c195 => absurd c195 (by omega))
        refine g_ldc2 d12_next_224 kl12_219 ?_
        refine g_putLh _ fl12_202 d12_next_227 f_74_12 s_74_12 ?_
        refine g_aload_n d12_next_230 rfl ?_
        refine g_dup d12_next_231 rfl ?_
        refine g_get fl12_189 d12_next_232 f_74_10 ?_
        refine g_topI (nI (p)) (uI_ss) ?_
        refine g_iconstv (nI 1) d12_next_235 rfl ?_
        refine g_iaddN d12_next_236 ?_
        refine g_putIh _ fl12_189 d12_next_237 f_74_10 s_74_10 ?_
        refine g_goto 149 d12_next_240 rfl ?_
        refine g_lo [(0, .ref 74)] ⟨rfl, trivial⟩ ?_
        rw [uI_uI, uL_uL, show (-1 : Int64) = lI (-1) by decide, ← hst2]
        exact ih (p + 1) (by omega) (by omega) hall2 kk
    · rw [show eL tp t p = p from ru_e (fun z => e (of_decide_eq_true z.2))] at kk
      refine g_aload_n d12_next_149 rfl ?_
      refine g_get fl12_212 d12_next_150 f_74_11 ?_
      refine g_topI (nI (1)) (h11) ?_
      refine g_iconstv (nI 1) d12_next_153 rfl ?_
      refine g_ic_ne ((1 : Nat) : Int) (1) 243 (nI_ti (by omega)) (by decide) d12_next_154 rfl (fun c154 => absurd c154 (by omega)) (fun _ => ?_)
      refine g_aload_n d12_next_157 rfl ?_
      refine g_get fl12_189 d12_next_158 f_74_10 ?_
      refine g_topI (nI (p)) (uI_ss) ?_
      refine g_aload_n d12_next_161 rfl ?_
      refine g_get fl12_179 d12_next_162 f_74_8 ?_
      refine g_topI (nI (t)) (h8) ?_
      refine g_ic_ge ((p : Nat) : Int) ((t : Nat) : Int) 243 (nI_ti (by omega)) (nI_ti (by omega)) d12_next_165 rfl (fun c165 => absurd c165 (by omega)) (fun _ => ?_)
      refine g_aload_n d12_next_168 rfl ?_
      refine g_get fl12_23 d12_next_169 f_74_7 ?_
      refine g_aload_n d12_next_172 rfl ?_
      refine g_get fl12_189 d12_next_173 f_74_10 ?_
      refine g_topI (nI (p)) (uI_ss) ?_
      refine g_ialdN (p) d12_next_176 a_79 (rfl) (by omega) (by decide) ?_
      refine g_topI (nI (tp p)) (h79 p (by omega)) ?_
      refine g_ES1 sm12_isSmall ml12_206 (r12_isSmall (tp p) (by omega) (Nat.le_refl 0)) (by omega) (Nat.le_of_ble_eq_true rfl) d12_next_177 ?_
      refine g_bz 243 d12_next_180 rfl (fun _ => ?_) (fun c180 => absurd c180 (e))
      refine g_lo [(0, .ref 74)] ⟨rfl, trivial⟩ ?_
      exact kk
set_option maxHeartbeats 800000 in
theorem r12_nx3 {l : Launch} {K : cK} {d : Nat} {I : wI} {L : wL} {R : wR} {dy : cH} {Q : Option Value → cH → Prop} (tp : Nat → Nat) (t : Nat) (hTP : TPm I tp t) (f : Nat) (h9 : I 74 9 = nI f) (h11 : I 74 11 = nI 2) (hd : 1 ≤ d) : ∀ (m p : Nat), p + m = t → f ≤ p → (∀ q, f ≤ q → q < p → isD (tp q)) → GL l K m12_next d 0 0 335 [(0, .ref 74)] [] (hp (uI I 74 10 (nI (eD tp t p))) (uL L 74 12 (lN (wn tp f (eD tp t p - f)))) R dy) Q → GL l K m12_next d 0 0 243 [(0, .ref 74)] [] (hp (uI I 74 10 (nI p)) (uL L 74 12 (lN (wn tp f (p - f)))) R dy) Q := by
  obtain ⟨ht4, h8, h79, hb⟩ := id hTP
  intro m
  induction m with
  | zero =>
    intro p hm hfp hall kk
    obtain rfl : t = p := by omega
    rw [show eD tp t t = t from ru_e (by omega)] at kk
    refine g_aload_n d12_next_243 rfl ?_
    refine g_get fl12_212 d12_next_244 f_74_11 ?_
    refine g_topI (nI (2)) (h11) ?_
    refine g_iconstv (nI 2) d12_next_247 rfl ?_
    refine g_ic_ne ((2 : Nat) : Int) (2) 335 (nI_ti (by omega)) (by decide) d12_next_248 rfl (fun c248 => absurd c248 (by omega)) (fun _ => ?_)
    refine g_aload_n d12_next_251 rfl ?_
    refine g_get fl12_189 d12_next_252 f_74_10 ?_
    refine g_topI (nI (t)) (uI_ss) ?_
    refine g_aload_n d12_next_255 rfl ?_
    refine g_get fl12_179 d12_next_256 f_74_8 ?_
    refine g_topI (nI (t)) (h8) ?_
    refine g_ic_ge ((t : Nat) : Int) ((t : Nat) : Int) 335 (nI_ti (by omega)) (nI_ti (by omega)) d12_next_259 rfl (fun _ => ?_) (fun c259 => absurd c259 (by omega))
    refine g_lo [(0, .ref 74)] ⟨rfl, trivial⟩ ?_
    exact kk
  | succ m ih =>
    intro p hm hfp hall kk
    have hbp := hb p
    by_cases e : isD (tp p)
    · rw [show eD tp t p = eD tp t (p + 1) from ru_s (by omega) (decide_eq_true e)] at kk
      have hall2 : ∀ q, f ≤ q → q < p + 1 → isD (tp q) := fun q h1 h2 => (Nat.lt_or_eq_of_le (Nat.le_of_lt_succ h2)).elim (fun h3 => hall q h1 h3) (fun h3 => by rw [h3]; exact e)
      have w1 := wn_le tp f (p - f) (fun q hq => hall (f + q) (by omega) (by omega))
      have hst : wn tp f (p + 1 - f) = if 1000000 < wn tp f (p - f) then wn tp f (p - f) else wn tp f (p - f) * 10 + (tp p - 48) := by rw [show p + 1 - f = (p - f) + 1 by omega]; show (if _ then _ else wn tp f (p - f) * 10 + (tp (f + (p - f)) - 48)) = _; rw [show f + (p - f) = p by omega]
      by_cases e10 : 1000000 < wn tp f (p - f)
      · have hst2 : wn tp f (p + 1 - f) = wn tp f (p - f) := by rw [hst, if_pos e10]
        refine g_aload_n d12_next_243 rfl ?_
        refine g_get fl12_212 d12_next_244 f_74_11 ?_
        refine g_topI (nI (2)) (h11) ?_
        refine g_iconstv (nI 2) d12_next_247 rfl ?_
        refine g_ic_ne ((2 : Nat) : Int) (2) 335 (nI_ti (by omega)) (by decide) d12_next_248 rfl (fun c248 => absurd c248 (by omega)) (fun _ => ?_)
        refine g_aload_n d12_next_251 rfl ?_
        refine g_get fl12_189 d12_next_252 f_74_10 ?_
        refine g_topI (nI (p)) (uI_ss) ?_
        refine g_aload_n d12_next_255 rfl ?_
        refine g_get fl12_179 d12_next_256 f_74_8 ?_
        refine g_topI (nI (t)) (h8) ?_
        refine g_ic_ge ((p : Nat) : Int) ((t : Nat) : Int) 335 (nI_ti (by omega)) (nI_ti (by omega)) d12_next_259 rfl (fun c259 => absurd c259 (by omega)) (fun _ => ?_)
        refine g_aload_n d12_next_262 rfl ?_
        refine g_get fl12_23 d12_next_263 f_74_7 ?_
        refine g_aload_n d12_next_266 rfl ?_
        refine g_get fl12_189 d12_next_267 f_74_10 ?_
        refine g_topI (nI (p)) (uI_ss) ?_
        refine g_ialdN (p) d12_next_270 a_79 (rfl) (by omega) (by decide) ?_
        refine g_topI (nI (tp p)) (h79 p (by omega)) ?_
        refine g_ES1 sm12_isDigit ml12_209 (r12_isDigit (tp p) (by omega) (Nat.le_refl 0)) (by omega) (Nat.le_of_ble_eq_true rfl) d12_next_271 ?_
        refine g_bz 335 d12_next_274 rfl (fun c274 => absurd c274 (fun z => z e)) (fun _ => ?_)
        refine g_aload_n d12_next_277 rfl ?_
        refine g_aload_n d12_next_278 rfl ?_
        refine g_get fl12_202 d12_next_279 f_74_12 ?_
        refine g_topL (lN (wn tp f (p - f))) (uL_ss) ?_
        refine g_ldc2 d12_next_282 kl12_221 ?_
        refine g_lx_le ((wn tp f (p - f) : Nat) : Int) (1000000) 296 (pk_lT (by omega)) (by decide) d12_next_285 d12_next_286 rfl (fun c285 => absurd c285 (by omega)) (fun _ => ?_)
        refine g_aload_n d12_next_289 rfl ?_
        refine g_get fl12_202 d12_next_290 f_74_12 ?_
        refine g_topL (lN (wn tp f (p - f))) (uL_ss) ?_
        refine g_goto 319 d12_next_293 rfl ?_
        refine g_putLh _ fl12_202 d12_next_319 f_74_12 s_74_12 ?_
        refine g_aload_n d12_next_322 rfl ?_
        refine g_dup d12_next_323 rfl ?_
        refine g_get fl12_189 d12_next_324 f_74_10 ?_
        refine g_topI (nI (p)) (uI_ss) ?_
        refine g_iconstv (nI 1) d12_next_327 rfl ?_
        refine g_iaddN d12_next_328 ?_
        refine g_putIh _ fl12_189 d12_next_329 f_74_10 s_74_10 ?_
        refine g_goto 243 d12_next_332 rfl ?_
        refine g_lo [(0, .ref 74)] ⟨rfl, trivial⟩ ?_
        rw [uI_uI, uL_uL, ← hst2]
        exact ih (p + 1) (by omega) (by omega) hall2 kk
      · have hst2 : wn tp f (p + 1 - f) = wn tp f (p - f) * 10 + (tp p - 48) := by rw [hst, if_neg e10]
        refine g_aload_n d12_next_243 rfl ?_
        refine g_get fl12_212 d12_next_244 f_74_11 ?_
        refine g_topI (nI (2)) (h11) ?_
        refine g_iconstv (nI 2) d12_next_247 rfl ?_
        refine g_ic_ne ((2 : Nat) : Int) (2) 335 (nI_ti (by omega)) (by decide) d12_next_248 rfl (fun c248 => absurd c248 (by omega)) (fun _ => ?_)
        refine g_aload_n d12_next_251 rfl ?_
        refine g_get fl12_189 d12_next_252 f_74_10 ?_
        refine g_topI (nI (p)) (uI_ss) ?_
        refine g_aload_n d12_next_255 rfl ?_
        refine g_get fl12_179 d12_next_256 f_74_8 ?_
        refine g_topI (nI (t)) (h8) ?_
        refine g_ic_ge ((p : Nat) : Int) ((t : Nat) : Int) 335 (nI_ti (by omega)) (nI_ti (by omega)) d12_next_259 rfl (fun c259 => absurd c259 (by omega)) (fun _ => ?_)
        refine g_aload_n d12_next_262 rfl ?_
        refine g_get fl12_23 d12_next_263 f_74_7 ?_
        refine g_aload_n d12_next_266 rfl ?_
        refine g_get fl12_189 d12_next_267 f_74_10 ?_
        refine g_topI (nI (p)) (uI_ss) ?_
        refine g_ialdN (p) d12_next_270 a_79 (rfl) (by omega) (by decide) ?_
        refine g_topI (nI (tp p)) (h79 p (by omega)) ?_
        refine g_ES1 sm12_isDigit ml12_209 (r12_isDigit (tp p) (by omega) (Nat.le_refl 0)) (by omega) (Nat.le_of_ble_eq_true rfl) d12_next_271 ?_
        refine g_bz 335 d12_next_274 rfl (fun c274 => absurd c274 (fun z => z e)) (fun _ => ?_)
        refine g_aload_n d12_next_277 rfl ?_
        refine g_aload_n d12_next_278 rfl ?_
        refine g_get fl12_202 d12_next_279 f_74_12 ?_
        refine g_topL (lN (wn tp f (p - f))) (uL_ss) ?_
        refine g_ldc2 d12_next_282 kl12_221 ?_
        refine g_lx_le ((wn tp f (p - f) : Nat) : Int) (1000000) 296 (pk_lT (by omega)) (by decide) d12_next_285 d12_next_286 rfl (fun _ => ?_) (fun c285 => absurd c285 (by omega))
        refine g_aload_n d12_next_296 rfl ?_
        refine g_get fl12_202 d12_next_297 f_74_12 ?_
        refine g_topL (lN (wn tp f (p - f))) (uL_ss) ?_
        refine g_ldc2 d12_next_300 kl12_223 ?_
        refine g_lmul d12_next_303 ?_
        refine g_topL (lN (wn tp f (p - f) * 10)) (lN_mul _ _) ?_
        refine g_aload_n d12_next_304 rfl ?_
        refine g_get fl12_23 d12_next_305 f_74_7 ?_
        refine g_aload_n d12_next_308 rfl ?_
        refine g_get fl12_189 d12_next_309 f_74_10 ?_
        refine g_topI (nI (p)) (uI_ss) ?_
        refine g_ialdN (p) d12_next_312 a_79 (rfl) (by omega) (by decide) ?_
        refine g_topI (nI (tp p)) (h79 p (by omega)) ?_
        refine g_i2lN (by omega) d12_next_313 ?_
        refine g_ladd d12_next_314 ?_
        refine g_topL (lN ((wn tp f (p - f) * 10) + tp p)) (lN_add _ _) ?_
        refine g_ldc2 d12_next_315 kl12_225 ?_
        refine g_lsub d12_next_318 ?_
        refine g_topL (lN (wn tp f (p - f) * 10 + (tp p - 48))) ((lN_sub (a := wn tp f (p - f) * 10 + tp p) (b := 48) (by omega)).trans (by congr 1; omega)) ?_
        refine g_putLh _ fl12_202 d12_next_319 f_74_12 s_74_12 ?_
        refine g_aload_n d12_next_322 rfl ?_
        refine g_dup d12_next_323 rfl ?_
        refine g_get fl12_189 d12_next_324 f_74_10 ?_
        refine g_topI (nI (p)) (uI_ss) ?_
        refine g_iconstv (nI 1) d12_next_327 rfl ?_
        refine g_iaddN d12_next_328 ?_
        refine g_putIh _ fl12_189 d12_next_329 f_74_10 s_74_10 ?_
        refine g_goto 243 d12_next_332 rfl ?_
        refine g_lo [(0, .ref 74)] ⟨rfl, trivial⟩ ?_
        rw [uI_uI, uL_uL, ← hst2]
        exact ih (p + 1) (by omega) (by omega) hall2 kk
    · rw [show eD tp t p = p from ru_e (fun z => e (of_decide_eq_true z.2))] at kk
      refine g_aload_n d12_next_243 rfl ?_
      refine g_get fl12_212 d12_next_244 f_74_11 ?_
      refine g_topI (nI (2)) (h11) ?_
      refine g_iconstv (nI 2) d12_next_247 rfl ?_
      refine g_ic_ne ((2 : Nat) : Int) (2) 335 (nI_ti (by omega)) (by decide) d12_next_248 rfl (fun c248 => absurd c248 (by omega)) (fun _ => ?_)
      refine g_aload_n d12_next_251 rfl ?_
      refine g_get fl12_189 d12_next_252 f_74_10 ?_
      refine g_topI (nI (p)) (uI_ss) ?_
      refine g_aload_n d12_next_255 rfl ?_
      refine g_get fl12_179 d12_next_256 f_74_8 ?_
      refine g_topI (nI (t)) (h8) ?_
      refine g_ic_ge ((p : Nat) : Int) ((t : Nat) : Int) 335 (nI_ti (by omega)) (nI_ti (by omega)) d12_next_259 rfl (fun c259 => absurd c259 (by omega)) (fun _ => ?_)
      refine g_aload_n d12_next_262 rfl ?_
      refine g_get fl12_23 d12_next_263 f_74_7 ?_
      refine g_aload_n d12_next_266 rfl ?_
      refine g_get fl12_189 d12_next_267 f_74_10 ?_
      refine g_topI (nI (p)) (uI_ss) ?_
      refine g_ialdN (p) d12_next_270 a_79 (rfl) (by omega) (by decide) ?_
      refine g_topI (nI (tp p)) (h79 p (by omega)) ?_
      refine g_ES1 sm12_isDigit ml12_209 (r12_isDigit (tp p) (by omega) (Nat.le_refl 0)) (by omega) (Nat.le_of_ble_eq_true rfl) d12_next_271 ?_
      refine g_bz 335 d12_next_274 rfl (fun _ => ?_) (fun c274 => absurd c274 (e))
      refine g_lo [(0, .ref 74)] ⟨rfl, trivial⟩ ?_
      exact kk
set_option maxHeartbeats 800000 in
theorem r12_next {l : Launch} {K : cK} {d : Nat} {I : wI} {L : wL} {R : wR} {dy : cH} (tp : Nat → Nat) (t : Nat) (hTP : TPm I tp t) (p : Nat) (h10 : I 74 10 = nI p) (hpt : p ≤ t) (hd : 1 ≤ d) : CW l K m12_next d [.ref 74] (hp I L R dy) (α := wI × wL) (fun x => FR [] [9, 10, 11] [] [12] I L x.1 x.2 ∧ TKm x.1 x.2 tp t (sk tp t p)) (fun x => hp x.1 x.2 R dy) := by
  obtain ⟨ht4, h8, h79, hb⟩ := id hTP
  obtain ⟨hs1, hs2⟩ := ru_le (p := fun q => decide (tp q = 32)) hpt
  refine CC.of ok12_next (Nat.le_of_ble_eq_true rfl) ?_
  refine g_aload_n d12_next_0 rfl ?_
  refine g_aload_n d12_next_1 rfl ?_
  refine g_get fl12_189 d12_next_2 f_74_10 ?_
  refine g_topI (nI (p)) (h10) ?_
  refine g_putIh _ fl12_199 d12_next_5 f_74_9 s_74_9 ?_
  refine g_lo [(0, .ref 74)] ⟨rfl, trivial⟩ ?_
  refine r12_nx1 tp t hTP (t - p) p (by omega) ?_
  have hbf := hb (sk tp t p)
  have hsk : sk tp t p ≤ t := hs2
  generalize sk tp t p = f at *
  rcases (by omega : f = t ∨ f < t) with hft | hft
  · have hk : kd tp t f = 0 := if_pos (by omega)
    have he : tE tp t f = f := if_pos hk
    have hw : wth tp t f = 0 := by unfold wth; rw [hk]; rfl
    refine g_aload_n d12_next_46 rfl ?_
    refine g_aload_n d12_next_47 rfl ?_
    refine g_get fl12_199 d12_next_48 f_74_9 ?_
    refine g_topI (nI (f)) (uI_ss) ?_
    refine g_putIh _ fl12_189 d12_next_51 f_74_10 s_74_10 ?_
    refine g_aload_n d12_next_54 rfl ?_
    refine g_lconstv (0) d12_next_55 rfl ?_
    refine g_putLh _ fl12_202 d12_next_56 f_74_12 s_74_12 ?_
    refine g_aload_n d12_next_59 rfl ?_
    refine g_aload_n d12_next_60 rfl ?_
    refine g_get fl12_199 d12_next_61 f_74_9 ?_
    refine g_topI (nI (f)) (by rw [uI_fn (by decide), uI_ss]) ?_
    refine g_aload_n d12_next_64 rfl ?_
    refine g_get fl12_179 d12_next_65 f_74_8 ?_
    refine g_topI (nI (t)) (h8) ?_
    refine g_ic_ne ((f : Nat) : Int) ((t : Nat) : Int) 75 (nI_ti (by omega)) (nI_ti (by omega)) d12_next_68 rfl (fun c68 => absurd c68 (by omega)) (fun _ => ?_)
    refine g_iconstv (nI 0) d12_next_71 rfl ?_
    refine g_goto 114 d12_next_72 rfl ?_
    refine g_putIh _ fl12_212 d12_next_114 f_74_11 s_74_11 ?_
    refine g_aload_n d12_next_117 rfl ?_
    refine g_get fl12_212 d12_next_118 f_74_11 ?_
    refine g_topI (nI (0)) (uI_ss) ?_
    refine g_iconstv (nI 3) d12_next_121 rfl ?_
    refine g_ic_ne ((0 : Nat) : Int) (3) 149 (nI_ti (by omega)) (by decide) d12_next_122 rfl (fun _ => ?_) (fun c122 => absurd c122 (by decide))
    refine g_aload_n d12_next_149 rfl ?_
    refine g_get fl12_212 d12_next_150 f_74_11 ?_
    refine g_topI (nI (0)) (uI_ss) ?_
    refine g_iconstv (nI 1) d12_next_153 rfl ?_
    refine g_ic_ne ((0 : Nat) : Int) (1) 243 (nI_ti (by omega)) (by decide) d12_next_154 rfl (fun _ => ?_) (fun c154 => absurd c154 (by decide))
    refine g_aload_n d12_next_243 rfl ?_
    refine g_get fl12_212 d12_next_244 f_74_11 ?_
    refine g_topI (nI (0)) (uI_ss) ?_
    refine g_iconstv (nI 2) d12_next_247 rfl ?_
    refine g_ic_ne ((0 : Nat) : Int) (2) 335 (nI_ti (by omega)) (by decide) d12_next_248 rfl (fun _ => ?_) (fun c248 => absurd c248 (by decide))
    exact g_vret rfl d12_next_335 (⟨((uI (uI (uI I 74 9 (nI f)) 74 10 (nI f)) 74 11 (nI 0)), uL L 74 12 0), ⟨(((FR.rf.uf (j := 9) (by decide)).uf (j := 10) (by decide)).uf (j := 11) (by decide)).ug (j := 12) (by decide), by unfold TKm; rw [hk, he, hw]; exact ⟨by omega, rfl, rfl, rfl, rfl⟩⟩, rfl, rfl⟩)
  · have h0 : ¬ t ≤ f := by omega
    by_cases hl : isL (tp f)
    · have hk : kd tp t f = 1 := by unfold kd; rw [if_neg h0, if_pos hl]
      have he : tE tp t f = eL tp t f := by unfold tE; rw [hk]; rfl
      have hw : wth tp t f = lI (wwI tp f (eL tp t f - f)) := by unfold wth; rw [he, hk]; rfl
      refine g_aload_n d12_next_46 rfl ?_
      refine g_aload_n d12_next_47 rfl ?_
      refine g_get fl12_199 d12_next_48 f_74_9 ?_
      refine g_topI (nI (f)) (uI_ss) ?_
      refine g_putIh _ fl12_189 d12_next_51 f_74_10 s_74_10 ?_
      refine g_aload_n d12_next_54 rfl ?_
      refine g_lconstv (0) d12_next_55 rfl ?_
      refine g_putLh _ fl12_202 d12_next_56 f_74_12 s_74_12 ?_
      refine g_aload_n d12_next_59 rfl ?_
      refine g_aload_n d12_next_60 rfl ?_
      refine g_get fl12_199 d12_next_61 f_74_9 ?_
      refine g_topI (nI (f)) (by rw [uI_fn (by decide), uI_ss]) ?_
      refine g_aload_n d12_next_64 rfl ?_
      refine g_get fl12_179 d12_next_65 f_74_8 ?_
      refine g_topI (nI (t)) (h8) ?_
      refine g_ic_ne ((f : Nat) : Int) ((t : Nat) : Int) 75 (nI_ti (by omega)) (nI_ti (by omega)) d12_next_68 rfl (fun _ => ?_) (fun c68 => absurd c68 (by omega))
      refine g_aload_n d12_next_75 rfl ?_
      refine g_get fl12_23 d12_next_76 f_74_7 ?_
      refine g_aload_n d12_next_79 rfl ?_
      refine g_get fl12_199 d12_next_80 f_74_9 ?_
      refine g_topI (nI (f)) (by rw [uI_fn (by decide), uI_ss]) ?_
      refine g_ialdN (f) d12_next_83 a_79 (rfl) (by omega) (by decide) ?_
      refine g_topI (nI (tp f)) (h79 f (by omega)) ?_
      refine g_ES1 sm12_isSmall ml12_206 (r12_isSmall (tp f) (by omega) (Nat.le_refl 0)) (by omega) (Nat.le_of_ble_eq_true rfl) d12_next_84 ?_
      refine g_bz 94 d12_next_87 rfl (fun c87 => absurd c87 (fun z => z hl)) (fun _ => ?_)
      refine g_iconstv (nI 1) d12_next_90 rfl ?_
      refine g_goto 114 d12_next_91 rfl ?_
      refine g_putIh _ fl12_212 d12_next_114 f_74_11 s_74_11 ?_
      refine g_aload_n d12_next_117 rfl ?_
      refine g_get fl12_212 d12_next_118 f_74_11 ?_
      refine g_topI (nI (1)) (uI_ss) ?_
      refine g_iconstv (nI 3) d12_next_121 rfl ?_
      refine g_ic_ne ((1 : Nat) : Int) (3) 149 (nI_ti (by omega)) (by decide) d12_next_122 rfl (fun _ => ?_) (fun c122 => absurd c122 (by decide))
      refine g_lo [(0, .ref 74)] ⟨rfl, trivial⟩ ?_
      have key := r12_nx2 (l := l) (K := K) (d := d) (R := R) (dy := dy) (I := (uI (uI (uI I 74 9 (nI f)) 74 10 (nI f)) 74 11 (nI 1))) (L := L) (Q := fun r h1 => ∃ x : wI × wL, (FR [] [9, 10, 11] [] [12] I L x.1 x.2 ∧ TKm x.1 x.2 tp t f) ∧ r = none ∧ h1 = hp x.1 x.2 R dy) tp t ⟨ht4, h8, h79, hb⟩ f (by rw [uI_fn (by decide), uI_fn (by decide), uI_ss]) uI_ss hd (t - f) f (by omega) (Nat.le_refl _) (fun q a b => by omega)
      rw [Nat.sub_self, show wwI tp f 0 = 0 from rfl] at key
      rw [show (0 : Int64) = lI 0 by decide]
      have e10 : uI (uI (uI (uI I 74 9 (nI f)) 74 10 (nI f)) 74 11 (nI 1)) 74 10 (nI f) = (uI (uI (uI I 74 9 (nI f)) 74 10 (nI f)) 74 11 (nI 1)) := uI_id (by rw [uI_fn (by decide), uI_ss])
      rw [e10] at key
      refine key ?_
      refine g_aload_n d12_next_243 rfl ?_
      refine g_get fl12_212 d12_next_244 f_74_11 ?_
      refine g_topI (nI (1)) (by rw [uI_fn (by decide), uI_ss]) ?_
      refine g_iconstv (nI 2) d12_next_247 rfl ?_
      refine g_ic_ne ((1 : Nat) : Int) (2) 335 (nI_ti (by omega)) (by decide) d12_next_248 rfl (fun _ => ?_) (fun c248 => absurd c248 (by decide))
      exact g_vret rfl d12_next_335 (⟨(uI (uI (uI (uI I 74 9 (nI f)) 74 10 (nI f)) 74 11 (nI 1)) 74 10 (nI (eL tp t f)), uL L 74 12 (lI (wwI tp f (eL tp t f - f)))), ⟨((((FR.rf.uf (j := 9) (by decide)).uf (j := 10) (by decide)).uf (j := 11) (by decide)).uf (j := 10) (by decide)).ug (j := 12) (by decide), by unfold TKm; rw [hk, he, hw]; exact ⟨by omega, rfl, rfl, rfl, rfl⟩⟩, rfl, rfl⟩)
    · by_cases hd9 : isD (tp f)
      · have hk : kd tp t f = 2 := by unfold kd; rw [if_neg h0, if_neg hl, if_pos hd9]
        have he : tE tp t f = eD tp t f := by unfold tE; rw [hk]; rfl
        have hw : wth tp t f = lN (wn tp f (eD tp t f - f)) := by unfold wth; rw [he, hk]; rfl
        refine g_aload_n d12_next_46 rfl ?_
        refine g_aload_n d12_next_47 rfl ?_
        refine g_get fl12_199 d12_next_48 f_74_9 ?_
        refine g_topI (nI (f)) (uI_ss) ?_
        refine g_putIh _ fl12_189 d12_next_51 f_74_10 s_74_10 ?_
        refine g_aload_n d12_next_54 rfl ?_
        refine g_lconstv (0) d12_next_55 rfl ?_
        refine g_putLh _ fl12_202 d12_next_56 f_74_12 s_74_12 ?_
        refine g_aload_n d12_next_59 rfl ?_
        refine g_aload_n d12_next_60 rfl ?_
        refine g_get fl12_199 d12_next_61 f_74_9 ?_
        refine g_topI (nI (f)) (by rw [uI_fn (by decide), uI_ss]) ?_
        refine g_aload_n d12_next_64 rfl ?_
        refine g_get fl12_179 d12_next_65 f_74_8 ?_
        refine g_topI (nI (t)) (h8) ?_
        refine g_ic_ne ((f : Nat) : Int) ((t : Nat) : Int) 75 (nI_ti (by omega)) (nI_ti (by omega)) d12_next_68 rfl (fun _ => ?_) (fun c68 => absurd c68 (by omega))
        refine g_aload_n d12_next_75 rfl ?_
        refine g_get fl12_23 d12_next_76 f_74_7 ?_
        refine g_aload_n d12_next_79 rfl ?_
        refine g_get fl12_199 d12_next_80 f_74_9 ?_
        refine g_topI (nI (f)) (by rw [uI_fn (by decide), uI_ss]) ?_
        refine g_ialdN (f) d12_next_83 a_79 (rfl) (by omega) (by decide) ?_
        refine g_topI (nI (tp f)) (h79 f (by omega)) ?_
        refine g_ES1 sm12_isSmall ml12_206 (r12_isSmall (tp f) (by omega) (Nat.le_refl 0)) (by omega) (Nat.le_of_ble_eq_true rfl) d12_next_84 ?_
        refine g_bz 94 d12_next_87 rfl (fun _ => ?_) (fun c87 => absurd c87 (hl))
        refine g_aload_n d12_next_94 rfl ?_
        refine g_get fl12_23 d12_next_95 f_74_7 ?_
        refine g_aload_n d12_next_98 rfl ?_
        refine g_get fl12_199 d12_next_99 f_74_9 ?_
        refine g_topI (nI (f)) (by rw [uI_fn (by decide), uI_ss]) ?_
        refine g_ialdN (f) d12_next_102 a_79 (rfl) (by omega) (by decide) ?_
        refine g_topI (nI (tp f)) (h79 f (by omega)) ?_
        refine g_ES1 sm12_isDigit ml12_209 (r12_isDigit (tp f) (by omega) (Nat.le_refl 0)) (by omega) (Nat.le_of_ble_eq_true rfl) d12_next_103 ?_
        refine g_bz 113 d12_next_106 rfl (fun c106 => absurd c106 (fun z => z hd9)) (fun _ => ?_)
        refine g_iconstv (nI 2) d12_next_109 rfl ?_
        refine g_goto 114 d12_next_110 rfl ?_
        refine g_putIh _ fl12_212 d12_next_114 f_74_11 s_74_11 ?_
        refine g_aload_n d12_next_117 rfl ?_
        refine g_get fl12_212 d12_next_118 f_74_11 ?_
        refine g_topI (nI (2)) (uI_ss) ?_
        refine g_iconstv (nI 3) d12_next_121 rfl ?_
        refine g_ic_ne ((2 : Nat) : Int) (3) 149 (nI_ti (by omega)) (by decide) d12_next_122 rfl (fun _ => ?_) (fun c122 => absurd c122 (by decide))
        refine g_aload_n d12_next_149 rfl ?_
        refine g_get fl12_212 d12_next_150 f_74_11 ?_
        refine g_topI (nI (2)) (uI_ss) ?_
        refine g_iconstv (nI 1) d12_next_153 rfl ?_
        refine g_ic_ne ((2 : Nat) : Int) (1) 243 (nI_ti (by omega)) (by decide) d12_next_154 rfl (fun _ => ?_) (fun c154 => absurd c154 (by decide))
        refine g_lo [(0, .ref 74)] ⟨rfl, trivial⟩ ?_
        have key := r12_nx3 (l := l) (K := K) (d := d) (R := R) (dy := dy) (I := (uI (uI (uI I 74 9 (nI f)) 74 10 (nI f)) 74 11 (nI 2))) (L := L) (Q := fun r h1 => ∃ x : wI × wL, (FR [] [9, 10, 11] [] [12] I L x.1 x.2 ∧ TKm x.1 x.2 tp t f) ∧ r = none ∧ h1 = hp x.1 x.2 R dy) tp t ⟨ht4, h8, h79, hb⟩ f (by rw [uI_fn (by decide), uI_fn (by decide), uI_ss]) uI_ss hd (t - f) f (by omega) (Nat.le_refl _) (fun q a b => by omega)
        rw [Nat.sub_self, show wn tp f 0 = 0 from rfl] at key
        rw [show (0 : Int64) = lN 0 by decide]
        have e10 : uI (uI (uI (uI I 74 9 (nI f)) 74 10 (nI f)) 74 11 (nI 2)) 74 10 (nI f) = (uI (uI (uI I 74 9 (nI f)) 74 10 (nI f)) 74 11 (nI 2)) := uI_id (by rw [uI_fn (by decide), uI_ss])
        rw [e10] at key
        refine key ?_
        exact g_vret rfl d12_next_335 (⟨(uI (uI (uI (uI I 74 9 (nI f)) 74 10 (nI f)) 74 11 (nI 2)) 74 10 (nI (eD tp t f)), uL L 74 12 (lN (wn tp f (eD tp t f - f)))), ⟨((((FR.rf.uf (j := 9) (by decide)).uf (j := 10) (by decide)).uf (j := 11) (by decide)).uf (j := 10) (by decide)).ug (j := 12) (by decide), by unfold TKm; rw [hk, he, hw]; exact ⟨by omega, rfl, rfl, rfl, rfl⟩⟩, rfl, rfl⟩)
      · have hk : kd tp t f = 3 := by unfold kd; rw [if_neg h0, if_neg hl, if_neg hd9]
        have he : tE tp t f = f + 1 := by unfold tE; rw [hk]; rfl
        have hw : wth tp t f = lN (tp f) := by unfold wth; rw [hk]; rfl
        refine g_aload_n d12_next_46 rfl ?_
        refine g_aload_n d12_next_47 rfl ?_
        refine g_get fl12_199 d12_next_48 f_74_9 ?_
        refine g_topI (nI (f)) (uI_ss) ?_
        refine g_putIh _ fl12_189 d12_next_51 f_74_10 s_74_10 ?_
        refine g_aload_n d12_next_54 rfl ?_
        refine g_lconstv (0) d12_next_55 rfl ?_
        refine g_putLh _ fl12_202 d12_next_56 f_74_12 s_74_12 ?_
        refine g_aload_n d12_next_59 rfl ?_
        refine g_aload_n d12_next_60 rfl ?_
        refine g_get fl12_199 d12_next_61 f_74_9 ?_
        refine g_topI (nI (f)) (by rw [uI_fn (by decide), uI_ss]) ?_
        refine g_aload_n d12_next_64 rfl ?_
        refine g_get fl12_179 d12_next_65 f_74_8 ?_
        refine g_topI (nI (t)) (h8) ?_
        refine g_ic_ne ((f : Nat) : Int) ((t : Nat) : Int) 75 (nI_ti (by omega)) (nI_ti (by omega)) d12_next_68 rfl (fun _ => ?_) (fun c68 => absurd c68 (by omega))
        refine g_aload_n d12_next_75 rfl ?_
        refine g_get fl12_23 d12_next_76 f_74_7 ?_
        refine g_aload_n d12_next_79 rfl ?_
        refine g_get fl12_199 d12_next_80 f_74_9 ?_
        refine g_topI (nI (f)) (by rw [uI_fn (by decide), uI_ss]) ?_
        refine g_ialdN (f) d12_next_83 a_79 (rfl) (by omega) (by decide) ?_
        refine g_topI (nI (tp f)) (h79 f (by omega)) ?_
        refine g_ES1 sm12_isSmall ml12_206 (r12_isSmall (tp f) (by omega) (Nat.le_refl 0)) (by omega) (Nat.le_of_ble_eq_true rfl) d12_next_84 ?_
        refine g_bz 94 d12_next_87 rfl (fun _ => ?_) (fun c87 => absurd c87 (hl))
        refine g_aload_n d12_next_94 rfl ?_
        refine g_get fl12_23 d12_next_95 f_74_7 ?_
        refine g_aload_n d12_next_98 rfl ?_
        refine g_get fl12_199 d12_next_99 f_74_9 ?_
        refine g_topI (nI (f)) (by rw [uI_fn (by decide), uI_ss]) ?_
        refine g_ialdN (f) d12_next_102 a_79 (rfl) (by omega) (by decide) ?_
        refine g_topI (nI (tp f)) (h79 f (by omega)) ?_
        refine g_ES1 sm12_isDigit ml12_209 (r12_isDigit (tp f) (by omega) (Nat.le_refl 0)) (by omega) (Nat.le_of_ble_eq_true rfl) d12_next_103 ?_
        refine g_bz 113 d12_next_106 rfl (fun _ => ?_) (fun c106 => absurd c106 (hd9))
        refine g_iconstv (nI 3) d12_next_113 rfl ?_
        refine g_putIh _ fl12_212 d12_next_114 f_74_11 s_74_11 ?_
        refine g_aload_n d12_next_117 rfl ?_
        refine g_get fl12_212 d12_next_118 f_74_11 ?_
        refine g_topI (nI (3)) (uI_ss) ?_
        refine g_iconstv (nI 3) d12_next_121 rfl ?_
        refine g_ic_ne ((3 : Nat) : Int) (3) 149 (nI_ti (by omega)) (by decide) d12_next_122 rfl (fun c122 => absurd c122 (by decide)) (fun _ => ?_)
        refine g_aload_n d12_next_125 rfl ?_
        refine g_aload_n d12_next_126 rfl ?_
        refine g_get fl12_23 d12_next_127 f_74_7 ?_
        refine g_aload_n d12_next_130 rfl ?_
        refine g_get fl12_199 d12_next_131 f_74_9 ?_
        refine g_topI (nI (f)) (by rw [uI_fn (by decide), uI_fn (by decide), uI_ss]) ?_
        refine g_ialdN (f) d12_next_134 a_79 (rfl) (by omega) (by decide) ?_
        refine g_topI (nI (tp f)) (h79 f (by omega)) ?_
        refine g_i2lN (by omega) d12_next_135 ?_
        refine g_putLh _ fl12_202 d12_next_136 f_74_12 s_74_12 ?_
        refine g_aload_n d12_next_139 rfl ?_
        refine g_dup d12_next_140 rfl ?_
        refine g_get fl12_189 d12_next_141 f_74_10 ?_
        refine g_topI (nI (f)) (by rw [uI_fn (by decide), uI_ss]) ?_
        refine g_iconstv (nI 1) d12_next_144 rfl ?_
        refine g_iaddN d12_next_145 ?_
        refine g_putIh _ fl12_189 d12_next_146 f_74_10 s_74_10 ?_
        refine g_aload_n d12_next_149 rfl ?_
        refine g_get fl12_212 d12_next_150 f_74_11 ?_
        refine g_topI (nI (3)) (by rw [uI_fn (by decide), uI_ss]) ?_
        refine g_iconstv (nI 1) d12_next_153 rfl ?_
        refine g_ic_ne ((3 : Nat) : Int) (1) 243 (nI_ti (by omega)) (by decide) d12_next_154 rfl (fun _ => ?_) (fun c154 => absurd c154 (by decide))
        refine g_aload_n d12_next_243 rfl ?_
        refine g_get fl12_212 d12_next_244 f_74_11 ?_
        refine g_topI (nI (3)) (by rw [uI_fn (by decide), uI_ss]) ?_
        refine g_iconstv (nI 2) d12_next_247 rfl ?_
        refine g_ic_ne ((3 : Nat) : Int) (2) 335 (nI_ti (by omega)) (by decide) d12_next_248 rfl (fun _ => ?_) (fun c248 => absurd c248 (by decide))
        exact g_vret rfl d12_next_335 (⟨(uI (uI (uI (uI I 74 9 (nI f)) 74 10 (nI f)) 74 11 (nI 3)) 74 10 (nI (f + 1)), uL (uL L 74 12 0) 74 12 (lN (tp f))), ⟨(((((FR.rf.uf (j := 9) (by decide)).uf (j := 10) (by decide)).uf (j := 11) (by decide)).ug (j := 12) (by decide)).ug (j := 12) (by decide)).uf (j := 10) (by decide), by unfold TKm; rw [hk, he, hw]; exact ⟨by omega, rfl, rfl, rfl, rfl⟩⟩, rfl, rfl⟩)
