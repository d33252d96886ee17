theorem lN_ne {n : Nat} (h0 : 0 < n) (h : n < 2 ^ 63) : ¬ lN n = 0 := fun e => by
  have := congrArg Int64.toInt e
  rw [pk_lT h] at this
  have h2 : (0 : Int64).toInt = 0 := rfl
  omega
def rcv (P : Nat → Nat) (w : Nat) (X : Nat → Nat) (k : Nat) : Nat := P k / w * X k
set_option maxHeartbeats 400000 in
theorem r12_rcL {l : Launch} {K : cK} {d : Nat} {I : wI} {L : wL} {R : wR} {dy : cH} {Q : Option Value → cH → Prop} (fr ti : Nat) (hti : ti ≤ 11) (hfr : fr ≤ ti) (P X : Nat → Nat) (hPl : ∀ k, 1 ≤ k → k ≤ 12 → P k ≤ 1000000000000) (hP : ∀ k, 1 ≤ k → k ≤ 12 → L 91 (13 * fr + k) = lN (P k)) (hX : ∀ k, 1 ≤ k → k ≤ 12 → L 97 (169 * fr + 13 * k + 0) = lN (X k)) (hd : 1 ≤ d)
    (kk : (1 ≤ 13) → GL l K m12_runCost d 0 0 80 [(0, .ref 74), (3, .int (nI (fr))), (4, .long (lN (10 ^ (ti - fr + 1)))), (6, .long (lN (sm (rcv P (10 ^ (ti - fr + 1)) X) (13 - 1))))] [] (hp I L R dy) Q) :
    ∀ (n k : Nat) , k + n = 13 → (1 ≤ k) → GL l K m12_runCost d 0 0 34 [(0, .ref 74), (3, .int (nI (fr))), (4, .long (lN (10 ^ (ti - fr + 1)))), (6, .long (lN (sm (rcv P (10 ^ (ti - fr + 1)) X) (k - 1)))), (8, .int (nI (k)))] [] (hp I L R dy) Q := by
  have hp0 : 0 < 10 ^ (ti - fr + 1) := Nat.pow_pos (by decide)
  have hp1 := pw12 (m := ti - fr + 1) (by omega)
  intro n
  induction n with
  | zero =>
    intro k  hin hk1
    obtain rfl : k = 13 := by omega
    refine g_iload d12_runCost_34 rfl ?_
    refine g_bipushv (nI 13) d12_runCost_36 rfl ?_
    refine g_ic_ge ((13 : Nat) : Int) (13) 80 (nI_ti (by omega)) (by decide) d12_runCost_38 rfl (fun _ => ?_) (fun c38 => absurd c38 (by decide))
    refine g_lo [(0, .ref 74), (3, .int (nI (fr))), (4, .long (lN (10 ^ (ti - fr + 1)))), (6, .long (lN (sm (rcv P (10 ^ (ti - fr + 1)) X) (13 - 1))))] ⟨rfl, rfl, rfl, rfl, trivial⟩ ?_
    exact kk  hk1
  | succ n ih =>
    intro k  hin hk1
    have hPk := hPl k hk1 (by omega)
    refine g_iload d12_runCost_34 rfl ?_
    refine g_bipushv (nI 13) d12_runCost_36 rfl ?_
    refine g_ic_ge ((k : Nat) : Int) (13) 80 (nI_ti (by omega)) (by decide) d12_runCost_38 rfl (fun c38 => absurd c38 (by omega)) (fun _ => ?_)
    refine g_lload d12_runCost_41 rfl ?_
    refine g_aload_n d12_runCost_43 rfl ?_
    refine g_get fl12_86 d12_runCost_44 f_74_38 ?_
    refine g_bipushv (nI 13) d12_runCost_47 rfl ?_
    refine g_iload_n d12_runCost_49 rfl ?_
    refine g_imulN d12_runCost_50 ?_
    refine g_iload d12_runCost_51 rfl ?_
    refine g_iaddN d12_runCost_53 ?_
    refine g_laldN (((13 * fr) + k)) d12_runCost_54 a_91 (rfl) (by omega) (by decide) ?_
    refine g_topL (lN (P k)) (hP k hk1 (by omega)) ?_
    refine g_lload d12_runCost_55 rfl ?_
    refine g_ldiv d12_runCost_57 (lN_ne hp0 (by omega)) ?_
    refine g_topL (lN (P k / (10 ^ (ti - fr + 1)))) (pk_lDiv (by omega) hp0 (by omega)) ?_
    refine g_aload_n d12_runCost_58 rfl ?_
    refine g_get fl12_104 d12_runCost_59 f_74_47 ?_
    refine g_iload_n d12_runCost_62 rfl ?_
    refine g_iload d12_runCost_63 rfl ?_
    refine g_iconstv (nI 0) d12_runCost_65 rfl ?_
    refine g_ES3 sm12_runAt ml12_461 (r12_runAt (fr) (k) (0) (Nat.le_refl 0)) (by omega) (Nat.le_of_ble_eq_true rfl) d12_runCost_66 ?_
    refine g_laldN ((169 * fr + 13 * k + 0)) d12_runCost_69 a_97 (rfl) (by omega) (by decide) ?_
    refine g_topL (lN (X k)) (hX k hk1 (by omega)) ?_
    refine g_lmul d12_runCost_70 ?_
    refine g_topL (lN ((P k / (10 ^ (ti - fr + 1))) * X k)) (lN_mul _ _) ?_
    refine g_ladd d12_runCost_71 ?_
    refine g_topL (lN (sm (rcv P (10 ^ (ti - fr + 1)) X) (k + 1 - 1))) (by rw [lN_add]; cases k with | zero => omega | succ k => rfl) ?_
    refine g_lstore d12_runCost_72 (by decide) ?_
    refine g_iincN d12_runCost_74 rfl (by decide) ?_
    refine g_goto 34 d12_runCost_77 rfl ?_
    refine g_lo [(0, .ref 74), (3, .int (nI (fr))), (4, .long (lN (10 ^ (ti - fr + 1)))), (6, .long (lN (sm (rcv P (10 ^ (ti - fr + 1)) X) (k + 1 - 1)))), (8, .int (nI (k + 1)))] ⟨rfl, rfl, rfl, rfl, rfl, trivial⟩ ?_
    exact ih (k + 1) (by omega) (by omega)
set_option maxHeartbeats 400000 in
theorem r12_runCost {l : Launch} {K : cK} {d : Nat} {I : wI} {L : wL} {R : wR} {dy : cH} (coin per c fr ti se fl : Nat) (hC : CF I c fr ti se fl) (hco : I 76 6 = nI coin) (hc9 : coin ≤ 9) (hpe : I 76 7 = nI per) (hp4 : per ≤ 4) (wn : Bool) (cm fn : Nat → Nat → Nat) (sb : Nat → Nat → Bool) (hcm : ∀ s k, cm s k ≤ 10) (hfn : ∀ s k, fn s k ≤ 99) (hcs : ∀ s, fr ≤ s → s < ti + 1 → ∀ k, 1 ≤ k → k ≤ 12 → I 90 (13 * s + k) = nI (cm s k) ∧ I 92 (13 * s + k) = nI (fn s k) ∧ I 93 (13 * s + k) = if sb s k = true then 1 else 0) (P : Nat → Nat) (hPl : ∀ k, 1 ≤ k → k ≤ 12 → P k ≤ 1000000000000) (hP : ∀ k, 1 ≤ k → k ≤ 12 → L 91 (13 * fr + k) = lN (P k)) (hd : 3 ≤ d) : CX l K m12_runCost d [.ref 74, .int (nI c), .int (if wn = true then 1 else 0)] (hp I L R dy) (α := wI × wL) (fun x => FR [98] [] [97] [] I L x.1 x.2) (fun _ => .long (lN (sm (rcv P (10 ^ (ti - fr + 1)) (fun k => rD coin per fr ti fl wn cm fn sb (ti + 1 - fr) k 0)) 12))) (fun x => hp x.1 x.2 R dy) := by
  obtain ⟨hc6, q0, q1, -, q3, hft, ht11, -, hfl⟩ := id hC
  refine CC.of ok12_runCost (Nat.le_of_ble_eq_true rfl) ?_
  refine g_aload_n d12_runCost_0 rfl ?_
  refine g_iload_n d12_runCost_1 rfl ?_
  refine g_iload_n d12_runCost_2 rfl ?_
  refine g_WV2 vm12_findRun ml12_472 c_74 (r12_findRun coin per c fr ti se fl hC hco hc9 hpe hp4 wn cm fn sb hcm hfn hcs (Nat.le_refl 2)) (by omega) (Nat.le_of_ble_eq_true rfl) d12_runCost_3 (fun x hx => ?_)
  obtain ⟨I2, L2⟩ := x
  obtain ⟨hF, hd1, hd2⟩ := hx
  dsimp only at hF hd1 hd2 ⊢
  have e76 : I2 76 = I 76 := hF.1 76 (by decide) (by decide)
  have e91 : L2 91 = L 91 := hF.2.2.1 91 (by decide) (by decide)
  refine g_aload_n d12_runCost_6 rfl ?_
  refine g_iload_n d12_runCost_7 rfl ?_
  refine g_iconstv (nI 0) d12_runCost_8 rfl ?_
  refine g_EV2 vm12_ofCar ml12_167 c_74 (r12_ofCar (c) (0) (by omega) (by omega) (Nat.le_refl 0)) (by omega) (Nat.le_of_ble_eq_true rfl) d12_runCost_9 ?_
  refine g_topI (nI (fr)) ((congrFun e76 _).trans q0) ?_
  refine g_istore_n d12_runCost_12 (by decide) ?_
  refine g_aload_n d12_runCost_13 rfl ?_
  refine g_iload_n d12_runCost_14 rfl ?_
  refine g_iconstv (nI 1) d12_runCost_15 rfl ?_
  refine g_EV2 vm12_ofCar ml12_167 c_74 (r12_ofCar (c) (1) (by omega) (by omega) (Nat.le_refl 0)) (by omega) (Nat.le_of_ble_eq_true rfl) d12_runCost_16 ?_
  refine g_topI (nI (ti)) ((congrFun e76 _).trans q1) ?_
  refine g_iload_n d12_runCost_19 rfl ?_
  refine g_isubN (by omega) d12_runCost_20 ?_
  refine g_iconstv (nI 1) d12_runCost_21 rfl ?_
  refine g_iaddN d12_runCost_22 ?_
  refine g_ES1 sm12_power ml12_464 (r12_power (((ti - fr) + 1)) (by omega) (Nat.le_refl 0)) (by omega) (Nat.le_of_ble_eq_true rfl) d12_runCost_23 ?_
  refine g_lstore d12_runCost_26 (by decide) ?_
  refine g_lconstv (0) d12_runCost_28 rfl ?_
  refine g_lstore d12_runCost_29 (by decide) ?_
  refine g_iconstv (nI 1) d12_runCost_31 rfl ?_
  refine g_istore d12_runCost_32 (by decide) ?_
  refine g_lo [(0, .ref 74), (3, .int (nI (fr))), (4, .long (lN (10 ^ (ti - fr + 1)))), (6, .long (lN 0)), (8, .int (nI (1)))] ⟨rfl, rfl, rfl, rfl, rfl, trivial⟩ ?_
  refine r12_rcL (I := I2) (L := L2) fr ti ht11 hft P (fun k => rD coin per fr ti fl wn cm fn sb (ti + 1 - fr) k 0) hPl (fun k a b => by rw [e91]; exact hP k a b) (fun k a b => by have := hd1 (ti + 1 - fr) (Nat.le_refl _) k 0 a b (by decide); rw [show ti + 1 - (ti + 1 - fr) = fr by omega] at this; exact this) (by omega) (fun _ => ?_) 12 1 (by decide) (by decide)
  refine g_lload d12_runCost_80 rfl ?_
  exact g_lret rfl d12_runCost_82 (⟨(I2, L2), hF, rfl, rfl⟩)
set_option maxHeartbeats 200000 in
theorem r12_least_no {l : Launch} {K : cK} {d : Nat} {I : wI} {L : wL} {R : wR} {dy : cH} (n : Nat) (hn : I 76 0 = nI n) (hn6 : n ≤ 6) (x w : Int32) (hbad : ¬ ((0 ≤ x.toInt ∧ x.toInt < n) ∧ 0 ≤ w.toInt ∧ w.toInt ≤ 3)) (hd : 2 ≤ d) : CE l K m12_least d [.ref 74, .int x, .int w] (hp I L R dy) (.long (-1)) (hp (uI I 74 0 0) L R dy) := by
  refine CC.of ok12_least (Nat.le_of_ble_eq_true rfl) ?_
  refine g_aload_n d12_least_0 rfl ?_
  refine g_iconstv (nI 0) d12_least_1 rfl ?_
  refine g_putIh _ fl12_128 d12_least_2 f_74_0 s_74_0 ?_
  refine g_aload_n d12_least_5 rfl ?_
  refine g_iload_n d12_least_6 rfl ?_
  refine g_EV1 vm12_isCar ml12_158 c_74 (r12_isCarI  n (by exact hn) hn6 (rfl) (Nat.le_refl 1)) (by omega) (Nat.le_of_ble_eq_true rfl) d12_least_7 ?_
  refine g_bz 25 d12_least_10 rfl (fun c10 => ?_) (fun c10 => ?_)
  · refine g_ldc2 d12_least_25 kl12_219 ?_
    exact g_lret rfl d12_least_28 (⟨rfl, rfl⟩)
  · refine g_iload_n d12_least_13 rfl ?_
    refine g_i2l d12_least_14 ?_
    refine g_lconstv (0) d12_least_15 rfl ?_
    refine g_ldc2 d12_least_16 kl12_165 ?_
    refine g_ES3 sm12_in ml12_134 (r12_inI (ai := (0)) (bi := (3)) (i2l_int _) (by decide) (by decide) (Nat.le_refl 0)) (by omega) (Nat.le_of_ble_eq_true rfl) d12_least_19 ?_
    refine g_bnz 29 d12_least_22 rfl (fun c22 => ?_) (fun c22 => ?_)
    · exact absurd ⟨c10, c22⟩ hbad
    · refine g_ldc2 d12_least_25 kl12_219 ?_
      exact g_lret rfl d12_least_28 (⟨rfl, rfl⟩)
set_option maxHeartbeats 400000 in
theorem r12_least_0 {l : Launch} {K : cK} {d : Nat} {I : wI} {L : wL} {R : wR} {dy : cH} (lf : lawF) (ha : inF I lf) (coin per fine s0 : Nat) (hT : RT I coin per fine s0) (n : Nat) (hn : I 76 0 = nI n) (hn6 : n ≤ 6) (c fr ti se fl : Nat) (hC : CF I c fr ti se fl) (hcn : c < n) (hd : 7 ≤ d) : CX l K m12_least d [.ref 74, .int (nI c), .int (nI 0)] (hp I L R dy) (α := wI × wL) (fun x => FR [90, 92, 93, 96, 98] [0, 28, 32, 35, 36, 43, 44] [87, 88, 89, 91, 94, 95, 97, 99, 100] [33, 34, 42] I L x.1 x.2) (fun _ => .long (lN (dD coin per fr ti fl (fun s => mfv (cmR (I 76) (I 76 11) lf) s0 (fnR (I 76) (I 76 11) lf c fr fine) s 12) (ti + 1 - fr) 0))) (fun x => hp x.1 x.2 R dy) := by
  obtain ⟨hc6, q0, q1, q2, q3, hft, ht11, hse, hfl⟩ := id hC
  refine CC.of ok12_least (Nat.le_of_ble_eq_true rfl) ?_
  refine g_aload_n d12_least_0 rfl ?_
  refine g_iconstv (nI 0) d12_least_1 rfl ?_
  refine g_putIh _ fl12_128 d12_least_2 f_74_0 s_74_0 ?_
  refine g_aload_n d12_least_5 rfl ?_
  refine g_iload_n d12_least_6 rfl ?_
  refine g_EV1 vm12_isCar ml12_158 c_74 (r12_isCarI (xi := ((c : Nat) : Int)) n (by exact hn) hn6 (nI_ti (by omega)) (Nat.le_refl 1)) (by omega) (Nat.le_of_ble_eq_true rfl) d12_least_7 ?_
  refine g_bz 25 d12_least_10 rfl (fun c10 => absurd c10 (fun q => q (by omega))) (fun _ => ?_)
  refine g_iload_n d12_least_13 rfl ?_
  refine g_i2lN (by omega) d12_least_14 ?_
  refine g_lconstv (0) d12_least_15 rfl ?_
  refine g_ldc2 d12_least_16 kl12_165 ?_
  refine g_ES3 sm12_in ml12_134 (r12_inI (vi := ((0 : Nat) : Int)) (ai := (0)) (bi := (3)) (pk_lT (by omega)) (by decide) (by decide) (Nat.le_refl 0)) (by omega) (Nat.le_of_ble_eq_true rfl) d12_least_19 ?_
  refine g_bnz 29 d12_least_22 rfl (fun _ => ?_) (fun c22 => absurd c22 (fun q => q (by omega)))
  refine g_aload_n d12_least_29 rfl ?_
  refine g_iload_n d12_least_30 rfl ?_
  refine g_WV1 vm12_layAll ml12_433 c_74 (r12_layAll (I := uI I 74 0 0) lf (by exact ha) coin per fine s0 (by exact hT) c fr ti se fl (hC.of rfl) (Nat.le_refl 6)) (by omega) (Nat.le_of_ble_eq_true rfl) d12_least_31 (fun x hx => ?_)
  obtain ⟨I2, L2⟩ := x
  obtain ⟨hF, hLC, hR⟩ := hx
  dsimp only at hF hLC hR ⊢
  obtain ⟨t1, t2, t3, t4, t5, t6, t7, t8, t9, t10, t11, t12⟩ := id hT
  have e76 : I2 76 = I 76 := hF.1 76 (by decide) (by decide)
  have hF0 : FR [90, 92, 93, 96, 98] [0, 28, 32, 35, 36, 43, 44] [87, 88, 89, 91, 94, 95, 97, 99, 100] [33, 34, 42] I L I2 L2 := (FR.rf.uf (j := 0) (by decide)).tr (hF.up (by decide) (by decide) (by decide) (by decide))
  refine g_aload_n d12_least_34 rfl ?_
  refine g_iload_n d12_least_35 rfl ?_
  refine g_WV1 vm12_findDown ml12_458 c_74 (r12_findDown (I := I2) (L := L2) coin per c fr ti se fl (hC.of e76) (by rw [e76]; exact t1) t3 (by rw [e76]; exact t4) t6 (fun s => mfv (cmR (I 76) (I 76 11) lf) s0 (fnR (I 76) (I 76 11) lf c fr fine) s 12) (fun s a b => (hR s a b).2) (fun s => mfv_le _ s0 _ (cmR_le _ _ lf) (fun a b => fnR_le _ _ lf c fr a b t8) s) (Nat.le_refl 2)) (by omega) (Nat.le_of_ble_eq_true rfl) d12_least_36 (fun y hy => ?_)
  obtain ⟨I3, L3⟩ := y
  obtain ⟨hF3, hd1, hd2⟩ := hy
  dsimp only at hF3 hd1 hd2 ⊢
  have e763 : I3 76 = I 76 := (hF3.1 76 (by decide) (by decide)).trans e76
  have hF30 : FR [90, 92, 93, 96, 98] [0, 28, 32, 35, 36, 43, 44] [87, 88, 89, 91, 94, 95, 97, 99, 100] [33, 34, 42] I L I3 L3 := hF0.tr (hF3.up (by decide) (by decide) (by decide) (by decide))
  refine g_aload_n d12_least_39 rfl ?_
  refine g_get fl12_98 d12_least_40 f_74_45 ?_
  refine g_bipushv (nI 13) d12_least_43 rfl ?_
  refine g_aload_n d12_least_45 rfl ?_
  refine g_iload_n d12_least_46 rfl ?_
  refine g_iconstv (nI 0) d12_least_47 rfl ?_
  refine g_EV2 vm12_ofCar ml12_167 c_74 (r12_ofCar (c) (0) (by omega) (by omega) (Nat.le_refl 0)) (by omega) (Nat.le_of_ble_eq_true rfl) d12_least_48 ?_
  refine g_topI (nI (fr)) ((congrFun e763 _).trans q0) ?_
  refine g_imulN d12_least_51 ?_
  refine g_laldN ((13 * fr)) d12_least_52 a_95 (rfl) (by omega) (by decide) ?_
  refine g_topL (lN (dD coin per fr ti fl (fun s => mfv (cmR (I 76) (I 76 11) lf) s0 (fnR (I 76) (I 76 11) lf c fr fine) s 12) (ti + 1 - fr) 0)) (by have := hd1 (ti + 1 - fr) (Nat.le_refl _) 0 (by decide); rw [show ti + 1 - (ti + 1 - fr) = fr by omega] at this; exact this) ?_
  refine g_lstore_n d12_least_53 (by decide) ?_
  refine g_iload_n d12_least_54 rfl ?_
  refine g_iz_ne (0) 62 (by decide) d12_least_55 rfl (fun c55 => absurd c55 (by decide)) (fun _ => ?_)
  refine g_lload_n d12_least_58 rfl ?_
  refine g_goto 93 d12_least_59 rfl ?_
  exact g_lret rfl d12_least_93 (⟨(I3, L3), hF30, rfl, rfl⟩)
set_option maxHeartbeats 400000 in
theorem r12_least_1 {l : Launch} {K : cK} {d : Nat} {I : wI} {L : wL} {R : wR} {dy : cH} (lf : lawF) (ha : inF I lf) (coin per fine s0 : Nat) (hT : RT I coin per fine s0) (n : Nat) (hn : I 76 0 = nI n) (hn6 : n ≤ 6) (c fr ti se fl : Nat) (hC : CF I c fr ti se fl) (hcn : c < n) (hd : 7 ≤ d) : CX l K m12_least d [.ref 74, .int (nI c), .int (nI 1)] (hp I L R dy) (α := wI × wL) (fun x => FR [90, 92, 93, 96, 98] [0, 28, 32, 35, 36, 43, 44] [87, 88, 89, 91, 94, 95, 97, 99, 100] [33, 34, 42] I L x.1 x.2) (fun _ => .long (lN (sm (rcv (pt fr2 (cmR (I 76) (I 76 11) lf) s0 fr) (10 ^ (ti - fr + 1)) (fun k => rD coin per fr ti fl false (cmR (I 76) (I 76 11) lf) (fnR (I 76) (I 76 11) lf c fr fine) (sbR (I 76) (I 76 11) lf c fr) (ti + 1 - fr) k 0)) 12))) (fun x => hp x.1 x.2 R dy) := by
  obtain ⟨hc6, q0, q1, q2, q3, hft, ht11, hse, hfl⟩ := id hC
  refine CC.of ok12_least (Nat.le_of_ble_eq_true rfl) ?_
  refine g_aload_n d12_least_0 rfl ?_
  refine g_iconstv (nI 0) d12_least_1 rfl ?_
  refine g_putIh _ fl12_128 d12_least_2 f_74_0 s_74_0 ?_
  refine g_aload_n d12_least_5 rfl ?_
  refine g_iload_n d12_least_6 rfl ?_
  refine g_EV1 vm12_isCar ml12_158 c_74 (r12_isCarI (xi := ((c : Nat) : Int)) n (by exact hn) hn6 (nI_ti (by omega)) (Nat.le_refl 1)) (by omega) (Nat.le_of_ble_eq_true rfl) d12_least_7 ?_
  refine g_bz 25 d12_least_10 rfl (fun c10 => absurd c10 (fun q => q (by omega))) (fun _ => ?_)
  refine g_iload_n d12_least_13 rfl ?_
  refine g_i2lN (by omega) d12_least_14 ?_
  refine g_lconstv (0) d12_least_15 rfl ?_
  refine g_ldc2 d12_least_16 kl12_165 ?_
  refine g_ES3 sm12_in ml12_134 (r12_inI (vi := ((1 : Nat) : Int)) (ai := (0)) (bi := (3)) (pk_lT (by omega)) (by decide) (by decide) (Nat.le_refl 0)) (by omega) (Nat.le_of_ble_eq_true rfl) d12_least_19 ?_
  refine g_bnz 29 d12_least_22 rfl (fun _ => ?_) (fun c22 => absurd c22 (fun q => q (by omega)))
  refine g_aload_n d12_least_29 rfl ?_
  refine g_iload_n d12_least_30 rfl ?_
  refine g_WV1 vm12_layAll ml12_433 c_74 (r12_layAll (I := uI I 74 0 0) lf (by exact ha) coin per fine s0 (by exact hT) c fr ti se fl (hC.of rfl) (Nat.le_refl 6)) (by omega) (Nat.le_of_ble_eq_true rfl) d12_least_31 (fun x hx => ?_)
  obtain ⟨I2, L2⟩ := x
  obtain ⟨hF, hLC, hR⟩ := hx
  dsimp only at hF hLC hR ⊢
  obtain ⟨t1, t2, t3, t4, t5, t6, t7, t8, t9, t10, t11, t12⟩ := id hT
  have e76 : I2 76 = I 76 := hF.1 76 (by decide) (by decide)
  have hF0 : FR [90, 92, 93, 96, 98] [0, 28, 32, 35, 36, 43, 44] [87, 88, 89, 91, 94, 95, 97, 99, 100] [33, 34, 42] I L I2 L2 := (FR.rf.uf (j := 0) (by decide)).tr (hF.up (by decide) (by decide) (by decide) (by decide))
  refine g_aload_n d12_least_34 rfl ?_
  refine g_iload_n d12_least_35 rfl ?_
  refine g_WV1 vm12_findDown ml12_458 c_74 (r12_findDown (I := I2) (L := L2) coin per c fr ti se fl (hC.of e76) (by rw [e76]; exact t1) t3 (by rw [e76]; exact t4) t6 (fun s => mfv (cmR (I 76) (I 76 11) lf) s0 (fnR (I 76) (I 76 11) lf c fr fine) s 12) (fun s a b => (hR s a b).2) (fun s => mfv_le _ s0 _ (cmR_le _ _ lf) (fun a b => fnR_le _ _ lf c fr a b t8) s) (Nat.le_refl 2)) (by omega) (Nat.le_of_ble_eq_true rfl) d12_least_36 (fun y hy => ?_)
  obtain ⟨I3, L3⟩ := y
  obtain ⟨hF3, hd1, hd2⟩ := hy
  dsimp only at hF3 hd1 hd2 ⊢
  have e763 : I3 76 = I 76 := (hF3.1 76 (by decide) (by decide)).trans e76
  have hF30 : FR [90, 92, 93, 96, 98] [0, 28, 32, 35, 36, 43, 44] [87, 88, 89, 91, 94, 95, 97, 99, 100] [33, 34, 42] I L I3 L3 := hF0.tr (hF3.up (by decide) (by decide) (by decide) (by decide))
  refine g_aload_n d12_least_39 rfl ?_
  refine g_get fl12_98 d12_least_40 f_74_45 ?_
  refine g_bipushv (nI 13) d12_least_43 rfl ?_
  refine g_aload_n d12_least_45 rfl ?_
  refine g_iload_n d12_least_46 rfl ?_
  refine g_iconstv (nI 0) d12_least_47 rfl ?_
  refine g_EV2 vm12_ofCar ml12_167 c_74 (r12_ofCar (c) (0) (by omega) (by omega) (Nat.le_refl 0)) (by omega) (Nat.le_of_ble_eq_true rfl) d12_least_48 ?_
  refine g_topI (nI (fr)) ((congrFun e763 _).trans q0) ?_
  refine g_imulN d12_least_51 ?_
  refine g_laldN ((13 * fr)) d12_least_52 a_95 (rfl) (by omega) (by decide) ?_
  refine g_topL (lN (dD coin per fr ti fl (fun s => mfv (cmR (I 76) (I 76 11) lf) s0 (fnR (I 76) (I 76 11) lf c fr fine) s 12) (ti + 1 - fr) 0)) (by have := hd1 (ti + 1 - fr) (Nat.le_refl _) 0 (by decide); rw [show ti + 1 - (ti + 1 - fr) = fr by omega] at this; exact this) ?_
  refine g_lstore_n d12_least_53 (by decide) ?_
  refine g_iload_n d12_least_54 rfl ?_
  refine g_iz_ne (1) 62 (by decide) d12_least_55 rfl (fun _ => ?_) (fun c55 => absurd c55 (by decide))
  refine g_iload_n d12_least_62 rfl ?_
  refine g_iconstv (nI 3) d12_least_63 rfl ?_
  refine g_ic_ne (1) (3) 78 (by decide) (by decide) d12_least_64 rfl (fun _ => ?_) (fun c64 => absurd c64 (by decide))
  refine g_aload_n d12_least_78 rfl ?_
  refine g_iload_n d12_least_79 rfl ?_
  refine g_iload_n d12_least_80 rfl ?_
  refine g_iconstv (nI 2) d12_least_81 rfl ?_
  refine g_ic_ne (1) (2) 89 (by decide) (by decide) d12_least_82 rfl (fun _ => ?_) (fun c82 => absurd c82 (by decide))
  refine g_iconstv (nI 0) d12_least_89 rfl ?_
  refine g_XV2 vm12_runCost ml12_476 c_74 (r12_runCost (I := I3) (L := L3) coin per c fr ti se fl (hC.of e763) (by rw [e763]; exact t1) t3 (by rw [e763]; exact t4) t6 false (cmR (I 76) (I 76 11) lf) (fnR (I 76) (I 76 11) lf c fr fine) (sbR (I 76) (I 76 11) lf c fr) (cmR_le _ _ lf) (fun a b => fnR_le _ _ lf c fr a b t8) (fun s a b k k1 k2 => ⟨(congrFun (hF3.1 90 (by decide) (by decide)) _).trans (hLC.1 s (by omega) k k1 k2), (congrFun (hF3.1 92 (by decide) (by decide)) _).trans ((hR s a b).1 k k1 k2).1, (congrFun (hF3.1 93 (by decide) (by decide)) _).trans ((hR s a b).1 k k1 k2).2⟩) (pt fr2 (cmR (I 76) (I 76 11) lf) s0 fr) (fun k a b => pt_le fr2 _ s0 (cmR_le _ _ lf) a b) (fun k a b => (congrFun (hF3.2.2.1 91 (by decide) (by decide)) _).trans (hLC.2 fr (by omega) k b)) (Nat.le_refl 3)) (by omega) (Nat.le_of_ble_eq_true rfl) d12_least_90 (fun z hz => ?_)
  obtain ⟨I4, L4⟩ := z
  dsimp only at hz ⊢
  exact g_lret rfl d12_least_93 (⟨(I4, L4), hF30.tr (hz.up (by decide) (by decide) (by decide) (by decide)), rfl, rfl⟩)
set_option maxHeartbeats 400000 in
theorem r12_least_2 {l : Launch} {K : cK} {d : Nat} {I : wI} {L : wL} {R : wR} {dy : cH} (lf : lawF) (ha : inF I lf) (coin per fine s0 : Nat) (hT : RT I coin per fine s0) (n : Nat) (hn : I 76 0 = nI n) (hn6 : n ≤ 6) (c fr ti se fl : Nat) (hC : CF I c fr ti se fl) (hcn : c < n) (hd : 7 ≤ d) : CX l K m12_least d [.ref 74, .int (nI c), .int (nI 2)] (hp I L R dy) (α := wI × wL) (fun x => FR [90, 92, 93, 96, 98] [0, 28, 32, 35, 36, 43, 44] [87, 88, 89, 91, 94, 95, 97, 99, 100] [33, 34, 42] I L x.1 x.2) (fun _ => .long (lN (sm (rcv (pt fr2 (cmR (I 76) (I 76 11) lf) s0 fr) (10 ^ (ti - fr + 1)) (fun k => rD coin per fr ti fl true (cmR (I 76) (I 76 11) lf) (fnR (I 76) (I 76 11) lf c fr fine) (sbR (I 76) (I 76 11) lf c fr) (ti + 1 - fr) k 0)) 12))) (fun x => hp x.1 x.2 R dy) := by
  obtain ⟨hc6, q0, q1, q2, q3, hft, ht11, hse, hfl⟩ := id hC
  refine CC.of ok12_least (Nat.le_of_ble_eq_true rfl) ?_
  refine g_aload_n d12_least_0 rfl ?_
  refine g_iconstv (nI 0) d12_least_1 rfl ?_
  refine g_putIh _ fl12_128 d12_least_2 f_74_0 s_74_0 ?_
  refine g_aload_n d12_least_5 rfl ?_
  refine g_iload_n d12_least_6 rfl ?_
  refine g_EV1 vm12_isCar ml12_158 c_74 (r12_isCarI (xi := ((c : Nat) : Int)) n (by exact hn) hn6 (nI_ti (by omega)) (Nat.le_refl 1)) (by omega) (Nat.le_of_ble_eq_true rfl) d12_least_7 ?_
  refine g_bz 25 d12_least_10 rfl (fun c10 => absurd c10 (fun q => q (by omega))) (fun _ => ?_)
  refine g_iload_n d12_least_13 rfl ?_
  refine g_i2lN (by omega) d12_least_14 ?_
  refine g_lconstv (0) d12_least_15 rfl ?_
  refine g_ldc2 d12_least_16 kl12_165 ?_
  refine g_ES3 sm12_in ml12_134 (r12_inI (vi := ((2 : Nat) : Int)) (ai := (0)) (bi := (3)) (pk_lT (by omega)) (by decide) (by decide) (Nat.le_refl 0)) (by omega) (Nat.le_of_ble_eq_true rfl) d12_least_19 ?_
  refine g_bnz 29 d12_least_22 rfl (fun _ => ?_) (fun c22 => absurd c22 (fun q => q (by omega)))
  refine g_aload_n d12_least_29 rfl ?_
  refine g_iload_n d12_least_30 rfl ?_
  refine g_WV1 vm12_layAll ml12_433 c_74 (r12_layAll (I := uI I 74 0 0) lf (by exact ha) coin per fine s0 (by exact hT) c fr ti se fl (hC.of rfl) (Nat.le_refl 6)) (by omega) (Nat.le_of_ble_eq_true rfl) d12_least_31 (fun x hx => ?_)
  obtain ⟨I2, L2⟩ := x
  obtain ⟨hF, hLC, hR⟩ := hx
  dsimp only at hF hLC hR ⊢
  obtain ⟨t1, t2, t3, t4, t5, t6, t7, t8, t9, t10, t11, t12⟩ := id hT
  have e76 : I2 76 = I 76 := hF.1 76 (by decide) (by decide)
  have hF0 : FR [90, 92, 93, 96, 98] [0, 28, 32, 35, 36, 43, 44] [87, 88, 89, 91, 94, 95, 97, 99, 100] [33, 34, 42] I L I2 L2 := (FR.rf.uf (j := 0) (by decide)).tr (hF.up (by decide) (by decide) (by decide) (by decide))
  refine g_aload_n d12_least_34 rfl ?_
  refine g_iload_n d12_least_35 rfl ?_
  refine g_WV1 vm12_findDown ml12_458 c_74 (r12_findDown (I := I2) (L := L2) coin per c fr ti se fl (hC.of e76) (by rw [e76]; exact t1) t3 (by rw [e76]; exact t4) t6 (fun s => mfv (cmR (I 76) (I 76 11) lf) s0 (fnR (I 76) (I 76 11) lf c fr fine) s 12) (fun s a b => (hR s a b).2) (fun s => mfv_le _ s0 _ (cmR_le _ _ lf) (fun a b => fnR_le _ _ lf c fr a b t8) s) (Nat.le_refl 2)) (by omega) (Nat.le_of_ble_eq_true rfl) d12_least_36 (fun y hy => ?_)
  obtain ⟨I3, L3⟩ := y
  obtain ⟨hF3, hd1, hd2⟩ := hy
  dsimp only at hF3 hd1 hd2 ⊢
  have e763 : I3 76 = I 76 := (hF3.1 76 (by decide) (by decide)).trans e76
  have hF30 : FR [90, 92, 93, 96, 98] [0, 28, 32, 35, 36, 43, 44] [87, 88, 89, 91, 94, 95, 97, 99, 100] [33, 34, 42] I L I3 L3 := hF0.tr (hF3.up (by decide) (by decide) (by decide) (by decide))
  refine g_aload_n d12_least_39 rfl ?_
  refine g_get fl12_98 d12_least_40 f_74_45 ?_
  refine g_bipushv (nI 13) d12_least_43 rfl ?_
  refine g_aload_n d12_least_45 rfl ?_
  refine g_iload_n d12_least_46 rfl ?_
  refine g_iconstv (nI 0) d12_least_47 rfl ?_
  refine g_EV2 vm12_ofCar ml12_167 c_74 (r12_ofCar (c) (0) (by omega) (by omega) (Nat.le_refl 0)) (by omega) (Nat.le_of_ble_eq_true rfl) d12_least_48 ?_
  refine g_topI (nI (fr)) ((congrFun e763 _).trans q0) ?_
  refine g_imulN d12_least_51 ?_
  refine g_laldN ((13 * fr)) d12_least_52 a_95 (rfl) (by omega) (by decide) ?_
  refine g_topL (lN (dD coin per fr ti fl (fun s => mfv (cmR (I 76) (I 76 11) lf) s0 (fnR (I 76) (I 76 11) lf c fr fine) s 12) (ti + 1 - fr) 0)) (by have := hd1 (ti + 1 - fr) (Nat.le_refl _) 0 (by decide); rw [show ti + 1 - (ti + 1 - fr) = fr by omega] at this; exact this) ?_
  refine g_lstore_n d12_least_53 (by decide) ?_
  refine g_iload_n d12_least_54 rfl ?_
  refine g_iz_ne (2) 62 (by decide) d12_least_55 rfl (fun _ => ?_) (fun c55 => absurd c55 (by decide))
  refine g_iload_n d12_least_62 rfl ?_
  refine g_iconstv (nI 3) d12_least_63 rfl ?_
  refine g_ic_ne (2) (3) 78 (by decide) (by decide) d12_least_64 rfl (fun _ => ?_) (fun c64 => absurd c64 (by decide))
  refine g_aload_n d12_least_78 rfl ?_
  refine g_iload_n d12_least_79 rfl ?_
  refine g_iload_n d12_least_80 rfl ?_
  refine g_iconstv (nI 2) d12_least_81 rfl ?_
  refine g_ic_ne (2) (2) 89 (by decide) (by decide) d12_least_82 rfl (fun c82 => absurd c82 (by decide)) (fun _ => ?_)
  refine g_iconstv (nI 1) d12_least_85 rfl ?_
  refine g_goto 90 d12_least_86 rfl ?_
  refine g_XV2 vm12_runCost ml12_476 c_74 (r12_runCost (I := I3) (L := L3) coin per c fr ti se fl (hC.of e763) (by rw [e763]; exact t1) t3 (by rw [e763]; exact t4) t6 true (cmR (I 76) (I 76 11) lf) (fnR (I 76) (I 76 11) lf c fr fine) (sbR (I 76) (I 76 11) lf c fr) (cmR_le _ _ lf) (fun a b => fnR_le _ _ lf c fr a b t8) (fun s a b k k1 k2 => ⟨(congrFun (hF3.1 90 (by decide) (by decide)) _).trans (hLC.1 s (by omega) k k1 k2), (congrFun (hF3.1 92 (by decide) (by decide)) _).trans ((hR s a b).1 k k1 k2).1, (congrFun (hF3.1 93 (by decide) (by decide)) _).trans ((hR s a b).1 k k1 k2).2⟩) (pt fr2 (cmR (I 76) (I 76 11) lf) s0 fr) (fun k a b => pt_le fr2 _ s0 (cmR_le _ _ lf) a b) (fun k a b => (congrFun (hF3.2.2.1 91 (by decide) (by decide)) _).trans (hLC.2 fr (by omega) k b)) (Nat.le_refl 3)) (by omega) (Nat.le_of_ble_eq_true rfl) d12_least_90 (fun z hz => ?_)
  obtain ⟨I4, L4⟩ := z
  dsimp only at hz ⊢
  exact g_lret rfl d12_least_93 (⟨(I4, L4), hF30.tr (hz.up (by decide) (by decide) (by decide) (by decide)), rfl, rfl⟩)
set_option maxHeartbeats 400000 in
theorem r12_least_3 {l : Launch} {K : cK} {d : Nat} {I : wI} {L : wL} {R : wR} {dy : cH} (lf : lawF) (ha : inF I lf) (coin per fine s0 : Nat) (hT : RT I coin per fine s0) (n : Nat) (hn : I 76 0 = nI n) (hn6 : n ≤ 6) (c fr ti se fl : Nat) (hC : CF I c fr ti se fl) (hcn : c < n) (hd : 7 ≤ d) : CX l K m12_least d [.ref 74, .int (nI c), .int (nI 3)] (hp I L R dy) (α := wI × wL) (fun x => FR [90, 92, 93, 96, 98] [0, 28, 32, 35, 36, 43, 44] [87, 88, 89, 91, 94, 95, 97, 99, 100] [33, 34, 42] I L x.1 x.2) (fun _ => .long (lN (dD coin per fr ti fl (fun s => mfv (cmR (I 76) (I 76 11) lf) s0 (fnR (I 76) (I 76 11) lf c fr fine) s 12) (ti + 1 - fr) 0) - lN (sm (rcv (pt fr2 (cmR (I 76) (I 76 11) lf) s0 fr) (10 ^ (ti - fr + 1)) (fun k => rD coin per fr ti fl false (cmR (I 76) (I 76 11) lf) (fnR (I 76) (I 76 11) lf c fr fine) (sbR (I 76) (I 76 11) lf c fr) (ti + 1 - fr) k 0)) 12))) (fun x => hp x.1 x.2 R dy) := by
  obtain ⟨hc6, q0, q1, q2, q3, hft, ht11, hse, hfl⟩ := id hC
  refine CC.of ok12_least (Nat.le_of_ble_eq_true rfl) ?_
  refine g_aload_n d12_least_0 rfl ?_
  refine g_iconstv (nI 0) d12_least_1 rfl ?_
  refine g_putIh _ fl12_128 d12_least_2 f_74_0 s_74_0 ?_
  refine g_aload_n d12_least_5 rfl ?_
  refine g_iload_n d12_least_6 rfl ?_
  refine g_EV1 vm12_isCar ml12_158 c_74 (r12_isCarI (xi := ((c : Nat) : Int)) n (by exact hn) hn6 (nI_ti (by omega)) (Nat.le_refl 1)) (by omega) (Nat.le_of_ble_eq_true rfl) d12_least_7 ?_
  refine g_bz 25 d12_least_10 rfl (fun c10 => absurd c10 (fun q => q (by omega))) (fun _ => ?_)
  refine g_iload_n d12_least_13 rfl ?_
  refine g_i2lN (by omega) d12_least_14 ?_
  refine g_lconstv (0) d12_least_15 rfl ?_
  refine g_ldc2 d12_least_16 kl12_165 ?_
  refine g_ES3 sm12_in ml12_134 (r12_inI (vi := ((3 : Nat) : Int)) (ai := (0)) (bi := (3)) (pk_lT (by omega)) (by decide) (by decide) (Nat.le_refl 0)) (by omega) (Nat.le_of_ble_eq_true rfl) d12_least_19 ?_
  refine g_bnz 29 d12_least_22 rfl (fun _ => ?_) (fun c22 => absurd c22 (fun q => q (by omega)))
  refine g_aload_n d12_least_29 rfl ?_
  refine g_iload_n d12_least_30 rfl ?_
  refine g_WV1 vm12_layAll ml12_433 c_74 (r12_layAll (I := uI I 74 0 0) lf (by exact ha) coin per fine s0 (by exact hT) c fr ti se fl (hC.of rfl) (Nat.le_refl 6)) (by omega) (Nat.le_of_ble_eq_true rfl) d12_least_31 (fun x hx => ?_)
  obtain ⟨I2, L2⟩ := x
  obtain ⟨hF, hLC, hR⟩ := hx
  dsimp only at hF hLC hR ⊢
  obtain ⟨t1, t2, t3, t4, t5, t6, t7, t8, t9, t10, t11, t12⟩ := id hT
  have e76 : I2 76 = I 76 := hF.1 76 (by decide) (by decide)
  have hF0 : FR [90, 92, 93, 96, 98] [0, 28, 32, 35, 36, 43, 44] [87, 88, 89, 91, 94, 95, 97, 99, 100] [33, 34, 42] I L I2 L2 := (FR.rf.uf (j := 0) (by decide)).tr (hF.up (by decide) (by decide) (by decide) (by decide))
  refine g_aload_n d12_least_34 rfl ?_
  refine g_iload_n d12_least_35 rfl ?_
  refine g_WV1 vm12_findDown ml12_458 c_74 (r12_findDown (I := I2) (L := L2) coin per c fr ti se fl (hC.of e76) (by rw [e76]; exact t1) t3 (by rw [e76]; exact t4) t6 (fun s => mfv (cmR (I 76) (I 76 11) lf) s0 (fnR (I 76) (I 76 11) lf c fr fine) s 12) (fun s a b => (hR s a b).2) (fun s => mfv_le _ s0 _ (cmR_le _ _ lf) (fun a b => fnR_le _ _ lf c fr a b t8) s) (Nat.le_refl 2)) (by omega) (Nat.le_of_ble_eq_true rfl) d12_least_36 (fun y hy => ?_)
  obtain ⟨I3, L3⟩ := y
  obtain ⟨hF3, hd1, hd2⟩ := hy
  dsimp only at hF3 hd1 hd2 ⊢
  have e763 : I3 76 = I 76 := (hF3.1 76 (by decide) (by decide)).trans e76
  have hF30 : FR [90, 92, 93, 96, 98] [0, 28, 32, 35, 36, 43, 44] [87, 88, 89, 91, 94, 95, 97, 99, 100] [33, 34, 42] I L I3 L3 := hF0.tr (hF3.up (by decide) (by decide) (by decide) (by decide))
  refine g_aload_n d12_least_39 rfl ?_
  refine g_get fl12_98 d12_least_40 f_74_45 ?_
  refine g_bipushv (nI 13) d12_least_43 rfl ?_
  refine g_aload_n d12_least_45 rfl ?_
  refine g_iload_n d12_least_46 rfl ?_
  refine g_iconstv (nI 0) d12_least_47 rfl ?_
  refine g_EV2 vm12_ofCar ml12_167 c_74 (r12_ofCar (c) (0) (by omega) (by omega) (Nat.le_refl 0)) (by omega) (Nat.le_of_ble_eq_true rfl) d12_least_48 ?_
  refine g_topI (nI (fr)) ((congrFun e763 _).trans q0) ?_
  refine g_imulN d12_least_51 ?_
  refine g_laldN ((13 * fr)) d12_least_52 a_95 (rfl) (by omega) (by decide) ?_
  refine g_topL (lN (dD coin per fr ti fl (fun s => mfv (cmR (I 76) (I 76 11) lf) s0 (fnR (I 76) (I 76 11) lf c fr fine) s 12) (ti + 1 - fr) 0)) (by have := hd1 (ti + 1 - fr) (Nat.le_refl _) 0 (by decide); rw [show ti + 1 - (ti + 1 - fr) = fr by omega] at this; exact this) ?_
  refine g_lstore_n d12_least_53 (by decide) ?_
  refine g_iload_n d12_least_54 rfl ?_
  refine g_iz_ne (3) 62 (by decide) d12_least_55 rfl (fun _ => ?_) (fun c55 => absurd c55 (by decide))
  refine g_iload_n d12_least_62 rfl ?_
  refine g_iconstv (nI 3) d12_least_63 rfl ?_
  refine g_ic_ne (3) (3) 78 (by decide) (by decide) d12_least_64 rfl (fun c64 => absurd c64 (by decide)) (fun _ => ?_)
  refine g_lload_n d12_least_67 rfl ?_
  refine g_aload_n d12_least_68 rfl ?_
  refine g_iload_n d12_least_69 rfl ?_
  refine g_iconstv (nI 0) d12_least_70 rfl ?_
  refine g_XV2 vm12_runCost ml12_476 c_74 (r12_runCost (I := I3) (L := L3) coin per c fr ti se fl (hC.of e763) (by rw [e763]; exact t1) t3 (by rw [e763]; exact t4) t6 false (cmR (I 76) (I 76 11) lf) (fnR (I 76) (I 76 11) lf c fr fine) (sbR (I 76) (I 76 11) lf c fr) (cmR_le _ _ lf) (fun a b => fnR_le _ _ lf c fr a b t8) (fun s a b k k1 k2 => ⟨(congrFun (hF3.1 90 (by decide) (by decide)) _).trans (hLC.1 s (by omega) k k1 k2), (congrFun (hF3.1 92 (by decide) (by decide)) _).trans ((hR s a b).1 k k1 k2).1, (congrFun (hF3.1 93 (by decide) (by decide)) _).trans ((hR s a b).1 k k1 k2).2⟩) (pt fr2 (cmR (I 76) (I 76 11) lf) s0 fr) (fun k a b => pt_le fr2 _ s0 (cmR_le _ _ lf) a b) (fun k a b => (congrFun (hF3.2.2.1 91 (by decide) (by decide)) _).trans (hLC.2 fr (by omega) k b)) (Nat.le_refl 3)) (by omega) (Nat.le_of_ble_eq_true rfl) d12_least_71 (fun z hz => ?_)
  obtain ⟨I4, L4⟩ := z
  dsimp only at hz ⊢
  refine g_lsub d12_least_74 ?_
  refine g_goto 93 d12_least_75 rfl ?_
  exact g_lret rfl d12_least_93 (⟨(I4, L4), hF30.tr (hz.up (by decide) (by decide) (by decide) (by decide)), rfl, rfl⟩)
set_option maxHeartbeats 200000 in
theorem r12_run_no1 {l : Launch} {K : cK} {d : Nat} {I : wI} {L : wL} {R : wR} {dy : cH} (n : Nat) (hn : I 76 0 = nI n) (hn6 : n ≤ 6) (x s k q : Int32) (hbad : ¬ (0 ≤ x.toInt ∧ x.toInt < n)) (hd : 2 ≤ d) : CE l K m12_run d [.ref 74, .int x, .int s, .int k, .int q] (hp I L R dy) (.int (-1)) (hp (uI I 74 0 0) L R dy) := by
  refine CC.of ok12_run (Nat.le_of_ble_eq_true rfl) ?_
  refine g_aload_n d12_run_0 rfl ?_
  refine g_iconstv (nI 0) d12_run_1 rfl ?_
  refine g_putIh _ fl12_128 d12_run_2 f_74_0 s_74_0 ?_
  refine g_aload_n d12_run_5 rfl ?_
  refine g_iload_n d12_run_6 rfl ?_
  refine g_EV1 vm12_isCar ml12_158 c_74 (r12_isCarI  n (by exact hn) hn6 (rfl) (Nat.le_refl 1)) (by omega) (Nat.le_of_ble_eq_true rfl) d12_run_7 ?_
  refine g_bz 60 d12_run_10 rfl (fun c10 => ?_) (fun c10 => ?_)
  · refine g_iconstv ((-1 : Int32)) d12_run_60 rfl ?_
    exact g_iret rfl d12_run_61 (⟨rfl, rfl⟩)
  · exact absurd c10 hbad
set_option maxHeartbeats 200000 in
theorem r12_run_no2 {l : Launch} {K : cK} {d : Nat} {I : wI} {L : wL} {R : wR} {dy : cH} (n : Nat) (hn : I 76 0 = nI n) (hn6 : n ≤ 6) (c fr ti se fl : Nat) (hC : CF I c fr ti se fl) (hcn : c < n) (s k q : Int32) (hbad : ¬ ((fr : Int) ≤ s.toInt ∧ s.toInt ≤ ti ∧ 1 ≤ k.toInt ∧ k.toInt ≤ 12 ∧ 0 ≤ q.toInt ∧ q.toInt ≤ 12)) (hd : 2 ≤ d) : CE l K m12_run d [.ref 74, .int (nI c), .int s, .int k, .int q] (hp I L R dy) (.int (-1)) (hp (uI I 74 0 0) L R dy) := by
  obtain ⟨hc6, q0, q1, q2, q3, hft, ht11, hse, hfl⟩ := id hC
  refine CC.of ok12_run (Nat.le_of_ble_eq_true rfl) ?_
  refine g_aload_n d12_run_0 rfl ?_
  refine g_iconstv (nI 0) d12_run_1 rfl ?_
  refine g_putIh _ fl12_128 d12_run_2 f_74_0 s_74_0 ?_
  refine g_aload_n d12_run_5 rfl ?_
  refine g_iload_n d12_run_6 rfl ?_
  refine g_EV1 vm12_isCar ml12_158 c_74 (r12_isCarI (xi := ((c : Nat) : Int)) n (by exact hn) hn6 (nI_ti (by omega)) (Nat.le_refl 1)) (by omega) (Nat.le_of_ble_eq_true rfl) d12_run_7 ?_
  refine g_bz 60 d12_run_10 rfl (fun c10 => absurd c10 (fun q => q (by omega))) (fun _ => ?_)
  refine g_iload_n d12_run_13 rfl ?_
  refine g_i2l d12_run_14 ?_
  refine g_aload_n d12_run_15 rfl ?_
  refine g_iload_n d12_run_16 rfl ?_
  refine g_iconstv (nI 0) d12_run_17 rfl ?_
  refine g_EV2 vm12_ofCar ml12_167 c_74 (r12_ofCar (c) (0) (by omega) (by omega) (Nat.le_refl 0)) (by omega) (Nat.le_of_ble_eq_true rfl) d12_run_18 ?_
  refine g_topI (nI (fr)) (q0) ?_
  refine g_i2lN (by omega) d12_run_21 ?_
  refine g_aload_n d12_run_22 rfl ?_
  refine g_iload_n d12_run_23 rfl ?_
  refine g_iconstv (nI 1) d12_run_24 rfl ?_
  refine g_EV2 vm12_ofCar ml12_167 c_74 (r12_ofCar (c) (1) (by omega) (by omega) (Nat.le_refl 0)) (by omega) (Nat.le_of_ble_eq_true rfl) d12_run_25 ?_
  refine g_topI (nI (ti)) (q1) ?_
  refine g_i2lN (by omega) d12_run_28 ?_
  refine g_ES3 sm12_in ml12_134 (r12_inI (ai := ((fr : Nat) : Int)) (bi := ((ti : Nat) : Int)) (i2l_int _) (pk_lT (by omega)) (pk_lT (by omega)) (Nat.le_refl 0)) (by omega) (Nat.le_of_ble_eq_true rfl) d12_run_29 ?_
  refine g_bz 60 d12_run_32 rfl (fun c32 => ?_) (fun c32 => ?_)
  · refine g_iconstv ((-1 : Int32)) d12_run_60 rfl ?_
    exact g_iret rfl d12_run_61 (⟨rfl, rfl⟩)
  · refine g_iload_n d12_run_35 rfl ?_
    refine g_i2l d12_run_36 ?_
    refine g_lconstv (1) d12_run_37 rfl ?_
    refine g_ldc2 d12_run_38 kl12_174 ?_
    refine g_ES3 sm12_in ml12_134 (r12_inI (ai := (1)) (bi := (12)) (i2l_int _) (by decide) (by decide) (Nat.le_refl 0)) (by omega) (Nat.le_of_ble_eq_true rfl) d12_run_41 ?_
    refine g_bz 60 d12_run_44 rfl (fun c44 => ?_) (fun c44 => ?_)
    · refine g_iconstv ((-1 : Int32)) d12_run_60 rfl ?_
      exact g_iret rfl d12_run_61 (⟨rfl, rfl⟩)
    · refine g_iload d12_run_47 rfl ?_
      refine g_i2l d12_run_49 ?_
      refine g_lconstv (0) d12_run_50 rfl ?_
      refine g_ldc2 d12_run_51 kl12_174 ?_
      refine g_ES3 sm12_in ml12_134 (r12_inI (ai := (0)) (bi := (12)) (i2l_int _) (by decide) (by decide) (Nat.le_refl 0)) (by omega) (Nat.le_of_ble_eq_true rfl) d12_run_54 ?_
      refine g_bnz 62 d12_run_57 rfl (fun c57 => ?_) (fun c57 => ?_)
      · exact absurd ⟨c32.1, c32.2, c44.1, c44.2, c57.1, c57.2⟩ hbad
      · refine g_iconstv ((-1 : Int32)) d12_run_60 rfl ?_
        exact g_iret rfl d12_run_61 (⟨rfl, rfl⟩)
set_option maxHeartbeats 400000 in
theorem r12_run_ok {l : Launch} {K : cK} {d : Nat} {I : wI} {L : wL} {R : wR} {dy : cH} (lf : lawF) (ha : inF I lf) (coin per fine s0 : Nat) (hT : RT I coin per fine s0) (n : Nat) (hn : I 76 0 = nI n) (hn6 : n ≤ 6) (c fr ti se fl : Nat) (hC : CF I c fr ti se fl) (hcn : c < n) (s k q : Nat) (hs1 : fr ≤ s) (hs2 : s ≤ ti) (hk1 : 1 ≤ k) (hk2 : k ≤ 12) (hq : q ≤ 12) (hd : 7 ≤ d) : CX l K m12_run d [.ref 74, .int (nI c), .int (nI s), .int (nI k), .int (nI q)] (hp I L R dy) (α := wI × wL) (fun x => FR [90, 92, 93, 96, 98] [0, 28, 32, 35, 36, 43, 44] [87, 88, 89, 91, 94, 95, 97, 99, 100] [33, 34, 42] I L x.1 x.2) (fun _ => .int (nI (rB2 coin per fr ti fl false (cmR (I 76) (I 76 11) lf) (fnR (I 76) (I 76 11) lf c fr fine) (sbR (I 76) (I 76 11) lf c fr) (ti - s) k q))) (fun x => hp x.1 x.2 R dy) := by
  obtain ⟨hc6, q0, q1, q2, q3, hft, ht11, hse, hfl⟩ := id hC
  refine CC.of ok12_run (Nat.le_of_ble_eq_true rfl) ?_
  refine g_aload_n d12_run_0 rfl ?_
  refine g_iconstv (nI 0) d12_run_1 rfl ?_
  refine g_putIh _ fl12_128 d12_run_2 f_74_0 s_74_0 ?_
  refine g_aload_n d12_run_5 rfl ?_
  refine g_iload_n d12_run_6 rfl ?_
  refine g_EV1 vm12_isCar ml12_158 c_74 (r12_isCarI (xi := ((c : Nat) : Int)) n (by exact hn) hn6 (nI_ti (by omega)) (Nat.le_refl 1)) (by omega) (Nat.le_of_ble_eq_true rfl) d12_run_7 ?_
  refine g_bz 60 d12_run_10 rfl (fun c10 => absurd c10 (fun q => q (by omega))) (fun _ => ?_)
  refine g_iload_n d12_run_13 rfl ?_
  refine g_i2lN (by omega) d12_run_14 ?_
  refine g_aload_n d12_run_15 rfl ?_
  refine g_iload_n d12_run_16 rfl ?_
  refine g_iconstv (nI 0) d12_run_17 rfl ?_
  refine g_EV2 vm12_ofCar ml12_167 c_74 (r12_ofCar (c) (0) (by omega) (by omega) (Nat.le_refl 0)) (by omega) (Nat.le_of_ble_eq_true rfl) d12_run_18 ?_
  refine g_topI (nI (fr)) (q0) ?_
  refine g_i2lN (by omega) d12_run_21 ?_
  refine g_aload_n d12_run_22 rfl ?_
  refine g_iload_n d12_run_23 rfl ?_
  refine g_iconstv (nI 1) d12_run_24 rfl ?_
  refine g_EV2 vm12_ofCar ml12_167 c_74 (r12_ofCar (c) (1) (by omega) (by omega) (Nat.le_refl 0)) (by omega) (Nat.le_of_ble_eq_true rfl) d12_run_25 ?_
  refine g_topI (nI (ti)) (q1) ?_
  refine g_i2lN (by omega) d12_run_28 ?_
  refine g_ES3 sm12_in ml12_134 (r12_inI (vi := ((s : Nat) : Int)) (ai := ((fr : Nat) : Int)) (bi := ((ti : Nat) : Int)) (pk_lT (by omega)) (pk_lT (by omega)) (pk_lT (by omega)) (Nat.le_refl 0)) (by omega) (Nat.le_of_ble_eq_true rfl) d12_run_29 ?_
  refine g_bz 60 d12_run_32 rfl (fun c32 => absurd c32 (fun q => q (by omega))) (fun _ => ?_)
  refine g_iload_n d12_run_35 rfl ?_
  refine g_i2lN (by omega) d12_run_36 ?_
  refine g_lconstv (1) d12_run_37 rfl ?_
  refine g_ldc2 d12_run_38 kl12_174 ?_
  refine g_ES3 sm12_in ml12_134 (r12_inI (vi := ((k : Nat) : Int)) (ai := (1)) (bi := (12)) (pk_lT (by omega)) (by decide) (by decide) (Nat.le_refl 0)) (by omega) (Nat.le_of_ble_eq_true rfl) d12_run_41 ?_
  refine g_bz 60 d12_run_44 rfl (fun c44 => absurd c44 (fun q => q (by omega))) (fun _ => ?_)
  refine g_iload d12_run_47 rfl ?_
  refine g_i2lN (by omega) d12_run_49 ?_
  refine g_lconstv (0) d12_run_50 rfl ?_
  refine g_ldc2 d12_run_51 kl12_174 ?_
  refine g_ES3 sm12_in ml12_134 (r12_inI (vi := ((q : Nat) : Int)) (ai := (0)) (bi := (12)) (pk_lT (by omega)) (by decide) (by decide) (Nat.le_refl 0)) (by omega) (Nat.le_of_ble_eq_true rfl) d12_run_54 ?_
  refine g_bnz 62 d12_run_57 rfl (fun _ => ?_) (fun c57 => absurd c57 (fun q => q (by omega)))
  refine g_aload_n d12_run_62 rfl ?_
  refine g_iload_n d12_run_63 rfl ?_
  refine g_WV1 vm12_layAll ml12_433 c_74 (r12_layAll (I := uI I 74 0 0) lf (by exact ha) coin per fine s0 (by exact hT) c fr ti se fl (hC.of rfl) (Nat.le_refl 6)) (by omega) (Nat.le_of_ble_eq_true rfl) d12_run_64 (fun x hx => ?_)
  obtain ⟨I2, L2⟩ := x
  obtain ⟨hF, hLC, hR⟩ := hx
  dsimp only at hF hLC hR ⊢
  obtain ⟨t1, t2, t3, t4, t5, t6, t7, t8, t9, t10, t11, t12⟩ := id hT
  have e76 : I2 76 = I 76 := hF.1 76 (by decide) (by decide)
  have hF0 : FR [90, 92, 93, 96, 98] [0, 28, 32, 35, 36, 43, 44] [87, 88, 89, 91, 94, 95, 97, 99, 100] [33, 34, 42] I L I2 L2 := (FR.rf.uf (j := 0) (by decide)).tr (hF.up (by decide) (by decide) (by decide) (by decide))
  refine g_aload_n d12_run_67 rfl ?_
  refine g_iload_n d12_run_68 rfl ?_
  refine g_iconstv (nI 0) d12_run_69 rfl ?_
  refine g_WV2 vm12_findRun ml12_472 c_74 (r12_findRun (I := I2) (L := L2) coin per c fr ti se fl (hC.of e76) (by rw [e76]; exact t1) t3 (by rw [e76]; exact t4) t6 false (cmR (I 76) (I 76 11) lf) (fnR (I 76) (I 76 11) lf c fr fine) (sbR (I 76) (I 76 11) lf c fr) (cmR_le _ _ lf) (fun a b => fnR_le _ _ lf c fr a b t8) (fun s a b k k1 k2 => ⟨hLC.1 s (by omega) k k1 k2, ((hR s a b).1 k k1 k2).1, ((hR s a b).1 k k1 k2).2⟩) (Nat.le_refl 2)) (by omega) (Nat.le_of_ble_eq_true rfl) d12_run_70 (fun y hy => ?_)
  obtain ⟨I3, L3⟩ := y
  obtain ⟨hF3, hd1, hd2⟩ := hy
  dsimp only at hF3 hd1 hd2 ⊢
  have e763 : I3 76 = I 76 := (hF3.1 76 (by decide) (by decide)).trans e76
  have hF30 : FR [90, 92, 93, 96, 98] [0, 28, 32, 35, 36, 43, 44] [87, 88, 89, 91, 94, 95, 97, 99, 100] [33, 34, 42] I L I3 L3 := hF0.tr (hF3.up (by decide) (by decide) (by decide) (by decide))
  refine g_aload_n d12_run_73 rfl ?_
  refine g_get fl12_107 d12_run_74 f_74_48 ?_
  refine g_iload_n d12_run_77 rfl ?_
  refine g_iload_n d12_run_78 rfl ?_
  refine g_iload d12_run_79 rfl ?_
  refine g_ES3 sm12_runAt ml12_461 (r12_runAt (s) (k) (q) (Nat.le_refl 0)) (by omega) (Nat.le_of_ble_eq_true rfl) d12_run_81 ?_
  refine g_ialdN ((169 * s + 13 * k + q)) d12_run_84 a_98 (rfl) (by omega) (by decide) ?_
  refine g_topI (nI (rB2 coin per fr ti fl false (cmR (I 76) (I 76 11) lf) (fnR (I 76) (I 76 11) lf c fr fine) (sbR (I 76) (I 76 11) lf c fr) (ti - s) k q)) (by have := hd2 (ti - s) (by omega) k q hk1 hk2 hq; rw [show ti - (ti - s) = s by omega] at this; exact this) ?_
  exact g_iret rfl d12_run_85 (⟨(I3, L3), hF30, rfl, rfl⟩)
/-- what is left as slot fr + m begins, if one goes by downCoins -/
def dL (per : Nat) (B : Nat → Nat → Nat) (w : Nat) : Nat → Nat
  | 0 => 0
  | j + 1 => les (pdb per (dL per B w j) (B (w - j) (dL per B w j)))
theorem dL_le (per : Nat) (B : Nat → Nat → Nat) (w j : Nat) : dL per B w j ≤ 12 := by
  cases j with
  | zero => exact Nat.zero_le _
  | succ j => show les (pdb _ _ _) ≤ 12; unfold les pdb; omega
set_option maxHeartbeats 200000 in
theorem r12_down_no1 {l : Launch} {K : cK} {d : Nat} {I : wI} {L : wL} {R : wR} {dy : cH} (n : Nat) (hn : I 76 0 = nI n) (hn6 : n ≤ 6) (x s : Int32) (hbad : ¬ (0 ≤ x.toInt ∧ x.toInt < n)) (hd : 2 ≤ d) : CE l K m12_down d [.ref 74, .int x, .int s] (hp I L R dy) (.int (-1)) (hp (uI I 74 0 0) L R dy) := by
  refine CC.of ok12_down (Nat.le_of_ble_eq_true rfl) ?_
  refine g_aload_n d12_down_0 rfl ?_
  refine g_iconstv (nI 0) d12_down_1 rfl ?_
  refine g_putIh _ fl12_128 d12_down_2 f_74_0 s_74_0 ?_
  refine g_aload_n d12_down_5 rfl ?_
  refine g_iload_n d12_down_6 rfl ?_
  refine g_EV1 vm12_isCar ml12_158 c_74 (r12_isCarI  n (by exact hn) hn6 (rfl) (Nat.le_refl 1)) (by omega) (Nat.le_of_ble_eq_true rfl) d12_down_7 ?_
  refine g_bz 37 d12_down_10 rfl (fun c10 => ?_) (fun c10 => ?_)
  · refine g_iconstv ((-1 : Int32)) d12_down_37 rfl ?_
    exact g_iret rfl d12_down_38 (⟨rfl, rfl⟩)
  · exact absurd c10 hbad
set_option maxHeartbeats 200000 in
theorem r12_down_no2 {l : Launch} {K : cK} {d : Nat} {I : wI} {L : wL} {R : wR} {dy : cH} (n : Nat) (hn : I 76 0 = nI n) (hn6 : n ≤ 6) (c fr ti se fl : Nat) (hC : CF I c fr ti se fl) (hcn : c < n) (s : Int32) (hbad : ¬ (0 ≤ s.toInt ∧ s.toInt ≤ (ti : Int) - fr)) (hd : 2 ≤ d) : CE l K m12_down d [.ref 74, .int (nI c), .int s] (hp I L R dy) (.int (-1)) (hp (uI I 74 0 0) L R dy) := by
  obtain ⟨hc6, q0, q1, q2, q3, hft, ht11, hse, hfl⟩ := id hC
  refine CC.of ok12_down (Nat.le_of_ble_eq_true rfl) ?_
  refine g_aload_n d12_down_0 rfl ?_
  refine g_iconstv (nI 0) d12_down_1 rfl ?_
  refine g_putIh _ fl12_128 d12_down_2 f_74_0 s_74_0 ?_
  refine g_aload_n d12_down_5 rfl ?_
  refine g_iload_n d12_down_6 rfl ?_
  refine g_EV1 vm12_isCar ml12_158 c_74 (r12_isCarI (xi := ((c : Nat) : Int)) n (by exact hn) hn6 (nI_ti (by omega)) (Nat.le_refl 1)) (by omega) (Nat.le_of_ble_eq_true rfl) d12_down_7 ?_
  refine g_bz 37 d12_down_10 rfl (fun c10 => absurd c10 (fun q => q (by omega))) (fun _ => ?_)
  refine g_iload_n d12_down_13 rfl ?_
  refine g_i2l d12_down_14 ?_
  refine g_lconstv (0) d12_down_15 rfl ?_
  refine g_aload_n d12_down_16 rfl ?_
  refine g_iload_n d12_down_17 rfl ?_
  refine g_iconstv (nI 1) d12_down_18 rfl ?_
  refine g_EV2 vm12_ofCar ml12_167 c_74 (r12_ofCar (c) (1) (by omega) (by omega) (Nat.le_refl 0)) (by omega) (Nat.le_of_ble_eq_true rfl) d12_down_19 ?_
  refine g_topI (nI (ti)) (q1) ?_
  refine g_i2lN (by omega) d12_down_22 ?_
  refine g_aload_n d12_down_23 rfl ?_
  refine g_iload_n d12_down_24 rfl ?_
  refine g_iconstv (nI 0) d12_down_25 rfl ?_
  refine g_EV2 vm12_ofCar ml12_167 c_74 (r12_ofCar (c) (0) (by omega) (by omega) (Nat.le_refl 0)) (by omega) (Nat.le_of_ble_eq_true rfl) d12_down_26 ?_
  refine g_topI (nI (fr)) (q0) ?_
  refine g_i2lN (by omega) d12_down_29 ?_
  refine g_lsub d12_down_30 ?_
  refine g_topL (lN (ti - fr)) (lN_sub hft) ?_
  refine g_ES3 sm12_in ml12_134 (r12_inI (ai := (0)) (bi := ((ti - fr : Nat) : Int)) (i2l_int _) (by decide) (pk_lT (by omega)) (Nat.le_refl 0)) (by omega) (Nat.le_of_ble_eq_true rfl) d12_down_31 ?_
  refine g_bnz 39 d12_down_34 rfl (fun c34 => ?_) (fun c34 => ?_)
  · exact absurd ⟨c34.1, by omega⟩ hbad
  · refine g_iconstv ((-1 : Int32)) d12_down_37 rfl ?_
    exact g_iret rfl d12_down_38 (⟨rfl, rfl⟩)
def dI (per : Nat) (B : Nat → Nat → Nat) (w : Nat) : Nat → Nat
  | 0 => 0
  | j + 1 => B (w - j) (dL per B w j)
set_option maxHeartbeats 400000 in
theorem r12_downL {l : Launch} {K : cK} {d : Nat} {I : wI} {L : wL} {R : wR} {dy : cH} {Q : Option Value → cH → Prop} (per coin c fr ti se fl i : Nat) (hC : CF I c fr ti se fl) (hpe : I 76 7 = nI per) (hp4 : per ≤ 4) (hi : fr + i ≤ ti) (mf : Nat → Nat) (hD : ∀ m2, m2 < ti + 1 - fr → ∀ q, q ≤ 12 → I 96 (13 * (ti - m2) + q) = nI (dB coin per fr ti fl mf m2 q)) (hd : 2 ≤ d)
    (kk : (fr ≤ (fr + i + 1)) → GL l K m12_down d 0 0 106 [(0, .ref 74), (1, .int (nI (c))), (2, .int (nI (i))), (3, .int (nI ((dL per (dB coin per fr ti fl mf) (ti - fr) ((fr + i + 1) - fr))))), (4, .int (nI ((dI per (dB coin per fr ti fl mf) (ti - fr) ((fr + i + 1) - fr)))))] [] (hp I L R dy) Q) :
    ∀ (n s : Nat) , s + n = (fr + i + 1) → (fr ≤ s) → GL l K m12_down d 0 0 62 [(0, .ref 74), (1, .int (nI (c))), (2, .int (nI (i))), (3, .int (nI ((dL per (dB coin per fr ti fl mf) (ti - fr) (s - fr))))), (4, .int (nI ((dI per (dB coin per fr ti fl mf) (ti - fr) (s - fr))))), (5, .int (nI (s)))] [] (hp I L R dy) Q := by
  obtain ⟨hc6, q0, q1, q2, q3, hft, ht11, hse, hfl⟩ := id hC
  intro n
  induction n with
  | zero =>
    intro s  hin hfs
    obtain rfl : s = (fr + i + 1) := by omega
    refine g_iload d12_down_62 rfl ?_
    refine g_aload_n d12_down_64 rfl ?_
    refine g_iload_n d12_down_65 rfl ?_
    refine g_iconstv (nI 0) d12_down_66 rfl ?_
    refine g_EV2 vm12_ofCar ml12_167 c_74 (r12_ofCar (c) (0) (by omega) (by omega) (Nat.le_refl 0)) (by omega) (Nat.le_of_ble_eq_true rfl) d12_down_67 ?_
    refine g_topI (nI (fr)) (q0) ?_
    refine g_iload_n d12_down_70 rfl ?_
    refine g_iaddN d12_down_71 ?_
    refine g_ic_gt (((fr + i + 1) : Nat) : Int) (((fr + i) : Nat) : Int) 106 (nI_ti (by omega)) (nI_ti (by omega)) d12_down_72 rfl (fun _ => ?_) (fun c72 => absurd c72 (by omega))
    refine g_lo [(0, .ref 74), (1, .int (nI (c))), (2, .int (nI (i))), (3, .int (nI ((dL per (dB coin per fr ti fl mf) (ti - fr) ((fr + i + 1) - fr))))), (4, .int (nI ((dI per (dB coin per fr ti fl mf) (ti - fr) ((fr + i + 1) - fr)))))] ⟨rfl, rfl, rfl, rfl, rfl, trivial⟩ ?_
    exact kk  hfs
  | succ n ih =>
    intro s  hin hfs
    have hb12 : (dI per (dB coin per fr ti fl mf) (ti - fr) (s + 1 - fr)) ≤ 12 := by rw [show s + 1 - fr = (s - fr) + 1 by omega]; exact (fa_le _ 12).2.1
    have hdl := dL_le per (dB coin per fr ti fl mf) (ti - fr) (s - fr)
    have hpb : pdb per (dL per (dB coin per fr ti fl mf) (ti - fr) (s - fr)) (dI per (dB coin per fr ti fl mf) (ti - fr) (s + 1 - fr)) ≤ 12 := by unfold pdb; omega
    refine g_iload d12_down_62 rfl ?_
    refine g_aload_n d12_down_64 rfl ?_
    refine g_iload_n d12_down_65 rfl ?_
    refine g_iconstv (nI 0) d12_down_66 rfl ?_
    refine g_EV2 vm12_ofCar ml12_167 c_74 (r12_ofCar (c) (0) (by omega) (by omega) (Nat.le_refl 0)) (by omega) (Nat.le_of_ble_eq_true rfl) d12_down_67 ?_
    refine g_topI (nI (fr)) (q0) ?_
    refine g_iload_n d12_down_70 rfl ?_
    refine g_iaddN d12_down_71 ?_
    refine g_ic_gt ((s : Nat) : Int) (((fr + i) : Nat) : Int) 106 (nI_ti (by omega)) (nI_ti (by omega)) d12_down_72 rfl (fun c72 => absurd c72 (by omega)) (fun _ => ?_)
    refine g_aload_n d12_down_75 rfl ?_
    refine g_get fl12_101 d12_down_76 f_74_46 ?_
    refine g_bipushv (nI 13) d12_down_79 rfl ?_
    refine g_iload d12_down_81 rfl ?_
    refine g_imulN d12_down_83 ?_
    refine g_iload_n d12_down_84 rfl ?_
    refine g_iaddN d12_down_85 ?_
    refine g_ialdN (((13 * s) + (dL per (dB coin per fr ti fl mf) (ti - fr) (s - fr)))) d12_down_86 a_96 (rfl) (by omega) (by decide) ?_
    refine g_topI (nI ((dI per (dB coin per fr ti fl mf) (ti - fr) (s + 1 - fr)))) (by have := hD (ti - s) (by omega) _ (dL_le per (dB coin per fr ti fl mf) (ti - fr) (s - fr)); rw [show ti - (ti - s) = s by omega] at this; rw [this, show s + 1 - fr = (s - fr) + 1 by omega]; show nI _ = nI (dB coin per fr ti fl mf (ti - fr - (s - fr)) _); rw [show ti - fr - (s - fr) = ti - s by omega]) ?_
    refine g_istore d12_down_87 (by decide) ?_
    refine g_aload_n d12_down_89 rfl ?_
    refine g_iload_n d12_down_90 rfl ?_
    refine g_iload d12_down_91 rfl ?_
    refine g_EV2 vm12_paidBy ml12_424 c_74 (r12_paidBy per (dL per (dB coin per fr ti fl mf) (ti - fr) (s - fr)) (dI per (dB coin per fr ti fl mf) (ti - fr) (s + 1 - fr)) hpe hp4 (dL_le _ _ _ _) hb12 (Nat.le_refl 1)) (by omega) (Nat.le_of_ble_eq_true rfl) d12_down_93 ?_
    refine g_ES1 sm12_less ml12_427 (r12_less ((pdb per (dL per (dB coin per fr ti fl mf) (ti - fr) (s - fr)) (dI per (dB coin per fr ti fl mf) (ti - fr) (s + 1 - fr)))) (by omega) (Nat.le_refl 0)) (by omega) (Nat.le_of_ble_eq_true rfl) d12_down_96 ?_
    refine g_topI (nI ((dL per (dB coin per fr ti fl mf) (ti - fr) (s + 1 - fr)))) (by rw [show s + 1 - fr = (s - fr) + 1 by omega]; rfl) ?_
    refine g_istore_n d12_down_99 (by decide) ?_
    refine g_iincN d12_down_100 rfl (by decide) ?_
    refine g_goto 62 d12_down_103 rfl ?_
    refine g_lo [(0, .ref 74), (1, .int (nI (c))), (2, .int (nI (i))), (3, .int (nI ((dL per (dB coin per fr ti fl mf) (ti - fr) (s + 1 - fr))))), (4, .int (nI ((dI per (dB coin per fr ti fl mf) (ti - fr) (s + 1 - fr))))), (5, .int (nI (s + 1)))] ⟨rfl, rfl, rfl, rfl, rfl, rfl, trivial⟩ ?_
    exact ih (s + 1) (by omega) (by omega)
set_option maxHeartbeats 400000 in
theorem r12_down_ok {l : Launch} {K : cK} {d : Nat} {I : wI} {L : wL} {R : wR} {dy : cH} (lf : lawF) (ha : inF I lf) (coin per fine s0 : Nat) (hT : RT I coin per fine s0) (n : Nat) (hn : I 76 0 = nI n) (hn6 : n ≤ 6) (c fr ti se fl : Nat) (hC : CF I c fr ti se fl) (hcn : c < n) (i : Nat) (hi : fr + i ≤ ti) (hd : 7 ≤ d) : CX l K m12_down d [.ref 74, .int (nI c), .int (nI i)] (hp I L R dy) (α := wI × wL) (fun x => FR [90, 92, 93, 96, 98] [0, 28, 32, 35, 36, 43, 44] [87, 88, 89, 91, 94, 95, 97, 99, 100] [33, 34, 42] I L x.1 x.2) (fun _ => .int (nI (dI per (dB coin per fr ti fl (fun s => mfv (cmR (I 76) (I 76 11) lf) s0 (fnR (I 76) (I 76 11) lf c fr fine) s 12)) (ti - fr) (i + 1)))) (fun x => hp x.1 x.2 R dy) := by
  obtain ⟨hc6, q0, q1, q2, q3, hft, ht11, hse, hfl⟩ := id hC
  refine CC.of ok12_down (Nat.le_of_ble_eq_true rfl) ?_
  refine g_aload_n d12_down_0 rfl ?_
  refine g_iconstv (nI 0) d12_down_1 rfl ?_
  refine g_putIh _ fl12_128 d12_down_2 f_74_0 s_74_0 ?_
  refine g_aload_n d12_down_5 rfl ?_
  refine g_iload_n d12_down_6 rfl ?_
  refine g_EV1 vm12_isCar ml12_158 c_74 (r12_isCarI (xi := ((c : Nat) : Int)) n (by exact hn) hn6 (nI_ti (by omega)) (Nat.le_refl 1)) (by omega) (Nat.le_of_ble_eq_true rfl) d12_down_7 ?_
  refine g_bz 37 d12_down_10 rfl (fun c10 => absurd c10 (fun q => q (by omega))) (fun _ => ?_)
  refine g_iload_n d12_down_13 rfl ?_
  refine g_i2lN (by omega) d12_down_14 ?_
  refine g_lconstv (0) d12_down_15 rfl ?_
  refine g_aload_n d12_down_16 rfl ?_
  refine g_iload_n d12_down_17 rfl ?_
  refine g_iconstv (nI 1) d12_down_18 rfl ?_
  refine g_EV2 vm12_ofCar ml12_167 c_74 (r12_ofCar (c) (1) (by omega) (by omega) (Nat.le_refl 0)) (by omega) (Nat.le_of_ble_eq_true rfl) d12_down_19 ?_
  refine g_topI (nI (ti)) (q1) ?_
  refine g_i2lN (by omega) d12_down_22 ?_
  refine g_aload_n d12_down_23 rfl ?_
  refine g_iload_n d12_down_24 rfl ?_
  refine g_iconstv (nI 0) d12_down_25 rfl ?_
  refine g_EV2 vm12_ofCar ml12_167 c_74 (r12_ofCar (c) (0) (by omega) (by omega) (Nat.le_refl 0)) (by omega) (Nat.le_of_ble_eq_true rfl) d12_down_26 ?_
  refine g_topI (nI (fr)) (q0) ?_
  refine g_i2lN (by omega) d12_down_29 ?_
  refine g_lsub d12_down_30 ?_
  refine g_topL (lN (ti - fr)) (lN_sub (hft)) ?_
  refine g_ES3 sm12_in ml12_134 (r12_inI (vi := ((i : Nat) : Int)) (ai := (0)) (bi := (((ti - fr) : Nat) : Int)) (pk_lT (by omega)) (by decide) (pk_lT (by omega)) (Nat.le_refl 0)) (by omega) (Nat.le_of_ble_eq_true rfl) d12_down_31 ?_
  refine g_bnz 39 d12_down_34 rfl (fun _ => ?_) (fun c34 => absurd c34 (fun q => q (by omega)))
  refine g_aload_n d12_down_39 rfl ?_
  refine g_iload_n d12_down_40 rfl ?_
  refine g_WV1 vm12_layAll ml12_433 c_74 (r12_layAll (I := uI I 74 0 0) lf (by exact ha) coin per fine s0 (by exact hT) c fr ti se fl (hC.of rfl) (Nat.le_refl 6)) (by omega) (Nat.le_of_ble_eq_true rfl) d12_down_41 (fun x hx => ?_)
  obtain ⟨I2, L2⟩ := x
  obtain ⟨hF, hLC, hR⟩ := hx
  dsimp only at hF hLC hR ⊢
  obtain ⟨t1, t2, t3, t4, t5, t6, t7, t8, t9, t10, t11, t12⟩ := id hT
  have e76 : I2 76 = I 76 := hF.1 76 (by decide) (by decide)
  have hF0 : FR [90, 92, 93, 96, 98] [0, 28, 32, 35, 36, 43, 44] [87, 88, 89, 91, 94, 95, 97, 99, 100] [33, 34, 42] I L I2 L2 := (FR.rf.uf (j := 0) (by decide)).tr (hF.up (by decide) (by decide) (by decide) (by decide))
  refine g_aload_n d12_down_44 rfl ?_
  refine g_iload_n d12_down_45 rfl ?_
  refine g_WV1 vm12_findDown ml12_458 c_74 (r12_findDown (I := I2) (L := L2) coin per c fr ti se fl (hC.of e76) (by rw [e76]; exact t1) t3 (by rw [e76]; exact t4) t6 (fun s => mfv (cmR (I 76) (I 76 11) lf) s0 (fnR (I 76) (I 76 11) lf c fr fine) s 12) (fun s a b => (hR s a b).2) (fun s => mfv_le _ s0 _ (cmR_le _ _ lf) (fun a b => fnR_le _ _ lf c fr a b t8) s) (Nat.le_refl 2)) (by omega) (Nat.le_of_ble_eq_true rfl) d12_down_46 (fun y hy => ?_)
  obtain ⟨I3, L3⟩ := y
  obtain ⟨hF3, hd1, hd2⟩ := hy
  dsimp only at hF3 hd1 hd2 ⊢
  have e763 : I3 76 = I 76 := (hF3.1 76 (by decide) (by decide)).trans e76
  have hF30 : FR [90, 92, 93, 96, 98] [0, 28, 32, 35, 36, 43, 44] [87, 88, 89, 91, 94, 95, 97, 99, 100] [33, 34, 42] I L I3 L3 := hF0.tr (hF3.up (by decide) (by decide) (by decide) (by decide))
  refine g_iconstv (nI 0) d12_down_49 rfl ?_
  refine g_istore_n d12_down_50 (by decide) ?_
  refine g_iconstv (nI 0) d12_down_51 rfl ?_
  refine g_istore d12_down_52 (by decide) ?_
  refine g_aload_n d12_down_54 rfl ?_
  refine g_iload_n d12_down_55 rfl ?_
  refine g_iconstv (nI 0) d12_down_56 rfl ?_
  refine g_EV2 vm12_ofCar ml12_167 c_74 (r12_ofCar (c) (0) (by omega) (by omega) (Nat.le_refl 0)) (by omega) (Nat.le_of_ble_eq_true rfl) d12_down_57 ?_
  refine g_topI (nI (fr)) ((congrFun e763 _).trans q0) ?_
  refine g_istore d12_down_60 (by decide) ?_
  refine g_lo [(0, .ref 74), (1, .int (nI (c))), (2, .int (nI (i))), (3, .int (nI (dL per (dB coin per fr ti fl (fun s => mfv (cmR (I 76) (I 76 11) lf) s0 (fnR (I 76) (I 76 11) lf c fr fine) s 12)) (ti - fr) (fr - fr)))), (4, .int (nI (dI per (dB coin per fr ti fl (fun s => mfv (cmR (I 76) (I 76 11) lf) s0 (fnR (I 76) (I 76 11) lf c fr fine) s 12)) (ti - fr) (fr - fr)))), (5, .int (nI (fr)))] ⟨rfl, rfl, rfl, by rw [Nat.sub_self]; rfl, by rw [Nat.sub_self]; rfl, rfl, trivial⟩ ?_
  refine r12_downL (I := I3) (L := L3) per coin c fr ti se fl i (hC.of e763) (by rw [e763]; exact t4) t6 hi (fun s => mfv (cmR (I 76) (I 76 11) lf) s0 (fnR (I 76) (I 76 11) lf c fr fine) s 12) (fun m2 h2 q hq => hd2 m2 (by omega) q hq) (by omega) (fun _ => ?_) (i + 1) fr (by omega) (Nat.le_refl _)
  rw [show fr + i + 1 - fr = i + 1 by omega]
  refine g_iload d12_down_106 rfl ?_
  exact g_iret rfl d12_down_108 (⟨(I3, L3), hF30, rfl, rfl⟩)
/-- he has not come up to a slot -/
def nc (cm : Nat → Nat → Nat) (s0 : Nat) : Nat → Nat × Nat
  | 0 => (1000000000000, s0)
  | s + 1 => ((nc cm s0 s).1 / 10 * (10 - cm s (nc cm s0 s).2), lat (nc cm s0 s).2)
theorem nc_le (cm : Nat → Nat → Nat) (s0 : Nat) (h1 : 1 ≤ s0) (h2 : s0 ≤ 12) : ∀ s, (nc cm s0 s).1 ≤ 1000000000000 ∧ 1 ≤ (nc cm s0 s).2 ∧ (nc cm s0 s).2 ≤ 12
  | 0 => ⟨Nat.le_refl _, h1, h2⟩
  | s + 1 => by
    obtain ⟨a, b, c⟩ := nc_le cm s0 h1 h2 s
    refine ⟨?_, ?_, ?_⟩
    · show (nc cm s0 s).1 / 10 * (10 - cm s (nc cm s0 s).2) ≤ _
      have := Nat.mul_le_mul_left ((nc cm s0 s).1 / 10) (Nat.sub_le 10 (cm s (nc cm s0 s).2))
      have := Nat.div_mul_le_self (nc cm s0 s).1 10
      omega
    · show 1 ≤ lat _; unfold lat; split <;> omega
    · show lat _ ≤ 12; unfold lat; split <;> omega
set_option maxHeartbeats 400000 in
theorem r12_likL {l : Launch} {K : cK} {d : Nat} {I : wI} {L : wL} {R : wR} {dy : cH} {Q : Option Value → cH → Prop} (cm : Nat → Nat → Nat) (hcm : ∀ s k, cm s k ≤ 10) (s0 sl : Nat) (h1 : 1 ≤ s0) (h2 : s0 ≤ 12) (hsl : sl < 12) (hLC : LC I L cm s0) (hd : 1 ≤ d)
    (kk : ((sl + 1) ≤ 12) → GL l K m12_likely d 0 0 109 [(0, .ref 74), (1, .int (nI (sl))), (3, .long (lN (nc cm s0 ((sl + 1))).1)), (5, .int (nI ((nc cm s0 ((sl + 1))).2)))] [] (hp I L R dy) Q) :
    ∀ (n s : Nat) , s + n = (sl + 1) → (s ≤ 12) → GL l K m12_likely d 0 0 66 [(0, .ref 74), (1, .int (nI (sl))), (3, .long (lN (nc cm s0 (s)).1)), (5, .int (nI ((nc cm s0 (s)).2))), (6, .int (nI (s)))] [] (hp I L R dy) Q := by
  intro n
  induction n with
  | zero =>
    intro s  hin hs
    obtain rfl : s = (sl + 1) := by omega
    refine g_iload d12_likely_66 rfl ?_
    refine g_iload_n d12_likely_68 rfl ?_
    refine g_ic_gt (((sl + 1) : Nat) : Int) ((sl : Nat) : Int) 109 (nI_ti (by omega)) (nI_ti (by omega)) d12_likely_69 rfl (fun _ => ?_) (fun c69 => absurd c69 (by omega))
    refine g_lo [(0, .ref 74), (1, .int (nI (sl))), (3, .long (lN (nc cm s0 ((sl + 1))).1)), (5, .int (nI ((nc cm s0 ((sl + 1))).2)))] ⟨rfl, rfl, rfl, rfl, trivial⟩ ?_
    exact kk  hs
  | succ n ih =>
    intro s  hin hs
    obtain ⟨a, b, c⟩ := nc_le cm s0 h1 h2 s
    have hc10 := hcm s (nc cm s0 s).2
    refine g_iload d12_likely_66 rfl ?_
    refine g_iload_n d12_likely_68 rfl ?_
    refine g_ic_gt ((s : Nat) : Int) ((sl : Nat) : Int) 109 (nI_ti (by omega)) (nI_ti (by omega)) d12_likely_69 rfl (fun c69 => absurd c69 (by omega)) (fun _ => ?_)
    refine g_lload_n d12_likely_72 rfl ?_
    refine g_ldc2 d12_likely_73 kl12_223 ?_
    refine g_ldiv d12_likely_76 (by decide) ?_
    refine g_topL (lN ((nc cm s0 (s)).1 / 10)) (pk_lDiv (b := 10) (by omega) (by omega) (by omega)) ?_
    refine g_bipushv (nI 10) d12_likely_77 rfl ?_
    refine g_aload_n d12_likely_79 rfl ?_
    refine g_get fl12_83 d12_likely_80 f_74_37 ?_
    refine g_bipushv (nI 13) d12_likely_83 rfl ?_
    refine g_iload d12_likely_85 rfl ?_
    refine g_imulN d12_likely_87 ?_
    refine g_iload d12_likely_88 rfl ?_
    refine g_iaddN d12_likely_90 ?_
    refine g_ialdN (((13 * s) + (nc cm s0 (s)).2)) d12_likely_91 a_90 (rfl) (by omega) (by decide) ?_
    refine g_topI (nI (cm s (nc cm s0 s).2)) (hLC.1 s (by omega) _ b c) ?_
    refine g_isubN (hcm _ _) d12_likely_92 ?_
    refine g_i2lN (by omega) d12_likely_93 ?_
    refine g_lmul d12_likely_94 ?_
    refine g_topL (lN (((nc cm s0 (s)).1 / 10) * (10 - cm s (nc cm s0 s).2))) (lN_mul _ _) ?_
    refine g_lstore_n d12_likely_95 (by decide) ?_
    refine g_iload d12_likely_96 rfl ?_
    refine g_ES1 sm12_later ml12_418 (r12_later ((nc cm s0 (s)).2) (by omega) (Nat.le_refl 0)) (by omega) (Nat.le_of_ble_eq_true rfl) d12_likely_98 ?_
    refine g_istore d12_likely_101 (by decide) ?_
    refine g_iincN d12_likely_103 rfl (by decide) ?_
    refine g_goto 66 d12_likely_106 rfl ?_
    refine g_lo [(0, .ref 74), (1, .int (nI (sl))), (3, .long (lN (nc cm s0 (s + 1)).1)), (5, .int (nI ((nc cm s0 (s + 1)).2))), (6, .int (nI (s + 1)))] ⟨rfl, rfl, rfl, rfl, rfl, trivial⟩ ?_
    exact ih (s + 1) (by omega) (by omega)
set_option maxHeartbeats 200000 in
theorem r12_likely_no {l : Launch} {K : cK} {d : Nat} {I : wI} {L : wL} {R : wR} {dy : cH} (x w : Int32) (hbad : ¬ ((0 ≤ x.toInt ∧ x.toInt < 12) ∧ 0 ≤ w.toInt ∧ w.toInt ≤ 1)) (hd : 2 ≤ d) : CE l K m12_likely d [.ref 74, .int x, .int w] (hp I L R dy) (.long (-1)) (hp (uI I 74 0 0) L R dy) := by
  refine CC.of ok12_likely (Nat.le_of_ble_eq_true rfl) ?_
  refine g_aload_n d12_likely_0 rfl ?_
  refine g_iconstv (nI 0) d12_likely_1 rfl ?_
  refine g_putIh _ fl12_128 d12_likely_2 f_74_0 s_74_0 ?_
  refine g_iload_n d12_likely_5 rfl ?_
  refine g_ES1 sm12_isSlot ml12_144 (r12_isSlotI  (rfl) (Nat.le_refl 1)) (by omega) (Nat.le_of_ble_eq_true rfl) d12_likely_6 ?_
  refine g_bz 22 d12_likely_9 rfl (fun c9 => ?_) (fun c9 => ?_)
  · refine g_ldc2 d12_likely_22 kl12_219 ?_
    exact g_lret rfl d12_likely_25 (⟨rfl, rfl⟩)
  · refine g_iload_n d12_likely_12 rfl ?_
    refine g_i2l d12_likely_13 ?_
    refine g_lconstv (0) d12_likely_14 rfl ?_
    refine g_lconstv (1) d12_likely_15 rfl ?_
    refine g_ES3 sm12_in ml12_134 (r12_inI (ai := (0)) (bi := (1)) (i2l_int _) (by decide) (by decide) (Nat.le_refl 0)) (by omega) (Nat.le_of_ble_eq_true rfl) d12_likely_16 ?_
    refine g_bnz 26 d12_likely_19 rfl (fun c19 => ?_) (fun c19 => ?_)
    · exact absurd ⟨by omega, by omega⟩ hbad
    · refine g_ldc2 d12_likely_22 kl12_219 ?_
      exact g_lret rfl d12_likely_25 (⟨rfl, rfl⟩)
set_option maxHeartbeats 400000 in
theorem r12_likely_0 {l : Launch} {K : cK} {d : Nat} {I : wI} {L : wL} {R : wR} {dy : cH} (lf : lawF) (ha : inF I lf) (coin per fine s0 : Nat) (hT : RT I coin per fine s0) (sl : Nat) (hsl : sl < 12) (hd : 6 ≤ d) : CX l K m12_likely d [.ref 74, .int (nI sl), .int (nI 0)] (hp I L R dy) (α := wI × wL) (fun x => FR [90, 92, 93, 96, 98] [0, 28, 32, 35, 36, 43, 44] [87, 88, 89, 91, 94, 95, 97, 99, 100] [33, 34, 42] I L x.1 x.2) (fun _ => .long (lN (pt fr2 (cmR (I 76) (I 76 11) lf) s0 (sl + 1) 1))) (fun x => hp x.1 x.2 R dy) := by
  obtain ⟨t1, t2, t3, t4, t5, t6, t7, t8, t9, t10, t11, t12⟩ := id hT
  refine CC.of ok12_likely (Nat.le_of_ble_eq_true rfl) ?_
  refine g_aload_n d12_likely_0 rfl ?_
  refine g_iconstv (nI 0) d12_likely_1 rfl ?_
  refine g_putIh _ fl12_128 d12_likely_2 f_74_0 s_74_0 ?_
  refine g_iload_n d12_likely_5 rfl ?_
  refine g_ES1 sm12_isSlot ml12_144 (r12_isSlotI (xi := ((sl : Nat) : Int)) (nI_ti (by omega)) (Nat.le_refl 1)) (by omega) (Nat.le_of_ble_eq_true rfl) d12_likely_6 ?_
  refine g_bz 22 d12_likely_9 rfl (fun c9 => absurd c9 (fun q => q (by omega))) (fun _ => ?_)
  refine g_iload_n d12_likely_12 rfl ?_
  refine g_i2lN (by omega) d12_likely_13 ?_
  refine g_lconstv (0) d12_likely_14 rfl ?_
  refine g_lconstv (1) d12_likely_15 rfl ?_
  refine g_ES3 sm12_in ml12_134 (r12_inI (vi := ((0 : Nat) : Int)) (ai := (0)) (bi := (1)) (pk_lT (by omega)) (by decide) (by decide) (Nat.le_refl 0)) (by omega) (Nat.le_of_ble_eq_true rfl) d12_likely_16 ?_
  refine g_bnz 26 d12_likely_19 rfl (fun _ => ?_) (fun c19 => absurd c19 (fun q => q (by omega)))
  refine g_aload_n d12_likely_26 rfl ?_
  refine g_VV0 vm12_askNow ml12_403 c_74 (r12_askNow (Nat.le_refl 1)) (by omega) (Nat.le_of_ble_eq_true rfl) d12_likely_27 ?_
  refine g_aload_n d12_likely_30 rfl ?_
  refine g_WV0 vm12_layComes ml12_421 c_74 (r12_layComes (I := uI (uI (uI I 74 0 0) 74 35 (I 76 5)) 74 36 (I 76 11)) lf (by exact ha) (by exact t12) s0 (by exact t9) t10 t11 (Nat.le_refl 5)) (by omega) (Nat.le_of_ble_eq_true rfl) d12_likely_31 (fun x hx => ?_)
  obtain ⟨I2, L2⟩ := x
  obtain ⟨hF, hLC⟩ := hx
  dsimp only at hF hLC ⊢
  have e76 : I2 76 = I 76 := hF.1 76 (by decide) (by decide)
  have hLC2 : LC I2 L2 (cmR (I 76) (I 76 11) lf) s0 := hLC
  have hF9 : FR [90, 92, 93, 96, 98] [0, 28, 32, 35, 36, 43, 44] [87, 88, 89, 91, 94, 95, 97, 99, 100] [33, 34, 42] I L I2 L2 := (((FR.rf.uf (j := 0) (by decide)).uf (j := 35) (by decide)).uf (j := 36) (by decide)).tr (hF.up (by decide) (by decide) (by decide) (by decide))
  refine g_iload_n d12_likely_34 rfl ?_
  refine g_iz_ne (0) 52 (by decide) d12_likely_35 rfl (fun c35 => absurd c35 (by decide)) (fun _ => ?_)
  refine g_aload_n d12_likely_38 rfl ?_
  refine g_get fl12_86 d12_likely_39 f_74_38 ?_
  refine g_bipushv (nI 13) d12_likely_42 rfl ?_
  refine g_iload_n d12_likely_44 rfl ?_
  refine g_iconstv (nI 1) d12_likely_45 rfl ?_
  refine g_iaddN d12_likely_46 ?_
  refine g_imulN d12_likely_47 ?_
  refine g_iconstv (nI 1) d12_likely_48 rfl ?_
  refine g_iaddN d12_likely_49 ?_
  refine g_laldN (((13 * (sl + 1)) + 1)) d12_likely_50 a_91 (rfl) (by omega) (by decide) ?_
  refine g_topL (lN (pt fr2 (cmR (I 76) (I 76 11) lf) s0 (sl + 1) 1)) (hLC2.2 (sl + 1) (by omega) 1 (by decide)) ?_
  exact g_lret rfl d12_likely_51 (⟨(I2, L2), hF9, rfl, rfl⟩)
set_option maxHeartbeats 400000 in
theorem r12_likely_1 {l : Launch} {K : cK} {d : Nat} {I : wI} {L : wL} {R : wR} {dy : cH} (lf : lawF) (ha : inF I lf) (coin per fine s0 : Nat) (hT : RT I coin per fine s0) (sl : Nat) (hsl : sl < 12) (hd : 6 ≤ d) : CX l K m12_likely d [.ref 74, .int (nI sl), .int (nI 1)] (hp I L R dy) (α := wI × wL) (fun x => FR [90, 92, 93, 96, 98] [0, 28, 32, 35, 36, 43, 44] [87, 88, 89, 91, 94, 95, 97, 99, 100] [33, 34, 42] I L x.1 x.2) (fun _ => .long (lN (nc (cmR (I 76) (I 76 11) lf) s0 (sl + 1)).1)) (fun x => hp x.1 x.2 R dy) := by
  obtain ⟨t1, t2, t3, t4, t5, t6, t7, t8, t9, t10, t11, t12⟩ := id hT
  refine CC.of ok12_likely (Nat.le_of_ble_eq_true rfl) ?_
  refine g_aload_n d12_likely_0 rfl ?_
  refine g_iconstv (nI 0) d12_likely_1 rfl ?_
  refine g_putIh _ fl12_128 d12_likely_2 f_74_0 s_74_0 ?_
  refine g_iload_n d12_likely_5 rfl ?_
  refine g_ES1 sm12_isSlot ml12_144 (r12_isSlotI (xi := ((sl : Nat) : Int)) (nI_ti (by omega)) (Nat.le_refl 1)) (by omega) (Nat.le_of_ble_eq_true rfl) d12_likely_6 ?_
  refine g_bz 22 d12_likely_9 rfl (fun c9 => absurd c9 (fun q => q (by omega))) (fun _ => ?_)
  refine g_iload_n d12_likely_12 rfl ?_
  refine g_i2lN (by omega) d12_likely_13 ?_
  refine g_lconstv (0) d12_likely_14 rfl ?_
  refine g_lconstv (1) d12_likely_15 rfl ?_
  refine g_ES3 sm12_in ml12_134 (r12_inI (vi := ((1 : Nat) : Int)) (ai := (0)) (bi := (1)) (pk_lT (by omega)) (by decide) (by decide) (Nat.le_refl 0)) (by omega) (Nat.le_of_ble_eq_true rfl) d12_likely_16 ?_
  refine g_bnz 26 d12_likely_19 rfl (fun _ => ?_) (fun c19 => absurd c19 (fun q => q (by omega)))
  refine g_aload_n d12_likely_26 rfl ?_
  refine g_VV0 vm12_askNow ml12_403 c_74 (r12_askNow (Nat.le_refl 1)) (by omega) (Nat.le_of_ble_eq_true rfl) d12_likely_27 ?_
  refine g_aload_n d12_likely_30 rfl ?_
  refine g_WV0 vm12_layComes ml12_421 c_74 (r12_layComes (I := uI (uI (uI I 74 0 0) 74 35 (I 76 5)) 74 36 (I 76 11)) lf (by exact ha) (by exact t12) s0 (by exact t9) t10 t11 (Nat.le_refl 5)) (by omega) (Nat.le_of_ble_eq_true rfl) d12_likely_31 (fun x hx => ?_)
  obtain ⟨I2, L2⟩ := x
  obtain ⟨hF, hLC⟩ := hx
  dsimp only at hF hLC ⊢
  have e76 : I2 76 = I 76 := hF.1 76 (by decide) (by decide)
  have hLC2 : LC I2 L2 (cmR (I 76) (I 76 11) lf) s0 := hLC
  have hF9 : FR [90, 92, 93, 96, 98] [0, 28, 32, 35, 36, 43, 44] [87, 88, 89, 91, 94, 95, 97, 99, 100] [33, 34, 42] I L I2 L2 := (((FR.rf.uf (j := 0) (by decide)).uf (j := 35) (by decide)).uf (j := 36) (by decide)).tr (hF.up (by decide) (by decide) (by decide) (by decide))
  refine g_iload_n d12_likely_34 rfl ?_
  refine g_iz_ne (1) 52 (by decide) d12_likely_35 rfl (fun _ => ?_) (fun c35 => absurd c35 (by decide))
  refine g_ldc2 d12_likely_52 kl12_416 ?_
  refine g_lstore_n d12_likely_55 (by decide) ?_
  refine g_aload_n d12_likely_56 rfl ?_
  refine g_iconstv (nI 4) d12_likely_57 rfl ?_
  refine g_EV1 vm12_term ml12_378 c_74 (r12_term (4) (by omega) (Nat.le_refl 0)) (by omega) (Nat.le_of_ble_eq_true rfl) d12_likely_58 ?_
  refine g_topI (nI (s0)) ((congrFun e76 10).trans t9) ?_
  refine g_istore d12_likely_61 (by decide) ?_
  refine g_iconstv (nI 0) d12_likely_63 rfl ?_
  refine g_istore d12_likely_64 (by decide) ?_
  refine g_lo [(0, .ref 74), (1, .int (nI (sl))), (3, .long (lN (nc (cmR (I 76) (I 76 11) lf) s0 0).1)), (5, .int (nI ((nc (cmR (I 76) (I 76 11) lf) s0 0).2))), (6, .int (nI (0)))] ⟨rfl, rfl, rfl, rfl, rfl, trivial⟩ ?_
  refine r12_likL (I := I2) (L := L2) (cmR (I 76) (I 76 11) lf) (cmR_le _ _ lf) s0 sl t10 t11 hsl hLC2 (by omega) (fun _ => ?_) (sl + 1) 0 (by omega) (by omega)
  refine g_lload_n d12_likely_109 rfl ?_
  exact g_lret rfl d12_likely_110 (⟨(I2, L2), hF9, rfl, rfl⟩)
