set_option maxHeartbeats 200000 in
theorem r12_game_no {l : Launch} {K : cK} {d : Nat} {I : wI} {L : wL} {R : wR} {dy : cH} (n : Nat) (lo wi : Nat → Nat) (hP : PL I n lo wi) (t w : Int32) (hbad : ¬ (0 ≤ t.toInt ∧ t.toInt ≤ 99 ∧ 0 < n ∧ 0 ≤ w.toInt ∧ w.toInt ≤ 2 + 2 * n)) (hd : 1 ≤ d) : CE l K m12_game d [.ref 74, .int t, .int w] (hp I L R dy) (.long (-1)) (hp (uI I 74 0 0) L R dy) := by
  obtain ⟨hn, hn6, hq⟩ := id hP
  have hw9 : ∀ p, p < n → 1 ≤ wi p ∧ wi p ≤ 99 := fun p hp => by obtain ⟨a1, a2, a3, a4⟩ := hq p hp; exact ⟨a3, by omega⟩
  have hl9 : ∀ p, p < n → lo p ≤ 99 := fun p hp => by obtain ⟨a1, a2, a3, a4⟩ := hq p hp; omega
  refine CC.of ok12_game (Nat.le_of_ble_eq_true rfl) ?_
  refine g_aload_n d12_game_0 rfl ?_
  refine g_iconstv (nI 0) d12_game_1 rfl ?_
  refine g_putIh _ fl12_128 d12_game_2 f_74_0 s_74_0 ?_
  refine g_aload_n d12_game_5 rfl ?_
  refine g_get fl12_13 d12_game_6 f_74_3 ?_
  refine g_iconstv (nI 3) d12_game_9 rfl ?_
  refine g_ialdN (3) d12_game_10 a_76 (rfl) (by omega) (by decide) ?_
  refine g_topI (nI (n)) (hn) ?_
  refine g_istore_n d12_game_11 (by decide) ?_
  refine g_iload_n d12_game_12 rfl ?_
  refine g_i2l d12_game_13 ?_
  refine g_lconstv (0) d12_game_14 rfl ?_
  refine g_ldc2 d12_game_15 kl12_172 ?_
  refine g_ES3 sm12_in ml12_134 (r12_inI (ai := (0)) (bi := (99)) (i2l_int _) (by decide) (by decide) (Nat.le_refl 0)) (by omega) (Nat.le_of_ble_eq_true rfl) d12_game_18 ?_
  refine g_bz 47 d12_game_21 rfl (fun c21 => ?_) (fun c21 => ?_)
  · refine g_ldc2 d12_game_47 kl12_219 ?_
    exact g_lret rfl d12_game_50 (⟨rfl, rfl⟩)
  · refine g_iload_n d12_game_24 rfl ?_
    refine g_iz_eq ((n : Nat) : Int) 47 (nI_ti (by omega)) d12_game_25 rfl (fun c25 => ?_) (fun c25 => ?_)
    · refine g_ldc2 d12_game_47 kl12_219 ?_
      exact g_lret rfl d12_game_50 (⟨rfl, rfl⟩)
    · refine g_iload_n d12_game_28 rfl ?_
      refine g_i2l d12_game_29 ?_
      refine g_lconstv (0) d12_game_30 rfl ?_
      refine g_ldc2 d12_game_31 kl12_401 ?_
      refine g_ldc2 d12_game_34 kl12_401 ?_
      refine g_iload_n d12_game_37 rfl ?_
      refine g_i2lN (by omega) d12_game_38 ?_
      refine g_lmul d12_game_39 ?_
      refine g_topL (lN (2 * n)) (lN_mul _ _) ?_
      refine g_ladd d12_game_40 ?_
      refine g_topL (lN (2 + (2 * n))) (lN_add _ _) ?_
      refine g_ES3 sm12_in ml12_134 (r12_inI (ai := (0)) (bi := (((2 + (2 * n)) : Nat) : Int)) (i2l_int _) (by decide) (pk_lT (by omega)) (Nat.le_refl 0)) (by omega) (Nat.le_of_ble_eq_true rfl) d12_game_41 ?_
      refine g_bnz 51 d12_game_44 rfl (fun c44 => ?_) (fun c44 => ?_)
      · exact absurd ⟨c21.1, c21.2, by omega, c44.1, by omega⟩ hbad
      · refine g_ldc2 d12_game_47 kl12_219 ?_
        exact g_lret rfl d12_game_50 (⟨rfl, rfl⟩)
set_option maxHeartbeats 400000 in
theorem r12_game_0y {l : Launch} {K : cK} {d : Nat} {I : wI} {L : wL} {R : wR} {dy : cH} (n : Nat) (lo wi : Nat → Nat) (hP : PL I n lo wi) (hn0 : 0 < n) (t : Nat) (ht9 : t ≤ 99) (hpay : (t * (gd lo wi n (gfi lo wi n 100 (gmi lo n))) ≤ (gu lo wi n (gfi lo wi n 100 (gmi lo n))))) (hd : 4 ≤ d) : CX l K m12_game d [.ref 74, .int (nI t), .int (nI 0)] (hp I L R dy) (α := wL) (fun x => FR [] [0] [] [51, 52] I L (uI I 74 0 0) x) (fun _ => .long (lN t)) (fun x => hp (uI I 74 0 0) x R dy) := by
  obtain ⟨hn, hn6, hq⟩ := id hP
  have hw9 : ∀ p, p < n → 1 ≤ wi p ∧ wi p ≤ 99 := fun p hp => by obtain ⟨a1, a2, a3, a4⟩ := hq p hp; exact ⟨a3, by omega⟩
  have hl9 : ∀ p, p < n → lo p ≤ 99 := fun p hp => by obtain ⟨a1, a2, a3, a4⟩ := hq p hp; omega
  refine CC.of ok12_game (Nat.le_of_ble_eq_true rfl) ?_
  refine g_aload_n d12_game_0 rfl ?_
  refine g_iconstv (nI 0) d12_game_1 rfl ?_
  refine g_putIh _ fl12_128 d12_game_2 f_74_0 s_74_0 ?_
  refine g_aload_n d12_game_5 rfl ?_
  refine g_get fl12_13 d12_game_6 f_74_3 ?_
  refine g_iconstv (nI 3) d12_game_9 rfl ?_
  refine g_ialdN (3) d12_game_10 a_76 (rfl) (by omega) (by decide) ?_
  refine g_topI (nI (n)) (hn) ?_
  refine g_istore_n d12_game_11 (by decide) ?_
  refine g_iload_n d12_game_12 rfl ?_
  refine g_i2lN (by omega) d12_game_13 ?_
  refine g_lconstv (0) d12_game_14 rfl ?_
  refine g_ldc2 d12_game_15 kl12_172 ?_
  refine g_ES3 sm12_in ml12_134 (r12_inI (vi := ((t : Nat) : Int)) (ai := (0)) (bi := (99)) (pk_lT (by omega)) (by decide) (by decide) (Nat.le_refl 0)) (by omega) (Nat.le_of_ble_eq_true rfl) d12_game_18 ?_
  refine g_bz 47 d12_game_21 rfl (fun c21 => absurd c21 (fun q => q (by omega))) (fun _ => ?_)
  refine g_iload_n d12_game_24 rfl ?_
  refine g_iz_eq ((n : Nat) : Int) 47 (nI_ti (by omega)) d12_game_25 rfl (fun c25 => absurd c25 (by omega)) (fun _ => ?_)
  refine g_iload_n d12_game_28 rfl ?_
  refine g_i2lN (by omega) d12_game_29 ?_
  refine g_lconstv (0) d12_game_30 rfl ?_
  refine g_ldc2 d12_game_31 kl12_401 ?_
  refine g_ldc2 d12_game_34 kl12_401 ?_
  refine g_iload_n d12_game_37 rfl ?_
  refine g_i2lN (by omega) d12_game_38 ?_
  refine g_lmul d12_game_39 ?_
  refine g_topL (lN (2 * n)) (lN_mul _ _) ?_
  refine g_ladd d12_game_40 ?_
  refine g_topL (lN (2 + (2 * n))) (lN_add _ _) ?_
  refine g_ES3 sm12_in ml12_134 (r12_inI (vi := ((0 : Nat) : Int)) (ai := (0)) (bi := (((2 + (2 * n)) : Nat) : Int)) (pk_lT (by omega)) (by decide) (pk_lT (by omega)) (Nat.le_refl 0)) (by omega) (Nat.le_of_ble_eq_true rfl) d12_game_41 ?_
  refine g_bnz 51 d12_game_44 rfl (fun _ => ?_) (fun c44 => absurd c44 (fun q => q (by omega)))
  refine g_aload_n d12_game_51 rfl ?_
  refine g_WV0 vm12_findValue ml12_526 c_74 (r12_findValue (I := uI I 74 0 0) n lo wi (by exact hP) hn0 (Nat.le_refl 3)) (by omega) (Nat.le_of_ble_eq_true rfl) d12_game_52 (fun x hx => ?_)
  obtain ⟨h1, h2, h3⟩ := hx
  have hb := gu_le (mo := (gfi lo wi n 100 (gmi lo n))) hn6 hw9 hl9
  have hF0 : FR [] [0] [] [51, 52] I L (uI I 74 0 0) x := (FR.rf.uf (j := 0) (by decide)).tr (h1.up (by decide) (by decide) (by decide) (by decide))
  have hmul : t * (gd lo wi n (gfi lo wi n 100 (gmi lo n))) ≤ 99 * 10000000000000 := Nat.mul_le_mul ht9 hb.2
  refine g_iload_n d12_game_55 rfl ?_
  refine g_i2lN (by omega) d12_game_56 ?_
  refine g_aload_n d12_game_57 rfl ?_
  refine g_get fl12_510 d12_game_58 f_74_52 ?_
  refine g_topL (lN ((gd lo wi n (gfi lo wi n 100 (gmi lo n))))) (h3) ?_
  refine g_lmul d12_game_61 ?_
  refine g_topL (lN (t * (gd lo wi n (gfi lo wi n 100 (gmi lo n))))) (lN_mul _ _) ?_
  refine g_aload_n d12_game_62 rfl ?_
  refine g_get fl12_507 d12_game_63 f_74_51 ?_
  refine g_topL (lN ((gu lo wi n (gfi lo wi n 100 (gmi lo n))))) (h2) ?_
  refine g_lx_gt (((t * (gd lo wi n (gfi lo wi n 100 (gmi lo n)))) : Nat) : Int) (((gu lo wi n (gfi lo wi n 100 (gmi lo n))) : Nat) : Int) 74 (pk_lT (by omega)) (pk_lT (by omega)) d12_game_66 d12_game_67 rfl (fun c66 => absurd c66 (by omega)) (fun _ => ?_)
  refine g_iconstv (nI 1) d12_game_70 rfl ?_
  refine g_goto 75 d12_game_71 rfl ?_
  refine g_istore d12_game_75 (by decide) ?_
  refine g_iload_n d12_game_77 rfl ?_
  refine g_iconstv (nI 3) d12_game_78 rfl ?_
  refine g_ic_ge (0) (3) 136 (by decide) (by decide) d12_game_79 rfl (fun c79 => absurd c79 (by decide)) (fun _ => ?_)
  refine g_iload_n d12_game_82 rfl ?_
  refine g_iconstv (nI 2) d12_game_83 rfl ?_
  refine g_ic_ne (0) (2) 101 (by decide) (by decide) d12_game_84 rfl (fun _ => ?_) (fun c84 => absurd c84 (by decide))
  refine g_iload_n d12_game_101 rfl ?_
  refine g_iz_ne (0) 122 (by decide) d12_game_102 rfl (fun c102 => absurd c102 (by decide)) (fun _ => ?_)
  refine g_iload d12_game_105 rfl ?_
  refine g_iz_eq (1) 115 (by decide) d12_game_107 rfl (fun c107 => absurd c107 (by decide)) (fun _ => ?_)
  refine g_iload_n d12_game_110 rfl ?_
  refine g_i2lN (by omega) d12_game_111 ?_
  refine g_goto 135 d12_game_112 rfl ?_
  exact g_lret rfl d12_game_135 (⟨x, hF0, rfl, rfl⟩)
set_option maxHeartbeats 400000 in
theorem r12_game_0n {l : Launch} {K : cK} {d : Nat} {I : wI} {L : wL} {R : wR} {dy : cH} (n : Nat) (lo wi : Nat → Nat) (hP : PL I n lo wi) (hn0 : 0 < n) (t : Nat) (ht9 : t ≤ 99) (hpay : ¬ (t * (gd lo wi n (gfi lo wi n 100 (gmi lo n))) ≤ (gu lo wi n (gfi lo wi n 100 (gmi lo n))))) (hd : 4 ≤ d) : CX l K m12_game d [.ref 74, .int (nI t), .int (nI 0)] (hp I L R dy) (α := wL) (fun x => FR [] [0] [] [51, 52] I L (uI I 74 0 0) x) (fun _ => .long (lN (gu lo wi n (gfi lo wi n 100 (gmi lo n))))) (fun x => hp (uI I 74 0 0) x R dy) := by
  obtain ⟨hn, hn6, hq⟩ := id hP
  have hw9 : ∀ p, p < n → 1 ≤ wi p ∧ wi p ≤ 99 := fun p hp => by obtain ⟨a1, a2, a3, a4⟩ := hq p hp; exact ⟨a3, by omega⟩
  have hl9 : ∀ p, p < n → lo p ≤ 99 := fun p hp => by obtain ⟨a1, a2, a3, a4⟩ := hq p hp; omega
  refine CC.of ok12_game (Nat.le_of_ble_eq_true rfl) ?_
  refine g_aload_n d12_game_0 rfl ?_
  refine g_iconstv (nI 0) d12_game_1 rfl ?_
  refine g_putIh _ fl12_128 d12_game_2 f_74_0 s_74_0 ?_
  refine g_aload_n d12_game_5 rfl ?_
  refine g_get fl12_13 d12_game_6 f_74_3 ?_
  refine g_iconstv (nI 3) d12_game_9 rfl ?_
  refine g_ialdN (3) d12_game_10 a_76 (rfl) (by omega) (by decide) ?_
  refine g_topI (nI (n)) (hn) ?_
  refine g_istore_n d12_game_11 (by decide) ?_
  refine g_iload_n d12_game_12 rfl ?_
  refine g_i2lN (by omega) d12_game_13 ?_
  refine g_lconstv (0) d12_game_14 rfl ?_
  refine g_ldc2 d12_game_15 kl12_172 ?_
  refine g_ES3 sm12_in ml12_134 (r12_inI (vi := ((t : Nat) : Int)) (ai := (0)) (bi := (99)) (pk_lT (by omega)) (by decide) (by decide) (Nat.le_refl 0)) (by omega) (Nat.le_of_ble_eq_true rfl) d12_game_18 ?_
  refine g_bz 47 d12_game_21 rfl (fun c21 => absurd c21 (fun q => q (by omega))) (fun _ => ?_)
  refine g_iload_n d12_game_24 rfl ?_
  refine g_iz_eq ((n : Nat) : Int) 47 (nI_ti (by omega)) d12_game_25 rfl (fun c25 => absurd c25 (by omega)) (fun _ => ?_)
  refine g_iload_n d12_game_28 rfl ?_
  refine g_i2lN (by omega) d12_game_29 ?_
  refine g_lconstv (0) d12_game_30 rfl ?_
  refine g_ldc2 d12_game_31 kl12_401 ?_
  refine g_ldc2 d12_game_34 kl12_401 ?_
  refine g_iload_n d12_game_37 rfl ?_
  refine g_i2lN (by omega) d12_game_38 ?_
  refine g_lmul d12_game_39 ?_
  refine g_topL (lN (2 * n)) (lN_mul _ _) ?_
  refine g_ladd d12_game_40 ?_
  refine g_topL (lN (2 + (2 * n))) (lN_add _ _) ?_
  refine g_ES3 sm12_in ml12_134 (r12_inI (vi := ((0 : Nat) : Int)) (ai := (0)) (bi := (((2 + (2 * n)) : Nat) : Int)) (pk_lT (by omega)) (by decide) (pk_lT (by omega)) (Nat.le_refl 0)) (by omega) (Nat.le_of_ble_eq_true rfl) d12_game_41 ?_
  refine g_bnz 51 d12_game_44 rfl (fun _ => ?_) (fun c44 => absurd c44 (fun q => q (by omega)))
  refine g_aload_n d12_game_51 rfl ?_
  refine g_WV0 vm12_findValue ml12_526 c_74 (r12_findValue (I := uI I 74 0 0) n lo wi (by exact hP) hn0 (Nat.le_refl 3)) (by omega) (Nat.le_of_ble_eq_true rfl) d12_game_52 (fun x hx => ?_)
  obtain ⟨h1, h2, h3⟩ := hx
  have hb := gu_le (mo := (gfi lo wi n 100 (gmi lo n))) hn6 hw9 hl9
  have hF0 : FR [] [0] [] [51, 52] I L (uI I 74 0 0) x := (FR.rf.uf (j := 0) (by decide)).tr (h1.up (by decide) (by decide) (by decide) (by decide))
  have hmul : t * (gd lo wi n (gfi lo wi n 100 (gmi lo n))) ≤ 99 * 10000000000000 := Nat.mul_le_mul ht9 hb.2
  refine g_iload_n d12_game_55 rfl ?_
  refine g_i2lN (by omega) d12_game_56 ?_
  refine g_aload_n d12_game_57 rfl ?_
  refine g_get fl12_510 d12_game_58 f_74_52 ?_
  refine g_topL (lN ((gd lo wi n (gfi lo wi n 100 (gmi lo n))))) (h3) ?_
  refine g_lmul d12_game_61 ?_
  refine g_topL (lN (t * (gd lo wi n (gfi lo wi n 100 (gmi lo n))))) (lN_mul _ _) ?_
  refine g_aload_n d12_game_62 rfl ?_
  refine g_get fl12_507 d12_game_63 f_74_51 ?_
  refine g_topL (lN ((gu lo wi n (gfi lo wi n 100 (gmi lo n))))) (h2) ?_
  refine g_lx_gt (((t * (gd lo wi n (gfi lo wi n 100 (gmi lo n)))) : Nat) : Int) (((gu lo wi n (gfi lo wi n 100 (gmi lo n))) : Nat) : Int) 74 (pk_lT (by omega)) (pk_lT (by omega)) d12_game_66 d12_game_67 rfl (fun _ => ?_) (fun c66 => absurd c66 (by omega))
  refine g_iconstv (nI 0) d12_game_74 rfl ?_
  refine g_istore d12_game_75 (by decide) ?_
  refine g_iload_n d12_game_77 rfl ?_
  refine g_iconstv (nI 3) d12_game_78 rfl ?_
  refine g_ic_ge (0) (3) 136 (by decide) (by decide) d12_game_79 rfl (fun c79 => absurd c79 (by decide)) (fun _ => ?_)
  refine g_iload_n d12_game_82 rfl ?_
  refine g_iconstv (nI 2) d12_game_83 rfl ?_
  refine g_ic_ne (0) (2) 101 (by decide) (by decide) d12_game_84 rfl (fun _ => ?_) (fun c84 => absurd c84 (by decide))
  refine g_iload_n d12_game_101 rfl ?_
  refine g_iz_ne (0) 122 (by decide) d12_game_102 rfl (fun c102 => absurd c102 (by decide)) (fun _ => ?_)
  refine g_iload d12_game_105 rfl ?_
  refine g_iz_eq (0) 115 (by decide) d12_game_107 rfl (fun _ => ?_) (fun c107 => absurd c107 (by decide))
  refine g_aload_n d12_game_115 rfl ?_
  refine g_get fl12_507 d12_game_116 f_74_51 ?_
  refine g_topL (lN ((gu lo wi n (gfi lo wi n 100 (gmi lo n))))) (h2) ?_
  refine g_goto 135 d12_game_119 rfl ?_
  exact g_lret rfl d12_game_135 (⟨x, hF0, rfl, rfl⟩)
set_option maxHeartbeats 400000 in
theorem r12_game_1y {l : Launch} {K : cK} {d : Nat} {I : wI} {L : wL} {R : wR} {dy : cH} (n : Nat) (lo wi : Nat → Nat) (hP : PL I n lo wi) (hn0 : 0 < n) (t : Nat) (ht9 : t ≤ 99) (hpay : (t * (gd lo wi n (gfi lo wi n 100 (gmi lo n))) ≤ (gu lo wi n (gfi lo wi n 100 (gmi lo n))))) (hd : 4 ≤ d) : CX l K m12_game d [.ref 74, .int (nI t), .int (nI 1)] (hp I L R dy) (α := wL) (fun x => FR [] [0] [] [51, 52] I L (uI I 74 0 0) x) (fun _ => .long (lN 1)) (fun x => hp (uI I 74 0 0) x R dy) := by
  obtain ⟨hn, hn6, hq⟩ := id hP
  have hw9 : ∀ p, p < n → 1 ≤ wi p ∧ wi p ≤ 99 := fun p hp => by obtain ⟨a1, a2, a3, a4⟩ := hq p hp; exact ⟨a3, by omega⟩
  have hl9 : ∀ p, p < n → lo p ≤ 99 := fun p hp => by obtain ⟨a1, a2, a3, a4⟩ := hq p hp; omega
  refine CC.of ok12_game (Nat.le_of_ble_eq_true rfl) ?_
  refine g_aload_n d12_game_0 rfl ?_
  refine g_iconstv (nI 0) d12_game_1 rfl ?_
  refine g_putIh _ fl12_128 d12_game_2 f_74_0 s_74_0 ?_
  refine g_aload_n d12_game_5 rfl ?_
  refine g_get fl12_13 d12_game_6 f_74_3 ?_
  refine g_iconstv (nI 3) d12_game_9 rfl ?_
  refine g_ialdN (3) d12_game_10 a_76 (rfl) (by omega) (by decide) ?_
  refine g_topI (nI (n)) (hn) ?_
  refine g_istore_n d12_game_11 (by decide) ?_
  refine g_iload_n d12_game_12 rfl ?_
  refine g_i2lN (by omega) d12_game_13 ?_
  refine g_lconstv (0) d12_game_14 rfl ?_
  refine g_ldc2 d12_game_15 kl12_172 ?_
  refine g_ES3 sm12_in ml12_134 (r12_inI (vi := ((t : Nat) : Int)) (ai := (0)) (bi := (99)) (pk_lT (by omega)) (by decide) (by decide) (Nat.le_refl 0)) (by omega) (Nat.le_of_ble_eq_true rfl) d12_game_18 ?_
  refine g_bz 47 d12_game_21 rfl (fun c21 => absurd c21 (fun q => q (by omega))) (fun _ => ?_)
  refine g_iload_n d12_game_24 rfl ?_
  refine g_iz_eq ((n : Nat) : Int) 47 (nI_ti (by omega)) d12_game_25 rfl (fun c25 => absurd c25 (by omega)) (fun _ => ?_)
  refine g_iload_n d12_game_28 rfl ?_
  refine g_i2lN (by omega) d12_game_29 ?_
  refine g_lconstv (0) d12_game_30 rfl ?_
  refine g_ldc2 d12_game_31 kl12_401 ?_
  refine g_ldc2 d12_game_34 kl12_401 ?_
  refine g_iload_n d12_game_37 rfl ?_
  refine g_i2lN (by omega) d12_game_38 ?_
  refine g_lmul d12_game_39 ?_
  refine g_topL (lN (2 * n)) (lN_mul _ _) ?_
  refine g_ladd d12_game_40 ?_
  refine g_topL (lN (2 + (2 * n))) (lN_add _ _) ?_
  refine g_ES3 sm12_in ml12_134 (r12_inI (vi := ((1 : Nat) : Int)) (ai := (0)) (bi := (((2 + (2 * n)) : Nat) : Int)) (pk_lT (by omega)) (by decide) (pk_lT (by omega)) (Nat.le_refl 0)) (by omega) (Nat.le_of_ble_eq_true rfl) d12_game_41 ?_
  refine g_bnz 51 d12_game_44 rfl (fun _ => ?_) (fun c44 => absurd c44 (fun q => q (by omega)))
  refine g_aload_n d12_game_51 rfl ?_
  refine g_WV0 vm12_findValue ml12_526 c_74 (r12_findValue (I := uI I 74 0 0) n lo wi (by exact hP) hn0 (Nat.le_refl 3)) (by omega) (Nat.le_of_ble_eq_true rfl) d12_game_52 (fun x hx => ?_)
  obtain ⟨h1, h2, h3⟩ := hx
  have hb := gu_le (mo := (gfi lo wi n 100 (gmi lo n))) hn6 hw9 hl9
  have hF0 : FR [] [0] [] [51, 52] I L (uI I 74 0 0) x := (FR.rf.uf (j := 0) (by decide)).tr (h1.up (by decide) (by decide) (by decide) (by decide))
  have hmul : t * (gd lo wi n (gfi lo wi n 100 (gmi lo n))) ≤ 99 * 10000000000000 := Nat.mul_le_mul ht9 hb.2
  refine g_iload_n d12_game_55 rfl ?_
  refine g_i2lN (by omega) d12_game_56 ?_
  refine g_aload_n d12_game_57 rfl ?_
  refine g_get fl12_510 d12_game_58 f_74_52 ?_
  refine g_topL (lN ((gd lo wi n (gfi lo wi n 100 (gmi lo n))))) (h3) ?_
  refine g_lmul d12_game_61 ?_
  refine g_topL (lN (t * (gd lo wi n (gfi lo wi n 100 (gmi lo n))))) (lN_mul _ _) ?_
  refine g_aload_n d12_game_62 rfl ?_
  refine g_get fl12_507 d12_game_63 f_74_51 ?_
  refine g_topL (lN ((gu lo wi n (gfi lo wi n 100 (gmi lo n))))) (h2) ?_
  refine g_lx_gt (((t * (gd lo wi n (gfi lo wi n 100 (gmi lo n)))) : Nat) : Int) (((gu lo wi n (gfi lo wi n 100 (gmi lo n))) : Nat) : Int) 74 (pk_lT (by omega)) (pk_lT (by omega)) d12_game_66 d12_game_67 rfl (fun c66 => absurd c66 (by omega)) (fun _ => ?_)
  refine g_iconstv (nI 1) d12_game_70 rfl ?_
  refine g_goto 75 d12_game_71 rfl ?_
  refine g_istore d12_game_75 (by decide) ?_
  refine g_iload_n d12_game_77 rfl ?_
  refine g_iconstv (nI 3) d12_game_78 rfl ?_
  refine g_ic_ge (1) (3) 136 (by decide) (by decide) d12_game_79 rfl (fun c79 => absurd c79 (by decide)) (fun _ => ?_)
  refine g_iload_n d12_game_82 rfl ?_
  refine g_iconstv (nI 2) d12_game_83 rfl ?_
  refine g_ic_ne (1) (2) 101 (by decide) (by decide) d12_game_84 rfl (fun _ => ?_) (fun c84 => absurd c84 (by decide))
  refine g_iload_n d12_game_101 rfl ?_
  refine g_iz_ne (1) 122 (by decide) d12_game_102 rfl (fun _ => ?_) (fun c102 => absurd c102 (by decide))
  refine g_iload d12_game_122 rfl ?_
  refine g_iz_eq (1) 131 (by decide) d12_game_124 rfl (fun c124 => absurd c124 (by decide)) (fun _ => ?_)
  refine g_lconstv (1) d12_game_127 rfl ?_
  refine g_goto 135 d12_game_128 rfl ?_
  exact g_lret rfl d12_game_135 (⟨x, hF0, rfl, rfl⟩)
set_option maxHeartbeats 400000 in
theorem r12_game_1n {l : Launch} {K : cK} {d : Nat} {I : wI} {L : wL} {R : wR} {dy : cH} (n : Nat) (lo wi : Nat → Nat) (hP : PL I n lo wi) (hn0 : 0 < n) (t : Nat) (ht9 : t ≤ 99) (hpay : ¬ (t * (gd lo wi n (gfi lo wi n 100 (gmi lo n))) ≤ (gu lo wi n (gfi lo wi n 100 (gmi lo n))))) (hd : 4 ≤ d) : CX l K m12_game d [.ref 74, .int (nI t), .int (nI 1)] (hp I L R dy) (α := wL) (fun x => FR [] [0] [] [51, 52] I L (uI I 74 0 0) x) (fun _ => .long (lN (gd lo wi n (gfi lo wi n 100 (gmi lo n))))) (fun x => hp (uI I 74 0 0) x R dy) := by
  obtain ⟨hn, hn6, hq⟩ := id hP
  have hw9 : ∀ p, p < n → 1 ≤ wi p ∧ wi p ≤ 99 := fun p hp => by obtain ⟨a1, a2, a3, a4⟩ := hq p hp; exact ⟨a3, by omega⟩
  have hl9 : ∀ p, p < n → lo p ≤ 99 := fun p hp => by obtain ⟨a1, a2, a3, a4⟩ := hq p hp; omega
  refine CC.of ok12_game (Nat.le_of_ble_eq_true rfl) ?_
  refine g_aload_n d12_game_0 rfl ?_
  refine g_iconstv (nI 0) d12_game_1 rfl ?_
  refine g_putIh _ fl12_128 d12_game_2 f_74_0 s_74_0 ?_
  refine g_aload_n d12_game_5 rfl ?_
  refine g_get fl12_13 d12_game_6 f_74_3 ?_
  refine g_iconstv (nI 3) d12_game_9 rfl ?_
  refine g_ialdN (3) d12_game_10 a_76 (rfl) (by omega) (by decide) ?_
  refine g_topI (nI (n)) (hn) ?_
  refine g_istore_n d12_game_11 (by decide) ?_
  refine g_iload_n d12_game_12 rfl ?_
  refine g_i2lN (by omega) d12_game_13 ?_
  refine g_lconstv (0) d12_game_14 rfl ?_
  refine g_ldc2 d12_game_15 kl12_172 ?_
  refine g_ES3 sm12_in ml12_134 (r12_inI (vi := ((t : Nat) : Int)) (ai := (0)) (bi := (99)) (pk_lT (by omega)) (by decide) (by decide) (Nat.le_refl 0)) (by omega) (Nat.le_of_ble_eq_true rfl) d12_game_18 ?_
  refine g_bz 47 d12_game_21 rfl (fun c21 => absurd c21 (fun q => q (by omega))) (fun _ => ?_)
  refine g_iload_n d12_game_24 rfl ?_
  refine g_iz_eq ((n : Nat) : Int) 47 (nI_ti (by omega)) d12_game_25 rfl (fun c25 => absurd c25 (by omega)) (fun _ => ?_)
  refine g_iload_n d12_game_28 rfl ?_
  refine g_i2lN (by omega) d12_game_29 ?_
  refine g_lconstv (0) d12_game_30 rfl ?_
  refine g_ldc2 d12_game_31 kl12_401 ?_
  refine g_ldc2 d12_game_34 kl12_401 ?_
  refine g_iload_n d12_game_37 rfl ?_
  refine g_i2lN (by omega) d12_game_38 ?_
  refine g_lmul d12_game_39 ?_
  refine g_topL (lN (2 * n)) (lN_mul _ _) ?_
  refine g_ladd d12_game_40 ?_
  refine g_topL (lN (2 + (2 * n))) (lN_add _ _) ?_
  refine g_ES3 sm12_in ml12_134 (r12_inI (vi := ((1 : Nat) : Int)) (ai := (0)) (bi := (((2 + (2 * n)) : Nat) : Int)) (pk_lT (by omega)) (by decide) (pk_lT (by omega)) (Nat.le_refl 0)) (by omega) (Nat.le_of_ble_eq_true rfl) d12_game_41 ?_
  refine g_bnz 51 d12_game_44 rfl (fun _ => ?_) (fun c44 => absurd c44 (fun q => q (by omega)))
  refine g_aload_n d12_game_51 rfl ?_
  refine g_WV0 vm12_findValue ml12_526 c_74 (r12_findValue (I := uI I 74 0 0) n lo wi (by exact hP) hn0 (Nat.le_refl 3)) (by omega) (Nat.le_of_ble_eq_true rfl) d12_game_52 (fun x hx => ?_)
  obtain ⟨h1, h2, h3⟩ := hx
  have hb := gu_le (mo := (gfi lo wi n 100 (gmi lo n))) hn6 hw9 hl9
  have hF0 : FR [] [0] [] [51, 52] I L (uI I 74 0 0) x := (FR.rf.uf (j := 0) (by decide)).tr (h1.up (by decide) (by decide) (by decide) (by decide))
  have hmul : t * (gd lo wi n (gfi lo wi n 100 (gmi lo n))) ≤ 99 * 10000000000000 := Nat.mul_le_mul ht9 hb.2
  refine g_iload_n d12_game_55 rfl ?_
  refine g_i2lN (by omega) d12_game_56 ?_
  refine g_aload_n d12_game_57 rfl ?_
  refine g_get fl12_510 d12_game_58 f_74_52 ?_
  refine g_topL (lN ((gd lo wi n (gfi lo wi n 100 (gmi lo n))))) (h3) ?_
  refine g_lmul d12_game_61 ?_
  refine g_topL (lN (t * (gd lo wi n (gfi lo wi n 100 (gmi lo n))))) (lN_mul _ _) ?_
  refine g_aload_n d12_game_62 rfl ?_
  refine g_get fl12_507 d12_game_63 f_74_51 ?_
  refine g_topL (lN ((gu lo wi n (gfi lo wi n 100 (gmi lo n))))) (h2) ?_
  refine g_lx_gt (((t * (gd lo wi n (gfi lo wi n 100 (gmi lo n)))) : Nat) : Int) (((gu lo wi n (gfi lo wi n 100 (gmi lo n))) : Nat) : Int) 74 (pk_lT (by omega)) (pk_lT (by omega)) d12_game_66 d12_game_67 rfl (fun _ => ?_) (fun c66 => absurd c66 (by omega))
  refine g_iconstv (nI 0) d12_game_74 rfl ?_
  refine g_istore d12_game_75 (by decide) ?_
  refine g_iload_n d12_game_77 rfl ?_
  refine g_iconstv (nI 3) d12_game_78 rfl ?_
  refine g_ic_ge (1) (3) 136 (by decide) (by decide) d12_game_79 rfl (fun c79 => absurd c79 (by decide)) (fun _ => ?_)
  refine g_iload_n d12_game_82 rfl ?_
  refine g_iconstv (nI 2) d12_game_83 rfl ?_
  refine g_ic_ne (1) (2) 101 (by decide) (by decide) d12_game_84 rfl (fun _ => ?_) (fun c84 => absurd c84 (by decide))
  refine g_iload_n d12_game_101 rfl ?_
  refine g_iz_ne (1) 122 (by decide) d12_game_102 rfl (fun _ => ?_) (fun c102 => absurd c102 (by decide))
  refine g_iload d12_game_122 rfl ?_
  refine g_iz_eq (0) 131 (by decide) d12_game_124 rfl (fun _ => ?_) (fun c124 => absurd c124 (by decide))
  refine g_aload_n d12_game_131 rfl ?_
  refine g_get fl12_510 d12_game_132 f_74_52 ?_
  refine g_topL (lN ((gd lo wi n (gfi lo wi n 100 (gmi lo n))))) (h3) ?_
  exact g_lret rfl d12_game_135 (⟨x, hF0, rfl, rfl⟩)
set_option maxHeartbeats 400000 in
theorem r12_game_2y {l : Launch} {K : cK} {d : Nat} {I : wI} {L : wL} {R : wR} {dy : cH} (n : Nat) (lo wi : Nat → Nat) (hP : PL I n lo wi) (hn0 : 0 < n) (t : Nat) (ht9 : t ≤ 99) (hpay : (t * (gd lo wi n (gfi lo wi n 100 (gmi lo n))) ≤ (gu lo wi n (gfi lo wi n 100 (gmi lo n))))) (hd : 4 ≤ d) : CX l K m12_game d [.ref 74, .int (nI t), .int (nI 2)] (hp I L R dy) (α := wL) (fun x => FR [] [0] [] [51, 52] I L (uI I 74 0 0) x) (fun _ => .long (lN 1)) (fun x => hp (uI I 74 0 0) x R dy) := by
  obtain ⟨hn, hn6, hq⟩ := id hP
  have hw9 : ∀ p, p < n → 1 ≤ wi p ∧ wi p ≤ 99 := fun p hp => by obtain ⟨a1, a2, a3, a4⟩ := hq p hp; exact ⟨a3, by omega⟩
  have hl9 : ∀ p, p < n → lo p ≤ 99 := fun p hp => by obtain ⟨a1, a2, a3, a4⟩ := hq p hp; omega
  refine CC.of ok12_game (Nat.le_of_ble_eq_true rfl) ?_
  refine g_aload_n d12_game_0 rfl ?_
  refine g_iconstv (nI 0) d12_game_1 rfl ?_
  refine g_putIh _ fl12_128 d12_game_2 f_74_0 s_74_0 ?_
  refine g_aload_n d12_game_5 rfl ?_
  refine g_get fl12_13 d12_game_6 f_74_3 ?_
  refine g_iconstv (nI 3) d12_game_9 rfl ?_
  refine g_ialdN (3) d12_game_10 a_76 (rfl) (by omega) (by decide) ?_
  refine g_topI (nI (n)) (hn) ?_
  refine g_istore_n d12_game_11 (by decide) ?_
  refine g_iload_n d12_game_12 rfl ?_
  refine g_i2lN (by omega) d12_game_13 ?_
  refine g_lconstv (0) d12_game_14 rfl ?_
  refine g_ldc2 d12_game_15 kl12_172 ?_
  refine g_ES3 sm12_in ml12_134 (r12_inI (vi := ((t : Nat) : Int)) (ai := (0)) (bi := (99)) (pk_lT (by omega)) (by decide) (by decide) (Nat.le_refl 0)) (by omega) (Nat.le_of_ble_eq_true rfl) d12_game_18 ?_
  refine g_bz 47 d12_game_21 rfl (fun c21 => absurd c21 (fun q => q (by omega))) (fun _ => ?_)
  refine g_iload_n d12_game_24 rfl ?_
  refine g_iz_eq ((n : Nat) : Int) 47 (nI_ti (by omega)) d12_game_25 rfl (fun c25 => absurd c25 (by omega)) (fun _ => ?_)
  refine g_iload_n d12_game_28 rfl ?_
  refine g_i2lN (by omega) d12_game_29 ?_
  refine g_lconstv (0) d12_game_30 rfl ?_
  refine g_ldc2 d12_game_31 kl12_401 ?_
  refine g_ldc2 d12_game_34 kl12_401 ?_
  refine g_iload_n d12_game_37 rfl ?_
  refine g_i2lN (by omega) d12_game_38 ?_
  refine g_lmul d12_game_39 ?_
  refine g_topL (lN (2 * n)) (lN_mul _ _) ?_
  refine g_ladd d12_game_40 ?_
  refine g_topL (lN (2 + (2 * n))) (lN_add _ _) ?_
  refine g_ES3 sm12_in ml12_134 (r12_inI (vi := ((2 : Nat) : Int)) (ai := (0)) (bi := (((2 + (2 * n)) : Nat) : Int)) (pk_lT (by omega)) (by decide) (pk_lT (by omega)) (Nat.le_refl 0)) (by omega) (Nat.le_of_ble_eq_true rfl) d12_game_41 ?_
  refine g_bnz 51 d12_game_44 rfl (fun _ => ?_) (fun c44 => absurd c44 (fun q => q (by omega)))
  refine g_aload_n d12_game_51 rfl ?_
  refine g_WV0 vm12_findValue ml12_526 c_74 (r12_findValue (I := uI I 74 0 0) n lo wi (by exact hP) hn0 (Nat.le_refl 3)) (by omega) (Nat.le_of_ble_eq_true rfl) d12_game_52 (fun x hx => ?_)
  obtain ⟨h1, h2, h3⟩ := hx
  have hb := gu_le (mo := (gfi lo wi n 100 (gmi lo n))) hn6 hw9 hl9
  have hF0 : FR [] [0] [] [51, 52] I L (uI I 74 0 0) x := (FR.rf.uf (j := 0) (by decide)).tr (h1.up (by decide) (by decide) (by decide) (by decide))
  have hmul : t * (gd lo wi n (gfi lo wi n 100 (gmi lo n))) ≤ 99 * 10000000000000 := Nat.mul_le_mul ht9 hb.2
  refine g_iload_n d12_game_55 rfl ?_
  refine g_i2lN (by omega) d12_game_56 ?_
  refine g_aload_n d12_game_57 rfl ?_
  refine g_get fl12_510 d12_game_58 f_74_52 ?_
  refine g_topL (lN ((gd lo wi n (gfi lo wi n 100 (gmi lo n))))) (h3) ?_
  refine g_lmul d12_game_61 ?_
  refine g_topL (lN (t * (gd lo wi n (gfi lo wi n 100 (gmi lo n))))) (lN_mul _ _) ?_
  refine g_aload_n d12_game_62 rfl ?_
  refine g_get fl12_507 d12_game_63 f_74_51 ?_
  refine g_topL (lN ((gu lo wi n (gfi lo wi n 100 (gmi lo n))))) (h2) ?_
  refine g_lx_gt (((t * (gd lo wi n (gfi lo wi n 100 (gmi lo n)))) : Nat) : Int) (((gu lo wi n (gfi lo wi n 100 (gmi lo n))) : Nat) : Int) 74 (pk_lT (by omega)) (pk_lT (by omega)) d12_game_66 d12_game_67 rfl (fun c66 => absurd c66 (by omega)) (fun _ => ?_)
  refine g_iconstv (nI 1) d12_game_70 rfl ?_
  refine g_goto 75 d12_game_71 rfl ?_
  refine g_istore d12_game_75 (by decide) ?_
  refine g_iload_n d12_game_77 rfl ?_
  refine g_iconstv (nI 3) d12_game_78 rfl ?_
  refine g_ic_ge (2) (3) 136 (by decide) (by decide) d12_game_79 rfl (fun c79 => absurd c79 (by decide)) (fun _ => ?_)
  refine g_iload_n d12_game_82 rfl ?_
  refine g_iconstv (nI 2) d12_game_83 rfl ?_
  refine g_ic_ne (2) (2) 101 (by decide) (by decide) d12_game_84 rfl (fun c84 => absurd c84 (by decide)) (fun _ => ?_)
  refine g_iload d12_game_87 rfl ?_
  refine g_iz_eq (1) 96 (by decide) d12_game_89 rfl (fun c89 => absurd c89 (by decide)) (fun _ => ?_)
  refine g_iconstv (nI 1) d12_game_92 rfl ?_
  refine g_goto 97 d12_game_93 rfl ?_
  refine g_i2lN (by omega) d12_game_97 ?_
  refine g_goto 135 d12_game_98 rfl ?_
  exact g_lret rfl d12_game_135 (⟨x, hF0, rfl, rfl⟩)
set_option maxHeartbeats 400000 in
theorem r12_game_2n {l : Launch} {K : cK} {d : Nat} {I : wI} {L : wL} {R : wR} {dy : cH} (n : Nat) (lo wi : Nat → Nat) (hP : PL I n lo wi) (hn0 : 0 < n) (t : Nat) (ht9 : t ≤ 99) (hpay : ¬ (t * (gd lo wi n (gfi lo wi n 100 (gmi lo n))) ≤ (gu lo wi n (gfi lo wi n 100 (gmi lo n))))) (hd : 4 ≤ d) : CX l K m12_game d [.ref 74, .int (nI t), .int (nI 2)] (hp I L R dy) (α := wL) (fun x => FR [] [0] [] [51, 52] I L (uI I 74 0 0) x) (fun _ => .long (lN 0)) (fun x => hp (uI I 74 0 0) x R dy) := by
  obtain ⟨hn, hn6, hq⟩ := id hP
  have hw9 : ∀ p, p < n → 1 ≤ wi p ∧ wi p ≤ 99 := fun p hp => by obtain ⟨a1, a2, a3, a4⟩ := hq p hp; exact ⟨a3, by omega⟩
  have hl9 : ∀ p, p < n → lo p ≤ 99 := fun p hp => by obtain ⟨a1, a2, a3, a4⟩ := hq p hp; omega
  refine CC.of ok12_game (Nat.le_of_ble_eq_true rfl) ?_
  refine g_aload_n d12_game_0 rfl ?_
  refine g_iconstv (nI 0) d12_game_1 rfl ?_
  refine g_putIh _ fl12_128 d12_game_2 f_74_0 s_74_0 ?_
  refine g_aload_n d12_game_5 rfl ?_
  refine g_get fl12_13 d12_game_6 f_74_3 ?_
  refine g_iconstv (nI 3) d12_game_9 rfl ?_
  refine g_ialdN (3) d12_game_10 a_76 (rfl) (by omega) (by decide) ?_
  refine g_topI (nI (n)) (hn) ?_
  refine g_istore_n d12_game_11 (by decide) ?_
  refine g_iload_n d12_game_12 rfl ?_
  refine g_i2lN (by omega) d12_game_13 ?_
  refine g_lconstv (0) d12_game_14 rfl ?_
  refine g_ldc2 d12_game_15 kl12_172 ?_
  refine g_ES3 sm12_in ml12_134 (r12_inI (vi := ((t : Nat) : Int)) (ai := (0)) (bi := (99)) (pk_lT (by omega)) (by decide) (by decide) (Nat.le_refl 0)) (by omega) (Nat.le_of_ble_eq_true rfl) d12_game_18 ?_
  refine g_bz 47 d12_game_21 rfl (fun c21 => absurd c21 (fun q => q (by omega))) (fun _ => ?_)
  refine g_iload_n d12_game_24 rfl ?_
  refine g_iz_eq ((n : Nat) : Int) 47 (nI_ti (by omega)) d12_game_25 rfl (fun c25 => absurd c25 (by omega)) (fun _ => ?_)
  refine g_iload_n d12_game_28 rfl ?_
  refine g_i2lN (by omega) d12_game_29 ?_
  refine g_lconstv (0) d12_game_30 rfl ?_
  refine g_ldc2 d12_game_31 kl12_401 ?_
  refine g_ldc2 d12_game_34 kl12_401 ?_
  refine g_iload_n d12_game_37 rfl ?_
  refine g_i2lN (by omega) d12_game_38 ?_
  refine g_lmul d12_game_39 ?_
  refine g_topL (lN (2 * n)) (lN_mul _ _) ?_
  refine g_ladd d12_game_40 ?_
  refine g_topL (lN (2 + (2 * n))) (lN_add _ _) ?_
  refine g_ES3 sm12_in ml12_134 (r12_inI (vi := ((2 : Nat) : Int)) (ai := (0)) (bi := (((2 + (2 * n)) : Nat) : Int)) (pk_lT (by omega)) (by decide) (pk_lT (by omega)) (Nat.le_refl 0)) (by omega) (Nat.le_of_ble_eq_true rfl) d12_game_41 ?_
  refine g_bnz 51 d12_game_44 rfl (fun _ => ?_) (fun c44 => absurd c44 (fun q => q (by omega)))
  refine g_aload_n d12_game_51 rfl ?_
  refine g_WV0 vm12_findValue ml12_526 c_74 (r12_findValue (I := uI I 74 0 0) n lo wi (by exact hP) hn0 (Nat.le_refl 3)) (by omega) (Nat.le_of_ble_eq_true rfl) d12_game_52 (fun x hx => ?_)
  obtain ⟨h1, h2, h3⟩ := hx
  have hb := gu_le (mo := (gfi lo wi n 100 (gmi lo n))) hn6 hw9 hl9
  have hF0 : FR [] [0] [] [51, 52] I L (uI I 74 0 0) x := (FR.rf.uf (j := 0) (by decide)).tr (h1.up (by decide) (by decide) (by decide) (by decide))
  have hmul : t * (gd lo wi n (gfi lo wi n 100 (gmi lo n))) ≤ 99 * 10000000000000 := Nat.mul_le_mul ht9 hb.2
  refine g_iload_n d12_game_55 rfl ?_
  refine g_i2lN (by omega) d12_game_56 ?_
  refine g_aload_n d12_game_57 rfl ?_
  refine g_get fl12_510 d12_game_58 f_74_52 ?_
  refine g_topL (lN ((gd lo wi n (gfi lo wi n 100 (gmi lo n))))) (h3) ?_
  refine g_lmul d12_game_61 ?_
  refine g_topL (lN (t * (gd lo wi n (gfi lo wi n 100 (gmi lo n))))) (lN_mul _ _) ?_
  refine g_aload_n d12_game_62 rfl ?_
  refine g_get fl12_507 d12_game_63 f_74_51 ?_
  refine g_topL (lN ((gu lo wi n (gfi lo wi n 100 (gmi lo n))))) (h2) ?_
  refine g_lx_gt (((t * (gd lo wi n (gfi lo wi n 100 (gmi lo n)))) : Nat) : Int) (((gu lo wi n (gfi lo wi n 100 (gmi lo n))) : Nat) : Int) 74 (pk_lT (by omega)) (pk_lT (by omega)) d12_game_66 d12_game_67 rfl (fun _ => ?_) (fun c66 => absurd c66 (by omega))
  refine g_iconstv (nI 0) d12_game_74 rfl ?_
  refine g_istore d12_game_75 (by decide) ?_
  refine g_iload_n d12_game_77 rfl ?_
  refine g_iconstv (nI 3) d12_game_78 rfl ?_
  refine g_ic_ge (2) (3) 136 (by decide) (by decide) d12_game_79 rfl (fun c79 => absurd c79 (by decide)) (fun _ => ?_)
  refine g_iload_n d12_game_82 rfl ?_
  refine g_iconstv (nI 2) d12_game_83 rfl ?_
  refine g_ic_ne (2) (2) 101 (by decide) (by decide) d12_game_84 rfl (fun c84 => absurd c84 (by decide)) (fun _ => ?_)
  refine g_iload d12_game_87 rfl ?_
  refine g_iz_eq (0) 96 (by decide) d12_game_89 rfl (fun _ => ?_) (fun c89 => absurd c89 (by decide))
  refine g_iconstv (nI 0) d12_game_96 rfl ?_
  refine g_i2lN (by omega) d12_game_97 ?_
  refine g_goto 135 d12_game_98 rfl ?_
  exact g_lret rfl d12_game_135 (⟨x, hF0, rfl, rfl⟩)
set_option maxHeartbeats 400000 in
theorem r12_game_3a {l : Launch} {K : cK} {d : Nat} {I : wI} {L : wL} {R : wR} {dy : cH} (n : Nat) (lo wi : Nat → Nat) (hP : PL I n lo wi) (hn0 : 0 < n) (t : Nat) (ht9 : t ≤ 99) (p w : Nat) (hpp : p < n) (hw : w = 3 + 2 * p + 0) (hD0 : 0 < (gd lo wi n (gfi lo wi n 100 (gmi lo n)))) (hd : 4 ≤ d) : CX l K m12_game d [.ref 74, .int (nI t), .int (nI w)] (hp I L R dy) (α := wL) (fun x => FR [] [0] [] [51, 52] I L (uI I 74 0 0) x) (fun _ => .long (lN (((gu lo wi n (gfi lo wi n 100 (gmi lo n))) - lo p * (gd lo wi n (gfi lo wi n 100 (gmi lo n)))) / Nat.gcd ((gu lo wi n (gfi lo wi n 100 (gmi lo n))) - lo p * (gd lo wi n (gfi lo wi n 100 (gmi lo n)))) ((gd lo wi n (gfi lo wi n 100 (gmi lo n))) * wi p)))) (fun x => hp (uI I 74 0 0) x R dy) := by
  obtain ⟨hn, hn6, hq⟩ := id hP
  have hw9 : ∀ p, p < n → 1 ≤ wi p ∧ wi p ≤ 99 := fun p hp => by obtain ⟨a1, a2, a3, a4⟩ := hq p hp; exact ⟨a3, by omega⟩
  have hl9 : ∀ p, p < n → lo p ≤ 99 := fun p hp => by obtain ⟨a1, a2, a3, a4⟩ := hq p hp; omega
  have hw0 := hw9 p hpp
  have hl0 := hl9 p hpp
  refine CC.of ok12_game (Nat.le_of_ble_eq_true rfl) ?_
  refine g_aload_n d12_game_0 rfl ?_
  refine g_iconstv (nI 0) d12_game_1 rfl ?_
  refine g_putIh _ fl12_128 d12_game_2 f_74_0 s_74_0 ?_
  refine g_aload_n d12_game_5 rfl ?_
  refine g_get fl12_13 d12_game_6 f_74_3 ?_
  refine g_iconstv (nI 3) d12_game_9 rfl ?_
  refine g_ialdN (3) d12_game_10 a_76 (rfl) (by omega) (by decide) ?_
  refine g_topI (nI (n)) (hn) ?_
  refine g_istore_n d12_game_11 (by decide) ?_
  refine g_iload_n d12_game_12 rfl ?_
  refine g_i2lN (by omega) d12_game_13 ?_
  refine g_lconstv (0) d12_game_14 rfl ?_
  refine g_ldc2 d12_game_15 kl12_172 ?_
  refine g_ES3 sm12_in ml12_134 (r12_inI (vi := ((t : Nat) : Int)) (ai := (0)) (bi := (99)) (pk_lT (by omega)) (by decide) (by decide) (Nat.le_refl 0)) (by omega) (Nat.le_of_ble_eq_true rfl) d12_game_18 ?_
  refine g_bz 47 d12_game_21 rfl (fun c21 => absurd c21 (fun q => q (by omega))) (fun _ => ?_)
  refine g_iload_n d12_game_24 rfl ?_
  refine g_iz_eq ((n : Nat) : Int) 47 (nI_ti (by omega)) d12_game_25 rfl (fun c25 => absurd c25 (by omega)) (fun _ => ?_)
  refine g_iload_n d12_game_28 rfl ?_
  refine g_i2lN (by omega) d12_game_29 ?_
  refine g_lconstv (0) d12_game_30 rfl ?_
  refine g_ldc2 d12_game_31 kl12_401 ?_
  refine g_ldc2 d12_game_34 kl12_401 ?_
  refine g_iload_n d12_game_37 rfl ?_
  refine g_i2lN (by omega) d12_game_38 ?_
  refine g_lmul d12_game_39 ?_
  refine g_topL (lN (2 * n)) (lN_mul _ _) ?_
  refine g_ladd d12_game_40 ?_
  refine g_topL (lN (2 + (2 * n))) (lN_add _ _) ?_
  refine g_ES3 sm12_in ml12_134 (r12_inI (vi := ((w : Nat) : Int)) (ai := (0)) (bi := (((2 + (2 * n)) : Nat) : Int)) (pk_lT (by omega)) (by decide) (pk_lT (by omega)) (Nat.le_refl 0)) (by omega) (Nat.le_of_ble_eq_true rfl) d12_game_41 ?_
  refine g_bnz 51 d12_game_44 rfl (fun _ => ?_) (fun c44 => absurd c44 (fun q => q (by omega)))
  refine g_aload_n d12_game_51 rfl ?_
  refine g_WV0 vm12_findValue ml12_526 c_74 (r12_findValue (I := uI I 74 0 0) n lo wi (by exact hP) hn0 (Nat.le_refl 3)) (by omega) (Nat.le_of_ble_eq_true rfl) d12_game_52 (fun x hx => ?_)
  obtain ⟨h1, h2, h3⟩ := hx
  have hb := gu_le (mo := (gfi lo wi n 100 (gmi lo n))) hn6 hw9 hl9
  have hF0 : FR [] [0] [] [51, 52] I L (uI I 74 0 0) x := (FR.rf.uf (j := 0) (by decide)).tr (h1.up (by decide) (by decide) (by decide) (by decide))
  have hmul : t * (gd lo wi n (gfi lo wi n 100 (gmi lo n))) ≤ 99 * 10000000000000 := Nat.mul_le_mul ht9 hb.2
  have hm1 : lo p * (gd lo wi n (gfi lo wi n 100 (gmi lo n))) ≤ 99 * 10000000000000 := Nat.mul_le_mul hl0 hb.2
  have hm2 : (gd lo wi n (gfi lo wi n 100 (gmi lo n))) * wi p ≤ 10000000000000 * 99 := Nat.mul_le_mul hb.2 hw0.2
  have hm3 : 0 < (gd lo wi n (gfi lo wi n 100 (gmi lo n))) * wi p := Nat.mul_pos hD0 hw0.1
  by_cases hpay : t * (gd lo wi n (gfi lo wi n 100 (gmi lo n))) ≤ (gu lo wi n (gfi lo wi n 100 (gmi lo n))) <;> by_cases hup : lo p * (gd lo wi n (gfi lo wi n 100 (gmi lo n))) < (gu lo wi n (gfi lo wi n 100 (gmi lo n)))
  · skip
    refine g_iload_n d12_game_55 rfl ?_
    refine g_i2lN (by omega) d12_game_56 ?_
    refine g_aload_n d12_game_57 rfl ?_
    refine g_get fl12_510 d12_game_58 f_74_52 ?_
    refine g_topL (lN ((gd lo wi n (gfi lo wi n 100 (gmi lo n))))) (h3) ?_
    refine g_lmul d12_game_61 ?_
    refine g_topL (lN (t * (gd lo wi n (gfi lo wi n 100 (gmi lo n))))) (lN_mul _ _) ?_
    refine g_aload_n d12_game_62 rfl ?_
    refine g_get fl12_507 d12_game_63 f_74_51 ?_
    refine g_topL (lN ((gu lo wi n (gfi lo wi n 100 (gmi lo n))))) (h2) ?_
    refine g_lx_gt (((t * (gd lo wi n (gfi lo wi n 100 (gmi lo n)))) : Nat) : Int) (((gu lo wi n (gfi lo wi n 100 (gmi lo n))) : Nat) : Int) 74 (pk_lT (by omega)) (pk_lT (by omega)) d12_game_66 d12_game_67 rfl (fun c66 => absurd c66 (by omega)) (fun _ => ?_)
    refine g_iconstv (nI 1) d12_game_70 rfl ?_
    refine g_goto 75 d12_game_71 rfl ?_
    refine g_istore d12_game_75 (by decide) ?_
    refine g_iload_n d12_game_77 rfl ?_
    refine g_iconstv (nI 3) d12_game_78 rfl ?_
    refine g_ic_ge ((w : Nat) : Int) (3) 136 (nI_ti (by omega)) (by decide) d12_game_79 rfl (fun _ => ?_) (fun c79 => absurd c79 (by omega))
    refine g_iload_n d12_game_136 rfl ?_
    refine g_iconstv (nI 3) d12_game_137 rfl ?_
    refine g_isubN (by omega) d12_game_138 ?_
    refine g_iconstv (nI 2) d12_game_139 rfl ?_
    refine g_idiv d12_game_140 (by decide) ?_
    refine g_topI (nI (p)) (by rw [pk_div (by omega) (by decide) (by decide)]; congr 1; omega) ?_
    refine g_istore d12_game_141 (by decide) ?_
    refine g_aload_n d12_game_143 rfl ?_
    refine g_get fl12_507 d12_game_144 f_74_51 ?_
    refine g_topL (lN ((gu lo wi n (gfi lo wi n 100 (gmi lo n))))) (h2) ?_
    refine g_aload_n d12_game_147 rfl ?_
    refine g_iload d12_game_148 rfl ?_
    refine g_EV1 vm12_loss ml12_513 c_74 (r12_loss n lo wi (by exact hP) (p) (by omega) (Nat.le_refl 0)) (by omega) (Nat.le_of_ble_eq_true rfl) d12_game_150 ?_
    refine g_i2lN (by omega) d12_game_153 ?_
    refine g_aload_n d12_game_154 rfl ?_
    refine g_get fl12_510 d12_game_155 f_74_52 ?_
    refine g_topL (lN ((gd lo wi n (gfi lo wi n 100 (gmi lo n))))) (h3) ?_
    refine g_lmul d12_game_158 ?_
    refine g_topL (lN ((lo p) * (gd lo wi n (gfi lo wi n 100 (gmi lo n))))) (lN_mul _ _) ?_
    refine g_lsub d12_game_159 ?_
    refine g_topL (lN ((gu lo wi n (gfi lo wi n 100 (gmi lo n))) - ((lo p) * (gd lo wi n (gfi lo wi n 100 (gmi lo n)))))) (lN_sub (by omega)) ?_
    refine g_lstore d12_game_160 (by decide) ?_
    refine g_aload_n d12_game_162 rfl ?_
    refine g_lload d12_game_163 rfl ?_
    refine g_lconstv (0) d12_game_165 rfl ?_
    refine g_lx_le ((((gu lo wi n (gfi lo wi n 100 (gmi lo n))) - ((lo p) * (gd lo wi n (gfi lo wi n 100 (gmi lo n))))) : Nat) : Int) (0) 175 (pk_lT (by omega)) (by decide) d12_game_166 d12_game_167 rfl (fun c166 => absurd c166 (by omega)) (fun _ => ?_)
    refine g_lload d12_game_170 rfl ?_
    refine g_goto 176 d12_game_172 rfl ?_
    refine g_aload_n d12_game_176 rfl ?_
    refine g_get fl12_510 d12_game_177 f_74_52 ?_
    refine g_topL (lN ((gd lo wi n (gfi lo wi n 100 (gmi lo n))))) (h3) ?_
    refine g_aload_n d12_game_180 rfl ?_
    refine g_iload d12_game_181 rfl ?_
    refine g_EV1 vm12_wide ml12_516 c_74 (r12_wide n lo wi (by exact hP) (p) (by omega) (Nat.le_refl 1)) (by omega) (Nat.le_of_ble_eq_true rfl) d12_game_183 ?_
    refine g_i2lN (by omega) d12_game_186 ?_
    refine g_lmul d12_game_187 ?_
    refine g_topL (lN ((gd lo wi n (gfi lo wi n 100 (gmi lo n))) * (wi p))) (lN_mul _ _) ?_
    refine g_VV2 vm12_shorten ml12_519 c_74 (r12_shorten (I := uI I 74 0 0) (L := x) ((gu lo wi n (gfi lo wi n 100 (gmi lo n))) - lo p * (gd lo wi n (gfi lo wi n 100 (gmi lo n)))) ((gd lo wi n (gfi lo wi n 100 (gmi lo n))) * wi p) (by omega) (by omega) hm3 (Nat.le_refl 1)) (by omega) (Nat.le_of_ble_eq_true rfl) d12_game_188 ?_
    refine g_iload_n d12_game_191 rfl ?_
    refine g_iconstv (nI 2) d12_game_192 rfl ?_
    refine g_irem d12_game_193 (by decide) ?_
    refine g_topI (nI (1)) (by rw [pk_rem (by omega) (by decide) (by decide)]; congr 1; omega) ?_
    refine g_iconstv (nI 1) d12_game_194 rfl ?_
    refine g_ic_ne ((1 : Nat) : Int) (1) 205 (nI_ti (by omega)) (by decide) d12_game_195 rfl (fun c195 => absurd c195 (by omega)) (fun _ => ?_)
    refine g_aload_n d12_game_198 rfl ?_
    refine g_get fl12_507 d12_game_199 f_74_51 ?_
    refine g_topL (lN (((gu lo wi n (gfi lo wi n 100 (gmi lo n))) - lo p * (gd lo wi n (gfi lo wi n 100 (gmi lo n)))) / Nat.gcd ((gu lo wi n (gfi lo wi n 100 (gmi lo n))) - lo p * (gd lo wi n (gfi lo wi n 100 (gmi lo n)))) ((gd lo wi n (gfi lo wi n 100 (gmi lo n))) * wi p))) (by rw [uL_sn (by decide), uL_ss]) ?_
    refine g_goto 209 d12_game_202 rfl ?_
    exact g_lret rfl d12_game_209 (⟨_, (hF0.ug (by decide)).ug (by decide), rfl, rfl⟩)
  · skip
    refine g_iload_n d12_game_55 rfl ?_
    refine g_i2lN (by omega) d12_game_56 ?_
    refine g_aload_n d12_game_57 rfl ?_
    refine g_get fl12_510 d12_game_58 f_74_52 ?_
    refine g_topL (lN ((gd lo wi n (gfi lo wi n 100 (gmi lo n))))) (h3) ?_
    refine g_lmul d12_game_61 ?_
    refine g_topL (lN (t * (gd lo wi n (gfi lo wi n 100 (gmi lo n))))) (lN_mul _ _) ?_
    refine g_aload_n d12_game_62 rfl ?_
    refine g_get fl12_507 d12_game_63 f_74_51 ?_
    refine g_topL (lN ((gu lo wi n (gfi lo wi n 100 (gmi lo n))))) (h2) ?_
    refine g_lx_gt (((t * (gd lo wi n (gfi lo wi n 100 (gmi lo n)))) : Nat) : Int) (((gu lo wi n (gfi lo wi n 100 (gmi lo n))) : Nat) : Int) 74 (pk_lT (by omega)) (pk_lT (by omega)) d12_game_66 d12_game_67 rfl (fun c66 => absurd c66 (by omega)) (fun _ => ?_)
    refine g_iconstv (nI 1) d12_game_70 rfl ?_
    refine g_goto 75 d12_game_71 rfl ?_
    refine g_istore d12_game_75 (by decide) ?_
    refine g_iload_n d12_game_77 rfl ?_
    refine g_iconstv (nI 3) d12_game_78 rfl ?_
    refine g_ic_ge ((w : Nat) : Int) (3) 136 (nI_ti (by omega)) (by decide) d12_game_79 rfl (fun _ => ?_) (fun c79 => absurd c79 (by omega))
    refine g_iload_n d12_game_136 rfl ?_
    refine g_iconstv (nI 3) d12_game_137 rfl ?_
    refine g_isubN (by omega) d12_game_138 ?_
    refine g_iconstv (nI 2) d12_game_139 rfl ?_
    refine g_idiv d12_game_140 (by decide) ?_
    refine g_topI (nI (p)) (by rw [pk_div (by omega) (by decide) (by decide)]; congr 1; omega) ?_
    refine g_istore d12_game_141 (by decide) ?_
    refine g_aload_n d12_game_143 rfl ?_
    refine g_get fl12_507 d12_game_144 f_74_51 ?_
    refine g_topL (lN ((gu lo wi n (gfi lo wi n 100 (gmi lo n))))) (h2) ?_
    refine g_aload_n d12_game_147 rfl ?_
    refine g_iload d12_game_148 rfl ?_
    refine g_EV1 vm12_loss ml12_513 c_74 (r12_loss n lo wi (by exact hP) (p) (by omega) (Nat.le_refl 0)) (by omega) (Nat.le_of_ble_eq_true rfl) d12_game_150 ?_
    refine g_i2lN (by omega) d12_game_153 ?_
    refine g_aload_n d12_game_154 rfl ?_
    refine g_get fl12_510 d12_game_155 f_74_52 ?_
    refine g_topL (lN ((gd lo wi n (gfi lo wi n 100 (gmi lo n))))) (h3) ?_
    refine g_lmul d12_game_158 ?_
    refine g_topL (lN ((lo p) * (gd lo wi n (gfi lo wi n 100 (gmi lo n))))) (lN_mul _ _) ?_
    refine g_lsub d12_game_159 ?_
    refine g_lstore d12_game_160 (by decide) ?_
    refine g_aload_n d12_game_162 rfl ?_
    refine g_lload d12_game_163 rfl ?_
    refine g_lconstv (0) d12_game_165 rfl ?_
    refine g_lx_le ((((gu lo wi n (gfi lo wi n 100 (gmi lo n))) : Nat) : Int) - ((lo p * (gd lo wi n (gfi lo wi n 100 (gmi lo n))) : Nat) : Int)) (0) 175 (lsub_ti (by omega) (by omega)) (by decide) d12_game_166 d12_game_167 rfl (fun _ => ?_) (fun c166 => absurd c166 (by omega))
    refine g_lconstv (0) d12_game_175 rfl ?_
    refine g_aload_n d12_game_176 rfl ?_
    refine g_get fl12_510 d12_game_177 f_74_52 ?_
    refine g_topL (lN ((gd lo wi n (gfi lo wi n 100 (gmi lo n))))) (h3) ?_
    refine g_aload_n d12_game_180 rfl ?_
    refine g_iload d12_game_181 rfl ?_
    refine g_EV1 vm12_wide ml12_516 c_74 (r12_wide n lo wi (by exact hP) (p) (by omega) (Nat.le_refl 1)) (by omega) (Nat.le_of_ble_eq_true rfl) d12_game_183 ?_
    refine g_i2lN (by omega) d12_game_186 ?_
    refine g_lmul d12_game_187 ?_
    refine g_topL (lN ((gd lo wi n (gfi lo wi n 100 (gmi lo n))) * (wi p))) (lN_mul _ _) ?_
    refine g_VV2 vm12_shorten ml12_519 c_74 (r12_shorten (I := uI I 74 0 0) (L := x) 0 ((gd lo wi n (gfi lo wi n 100 (gmi lo n))) * wi p) (by omega) (by omega) hm3 (Nat.le_refl 1)) (by omega) (Nat.le_of_ble_eq_true rfl) d12_game_188 ?_
    refine g_iload_n d12_game_191 rfl ?_
    refine g_iconstv (nI 2) d12_game_192 rfl ?_
    refine g_irem d12_game_193 (by decide) ?_
    refine g_topI (nI (1)) (by rw [pk_rem (by omega) (by decide) (by decide)]; congr 1; omega) ?_
    refine g_iconstv (nI 1) d12_game_194 rfl ?_
    refine g_ic_ne ((1 : Nat) : Int) (1) 205 (nI_ti (by omega)) (by decide) d12_game_195 rfl (fun c195 => absurd c195 (by omega)) (fun _ => ?_)
    refine g_aload_n d12_game_198 rfl ?_
    refine g_get fl12_507 d12_game_199 f_74_51 ?_
    refine g_topL (lN (((gu lo wi n (gfi lo wi n 100 (gmi lo n))) - lo p * (gd lo wi n (gfi lo wi n 100 (gmi lo n)))) / Nat.gcd ((gu lo wi n (gfi lo wi n 100 (gmi lo n))) - lo p * (gd lo wi n (gfi lo wi n 100 (gmi lo n)))) ((gd lo wi n (gfi lo wi n 100 (gmi lo n))) * wi p))) (by rw [uL_sn (by decide), uL_ss]; rw [show ((gu lo wi n (gfi lo wi n 100 (gmi lo n))) - lo p * (gd lo wi n (gfi lo wi n 100 (gmi lo n)))) = 0 by omega]) ?_
    refine g_goto 209 d12_game_202 rfl ?_
    exact g_lret rfl d12_game_209 (⟨_, (hF0.ug (by decide)).ug (by decide), rfl, rfl⟩)
  · skip
    refine g_iload_n d12_game_55 rfl ?_
    refine g_i2lN (by omega) d12_game_56 ?_
    refine g_aload_n d12_game_57 rfl ?_
    refine g_get fl12_510 d12_game_58 f_74_52 ?_
    refine g_topL (lN ((gd lo wi n (gfi lo wi n 100 (gmi lo n))))) (h3) ?_
    refine g_lmul d12_game_61 ?_
    refine g_topL (lN (t * (gd lo wi n (gfi lo wi n 100 (gmi lo n))))) (lN_mul _ _) ?_
    refine g_aload_n d12_game_62 rfl ?_
    refine g_get fl12_507 d12_game_63 f_74_51 ?_
    refine g_topL (lN ((gu lo wi n (gfi lo wi n 100 (gmi lo n))))) (h2) ?_
    refine g_lx_gt (((t * (gd lo wi n (gfi lo wi n 100 (gmi lo n)))) : Nat) : Int) (((gu lo wi n (gfi lo wi n 100 (gmi lo n))) : Nat) : Int) 74 (pk_lT (by omega)) (pk_lT (by omega)) d12_game_66 d12_game_67 rfl (fun _ => ?_) (fun c66 => absurd c66 (by omega))
    refine g_iconstv (nI 0) d12_game_74 rfl ?_
    refine g_istore d12_game_75 (by decide) ?_
    refine g_iload_n d12_game_77 rfl ?_
    refine g_iconstv (nI 3) d12_game_78 rfl ?_
    refine g_ic_ge ((w : Nat) : Int) (3) 136 (nI_ti (by omega)) (by decide) d12_game_79 rfl (fun _ => ?_) (fun c79 => absurd c79 (by omega))
    refine g_iload_n d12_game_136 rfl ?_
    refine g_iconstv (nI 3) d12_game_137 rfl ?_
    refine g_isubN (by omega) d12_game_138 ?_
    refine g_iconstv (nI 2) d12_game_139 rfl ?_
    refine g_idiv d12_game_140 (by decide) ?_
    refine g_topI (nI (p)) (by rw [pk_div (by omega) (by decide) (by decide)]; congr 1; omega) ?_
    refine g_istore d12_game_141 (by decide) ?_
    refine g_aload_n d12_game_143 rfl ?_
    refine g_get fl12_507 d12_game_144 f_74_51 ?_
    refine g_topL (lN ((gu lo wi n (gfi lo wi n 100 (gmi lo n))))) (h2) ?_
    refine g_aload_n d12_game_147 rfl ?_
    refine g_iload d12_game_148 rfl ?_
    refine g_EV1 vm12_loss ml12_513 c_74 (r12_loss n lo wi (by exact hP) (p) (by omega) (Nat.le_refl 0)) (by omega) (Nat.le_of_ble_eq_true rfl) d12_game_150 ?_
    refine g_i2lN (by omega) d12_game_153 ?_
    refine g_aload_n d12_game_154 rfl ?_
    refine g_get fl12_510 d12_game_155 f_74_52 ?_
    refine g_topL (lN ((gd lo wi n (gfi lo wi n 100 (gmi lo n))))) (h3) ?_
    refine g_lmul d12_game_158 ?_
    refine g_topL (lN ((lo p) * (gd lo wi n (gfi lo wi n 100 (gmi lo n))))) (lN_mul _ _) ?_
    refine g_lsub d12_game_159 ?_
    refine g_topL (lN ((gu lo wi n (gfi lo wi n 100 (gmi lo n))) - ((lo p) * (gd lo wi n (gfi lo wi n 100 (gmi lo n)))))) (lN_sub (by omega)) ?_
    refine g_lstore d12_game_160 (by decide) ?_
    refine g_aload_n d12_game_162 rfl ?_
    refine g_lload d12_game_163 rfl ?_
    refine g_lconstv (0) d12_game_165 rfl ?_
    refine g_lx_le ((((gu lo wi n (gfi lo wi n 100 (gmi lo n))) - ((lo p) * (gd lo wi n (gfi lo wi n 100 (gmi lo n))))) : Nat) : Int) (0) 175 (pk_lT (by omega)) (by decide) d12_game_166 d12_game_167 rfl (fun c166 => absurd c166 (by omega)) (fun _ => ?_)
    refine g_lload d12_game_170 rfl ?_
    refine g_goto 176 d12_game_172 rfl ?_
    refine g_aload_n d12_game_176 rfl ?_
    refine g_get fl12_510 d12_game_177 f_74_52 ?_
    refine g_topL (lN ((gd lo wi n (gfi lo wi n 100 (gmi lo n))))) (h3) ?_
    refine g_aload_n d12_game_180 rfl ?_
    refine g_iload d12_game_181 rfl ?_
    refine g_EV1 vm12_wide ml12_516 c_74 (r12_wide n lo wi (by exact hP) (p) (by omega) (Nat.le_refl 1)) (by omega) (Nat.le_of_ble_eq_true rfl) d12_game_183 ?_
    refine g_i2lN (by omega) d12_game_186 ?_
    refine g_lmul d12_game_187 ?_
    refine g_topL (lN ((gd lo wi n (gfi lo wi n 100 (gmi lo n))) * (wi p))) (lN_mul _ _) ?_
    refine g_VV2 vm12_shorten ml12_519 c_74 (r12_shorten (I := uI I 74 0 0) (L := x) ((gu lo wi n (gfi lo wi n 100 (gmi lo n))) - lo p * (gd lo wi n (gfi lo wi n 100 (gmi lo n)))) ((gd lo wi n (gfi lo wi n 100 (gmi lo n))) * wi p) (by omega) (by omega) hm3 (Nat.le_refl 1)) (by omega) (Nat.le_of_ble_eq_true rfl) d12_game_188 ?_
    refine g_iload_n d12_game_191 rfl ?_
    refine g_iconstv (nI 2) d12_game_192 rfl ?_
    refine g_irem d12_game_193 (by decide) ?_
    refine g_topI (nI (1)) (by rw [pk_rem (by omega) (by decide) (by decide)]; congr 1; omega) ?_
    refine g_iconstv (nI 1) d12_game_194 rfl ?_
    refine g_ic_ne ((1 : Nat) : Int) (1) 205 (nI_ti (by omega)) (by decide) d12_game_195 rfl (fun c195 => absurd c195 (by omega)) (fun _ => ?_)
    refine g_aload_n d12_game_198 rfl ?_
    refine g_get fl12_507 d12_game_199 f_74_51 ?_
    refine g_topL (lN (((gu lo wi n (gfi lo wi n 100 (gmi lo n))) - lo p * (gd lo wi n (gfi lo wi n 100 (gmi lo n)))) / Nat.gcd ((gu lo wi n (gfi lo wi n 100 (gmi lo n))) - lo p * (gd lo wi n (gfi lo wi n 100 (gmi lo n)))) ((gd lo wi n (gfi lo wi n 100 (gmi lo n))) * wi p))) (by rw [uL_sn (by decide), uL_ss]) ?_
    refine g_goto 209 d12_game_202 rfl ?_
    exact g_lret rfl d12_game_209 (⟨_, (hF0.ug (by decide)).ug (by decide), rfl, rfl⟩)
  · skip
    refine g_iload_n d12_game_55 rfl ?_
    refine g_i2lN (by omega) d12_game_56 ?_
    refine g_aload_n d12_game_57 rfl ?_
    refine g_get fl12_510 d12_game_58 f_74_52 ?_
    refine g_topL (lN ((gd lo wi n (gfi lo wi n 100 (gmi lo n))))) (h3) ?_
    refine g_lmul d12_game_61 ?_
    refine g_topL (lN (t * (gd lo wi n (gfi lo wi n 100 (gmi lo n))))) (lN_mul _ _) ?_
    refine g_aload_n d12_game_62 rfl ?_
    refine g_get fl12_507 d12_game_63 f_74_51 ?_
    refine g_topL (lN ((gu lo wi n (gfi lo wi n 100 (gmi lo n))))) (h2) ?_
    refine g_lx_gt (((t * (gd lo wi n (gfi lo wi n 100 (gmi lo n)))) : Nat) : Int) (((gu lo wi n (gfi lo wi n 100 (gmi lo n))) : Nat) : Int) 74 (pk_lT (by omega)) (pk_lT (by omega)) d12_game_66 d12_game_67 rfl (fun _ => ?_) (fun c66 => absurd c66 (by omega))
    refine g_iconstv (nI 0) d12_game_74 rfl ?_
    refine g_istore d12_game_75 (by decide) ?_
    refine g_iload_n d12_game_77 rfl ?_
    refine g_iconstv (nI 3) d12_game_78 rfl ?_
    refine g_ic_ge ((w : Nat) : Int) (3) 136 (nI_ti (by omega)) (by decide) d12_game_79 rfl (fun _ => ?_) (fun c79 => absurd c79 (by omega))
    refine g_iload_n d12_game_136 rfl ?_
    refine g_iconstv (nI 3) d12_game_137 rfl ?_
    refine g_isubN (by omega) d12_game_138 ?_
    refine g_iconstv (nI 2) d12_game_139 rfl ?_
    refine g_idiv d12_game_140 (by decide) ?_
    refine g_topI (nI (p)) (by rw [pk_div (by omega) (by decide) (by decide)]; congr 1; omega) ?_
    refine g_istore d12_game_141 (by decide) ?_
    refine g_aload_n d12_game_143 rfl ?_
    refine g_get fl12_507 d12_game_144 f_74_51 ?_
    refine g_topL (lN ((gu lo wi n (gfi lo wi n 100 (gmi lo n))))) (h2) ?_
    refine g_aload_n d12_game_147 rfl ?_
    refine g_iload d12_game_148 rfl ?_
    refine g_EV1 vm12_loss ml12_513 c_74 (r12_loss n lo wi (by exact hP) (p) (by omega) (Nat.le_refl 0)) (by omega) (Nat.le_of_ble_eq_true rfl) d12_game_150 ?_
    refine g_i2lN (by omega) d12_game_153 ?_
    refine g_aload_n d12_game_154 rfl ?_
    refine g_get fl12_510 d12_game_155 f_74_52 ?_
    refine g_topL (lN ((gd lo wi n (gfi lo wi n 100 (gmi lo n))))) (h3) ?_
    refine g_lmul d12_game_158 ?_
    refine g_topL (lN ((lo p) * (gd lo wi n (gfi lo wi n 100 (gmi lo n))))) (lN_mul _ _) ?_
    refine g_lsub d12_game_159 ?_
    refine g_lstore d12_game_160 (by decide) ?_
    refine g_aload_n d12_game_162 rfl ?_
    refine g_lload d12_game_163 rfl ?_
    refine g_lconstv (0) d12_game_165 rfl ?_
    refine g_lx_le ((((gu lo wi n (gfi lo wi n 100 (gmi lo n))) : Nat) : Int) - ((lo p * (gd lo wi n (gfi lo wi n 100 (gmi lo n))) : Nat) : Int)) (0) 175 (lsub_ti (by omega) (by omega)) (by decide) d12_game_166 d12_game_167 rfl (fun _ => ?_) (fun c166 => absurd c166 (by omega))
    refine g_lconstv (0) d12_game_175 rfl ?_
    refine g_aload_n d12_game_176 rfl ?_
    refine g_get fl12_510 d12_game_177 f_74_52 ?_
    refine g_topL (lN ((gd lo wi n (gfi lo wi n 100 (gmi lo n))))) (h3) ?_
    refine g_aload_n d12_game_180 rfl ?_
    refine g_iload d12_game_181 rfl ?_
    refine g_EV1 vm12_wide ml12_516 c_74 (r12_wide n lo wi (by exact hP) (p) (by omega) (Nat.le_refl 1)) (by omega) (Nat.le_of_ble_eq_true rfl) d12_game_183 ?_
    refine g_i2lN (by omega) d12_game_186 ?_
    refine g_lmul d12_game_187 ?_
    refine g_topL (lN ((gd lo wi n (gfi lo wi n 100 (gmi lo n))) * (wi p))) (lN_mul _ _) ?_
    refine g_VV2 vm12_shorten ml12_519 c_74 (r12_shorten (I := uI I 74 0 0) (L := x) 0 ((gd lo wi n (gfi lo wi n 100 (gmi lo n))) * wi p) (by omega) (by omega) hm3 (Nat.le_refl 1)) (by omega) (Nat.le_of_ble_eq_true rfl) d12_game_188 ?_
    refine g_iload_n d12_game_191 rfl ?_
    refine g_iconstv (nI 2) d12_game_192 rfl ?_
    refine g_irem d12_game_193 (by decide) ?_
    refine g_topI (nI (1)) (by rw [pk_rem (by omega) (by decide) (by decide)]; congr 1; omega) ?_
    refine g_iconstv (nI 1) d12_game_194 rfl ?_
    refine g_ic_ne ((1 : Nat) : Int) (1) 205 (nI_ti (by omega)) (by decide) d12_game_195 rfl (fun c195 => absurd c195 (by omega)) (fun _ => ?_)
    refine g_aload_n d12_game_198 rfl ?_
    refine g_get fl12_507 d12_game_199 f_74_51 ?_
    refine g_topL (lN (((gu lo wi n (gfi lo wi n 100 (gmi lo n))) - lo p * (gd lo wi n (gfi lo wi n 100 (gmi lo n)))) / Nat.gcd ((gu lo wi n (gfi lo wi n 100 (gmi lo n))) - lo p * (gd lo wi n (gfi lo wi n 100 (gmi lo n)))) ((gd lo wi n (gfi lo wi n 100 (gmi lo n))) * wi p))) (by rw [uL_sn (by decide), uL_ss]; rw [show ((gu lo wi n (gfi lo wi n 100 (gmi lo n))) - lo p * (gd lo wi n (gfi lo wi n 100 (gmi lo n)))) = 0 by omega]) ?_
    refine g_goto 209 d12_game_202 rfl ?_
    exact g_lret rfl d12_game_209 (⟨_, (hF0.ug (by decide)).ug (by decide), rfl, rfl⟩)
set_option maxHeartbeats 400000 in
theorem r12_game_3b {l : Launch} {K : cK} {d : Nat} {I : wI} {L : wL} {R : wR} {dy : cH} (n : Nat) (lo wi : Nat → Nat) (hP : PL I n lo wi) (hn0 : 0 < n) (t : Nat) (ht9 : t ≤ 99) (p w : Nat) (hpp : p < n) (hw : w = 3 + 2 * p + 1) (hD0 : 0 < (gd lo wi n (gfi lo wi n 100 (gmi lo n)))) (hd : 4 ≤ d) : CX l K m12_game d [.ref 74, .int (nI t), .int (nI w)] (hp I L R dy) (α := wL) (fun x => FR [] [0] [] [51, 52] I L (uI I 74 0 0) x) (fun _ => .long (lN (((gd lo wi n (gfi lo wi n 100 (gmi lo n))) * wi p) / Nat.gcd ((gu lo wi n (gfi lo wi n 100 (gmi lo n))) - lo p * (gd lo wi n (gfi lo wi n 100 (gmi lo n)))) ((gd lo wi n (gfi lo wi n 100 (gmi lo n))) * wi p)))) (fun x => hp (uI I 74 0 0) x R dy) := by
  obtain ⟨hn, hn6, hq⟩ := id hP
  have hw9 : ∀ p, p < n → 1 ≤ wi p ∧ wi p ≤ 99 := fun p hp => by obtain ⟨a1, a2, a3, a4⟩ := hq p hp; exact ⟨a3, by omega⟩
  have hl9 : ∀ p, p < n → lo p ≤ 99 := fun p hp => by obtain ⟨a1, a2, a3, a4⟩ := hq p hp; omega
  have hw0 := hw9 p hpp
  have hl0 := hl9 p hpp
  refine CC.of ok12_game (Nat.le_of_ble_eq_true rfl) ?_
  refine g_aload_n d12_game_0 rfl ?_
  refine g_iconstv (nI 0) d12_game_1 rfl ?_
  refine g_putIh _ fl12_128 d12_game_2 f_74_0 s_74_0 ?_
  refine g_aload_n d12_game_5 rfl ?_
  refine g_get fl12_13 d12_game_6 f_74_3 ?_
  refine g_iconstv (nI 3) d12_game_9 rfl ?_
  refine g_ialdN (3) d12_game_10 a_76 (rfl) (by omega) (by decide) ?_
  refine g_topI (nI (n)) (hn) ?_
  refine g_istore_n d12_game_11 (by decide) ?_
  refine g_iload_n d12_game_12 rfl ?_
  refine g_i2lN (by omega) d12_game_13 ?_
  refine g_lconstv (0) d12_game_14 rfl ?_
  refine g_ldc2 d12_game_15 kl12_172 ?_
  refine g_ES3 sm12_in ml12_134 (r12_inI (vi := ((t : Nat) : Int)) (ai := (0)) (bi := (99)) (pk_lT (by omega)) (by decide) (by decide) (Nat.le_refl 0)) (by omega) (Nat.le_of_ble_eq_true rfl) d12_game_18 ?_
  refine g_bz 47 d12_game_21 rfl (fun c21 => absurd c21 (fun q => q (by omega))) (fun _ => ?_)
  refine g_iload_n d12_game_24 rfl ?_
  refine g_iz_eq ((n : Nat) : Int) 47 (nI_ti (by omega)) d12_game_25 rfl (fun c25 => absurd c25 (by omega)) (fun _ => ?_)
  refine g_iload_n d12_game_28 rfl ?_
  refine g_i2lN (by omega) d12_game_29 ?_
  refine g_lconstv (0) d12_game_30 rfl ?_
  refine g_ldc2 d12_game_31 kl12_401 ?_
  refine g_ldc2 d12_game_34 kl12_401 ?_
  refine g_iload_n d12_game_37 rfl ?_
  refine g_i2lN (by omega) d12_game_38 ?_
  refine g_lmul d12_game_39 ?_
  refine g_topL (lN (2 * n)) (lN_mul _ _) ?_
  refine g_ladd d12_game_40 ?_
  refine g_topL (lN (2 + (2 * n))) (lN_add _ _) ?_
  refine g_ES3 sm12_in ml12_134 (r12_inI (vi := ((w : Nat) : Int)) (ai := (0)) (bi := (((2 + (2 * n)) : Nat) : Int)) (pk_lT (by omega)) (by decide) (pk_lT (by omega)) (Nat.le_refl 0)) (by omega) (Nat.le_of_ble_eq_true rfl) d12_game_41 ?_
  refine g_bnz 51 d12_game_44 rfl (fun _ => ?_) (fun c44 => absurd c44 (fun q => q (by omega)))
  refine g_aload_n d12_game_51 rfl ?_
  refine g_WV0 vm12_findValue ml12_526 c_74 (r12_findValue (I := uI I 74 0 0) n lo wi (by exact hP) hn0 (Nat.le_refl 3)) (by omega) (Nat.le_of_ble_eq_true rfl) d12_game_52 (fun x hx => ?_)
  obtain ⟨h1, h2, h3⟩ := hx
  have hb := gu_le (mo := (gfi lo wi n 100 (gmi lo n))) hn6 hw9 hl9
  have hF0 : FR [] [0] [] [51, 52] I L (uI I 74 0 0) x := (FR.rf.uf (j := 0) (by decide)).tr (h1.up (by decide) (by decide) (by decide) (by decide))
  have hmul : t * (gd lo wi n (gfi lo wi n 100 (gmi lo n))) ≤ 99 * 10000000000000 := Nat.mul_le_mul ht9 hb.2
  have hm1 : lo p * (gd lo wi n (gfi lo wi n 100 (gmi lo n))) ≤ 99 * 10000000000000 := Nat.mul_le_mul hl0 hb.2
  have hm2 : (gd lo wi n (gfi lo wi n 100 (gmi lo n))) * wi p ≤ 10000000000000 * 99 := Nat.mul_le_mul hb.2 hw0.2
  have hm3 : 0 < (gd lo wi n (gfi lo wi n 100 (gmi lo n))) * wi p := Nat.mul_pos hD0 hw0.1
  by_cases hpay : t * (gd lo wi n (gfi lo wi n 100 (gmi lo n))) ≤ (gu lo wi n (gfi lo wi n 100 (gmi lo n))) <;> by_cases hup : lo p * (gd lo wi n (gfi lo wi n 100 (gmi lo n))) < (gu lo wi n (gfi lo wi n 100 (gmi lo n)))
  · skip
    refine g_iload_n d12_game_55 rfl ?_
    refine g_i2lN (by omega) d12_game_56 ?_
    refine g_aload_n d12_game_57 rfl ?_
    refine g_get fl12_510 d12_game_58 f_74_52 ?_
    refine g_topL (lN ((gd lo wi n (gfi lo wi n 100 (gmi lo n))))) (h3) ?_
    refine g_lmul d12_game_61 ?_
    refine g_topL (lN (t * (gd lo wi n (gfi lo wi n 100 (gmi lo n))))) (lN_mul _ _) ?_
    refine g_aload_n d12_game_62 rfl ?_
    refine g_get fl12_507 d12_game_63 f_74_51 ?_
    refine g_topL (lN ((gu lo wi n (gfi lo wi n 100 (gmi lo n))))) (h2) ?_
    refine g_lx_gt (((t * (gd lo wi n (gfi lo wi n 100 (gmi lo n)))) : Nat) : Int) (((gu lo wi n (gfi lo wi n 100 (gmi lo n))) : Nat) : Int) 74 (pk_lT (by omega)) (pk_lT (by omega)) d12_game_66 d12_game_67 rfl (fun c66 => absurd c66 (by omega)) (fun _ => ?_)
    refine g_iconstv (nI 1) d12_game_70 rfl ?_
    refine g_goto 75 d12_game_71 rfl ?_
    refine g_istore d12_game_75 (by decide) ?_
    refine g_iload_n d12_game_77 rfl ?_
    refine g_iconstv (nI 3) d12_game_78 rfl ?_
    refine g_ic_ge ((w : Nat) : Int) (3) 136 (nI_ti (by omega)) (by decide) d12_game_79 rfl (fun _ => ?_) (fun c79 => absurd c79 (by omega))
    refine g_iload_n d12_game_136 rfl ?_
    refine g_iconstv (nI 3) d12_game_137 rfl ?_
    refine g_isubN (by omega) d12_game_138 ?_
    refine g_iconstv (nI 2) d12_game_139 rfl ?_
    refine g_idiv d12_game_140 (by decide) ?_
    refine g_topI (nI (p)) (by rw [pk_div (by omega) (by decide) (by decide)]; congr 1; omega) ?_
    refine g_istore d12_game_141 (by decide) ?_
    refine g_aload_n d12_game_143 rfl ?_
    refine g_get fl12_507 d12_game_144 f_74_51 ?_
    refine g_topL (lN ((gu lo wi n (gfi lo wi n 100 (gmi lo n))))) (h2) ?_
    refine g_aload_n d12_game_147 rfl ?_
    refine g_iload d12_game_148 rfl ?_
    refine g_EV1 vm12_loss ml12_513 c_74 (r12_loss n lo wi (by exact hP) (p) (by omega) (Nat.le_refl 0)) (by omega) (Nat.le_of_ble_eq_true rfl) d12_game_150 ?_
    refine g_i2lN (by omega) d12_game_153 ?_
    refine g_aload_n d12_game_154 rfl ?_
    refine g_get fl12_510 d12_game_155 f_74_52 ?_
    refine g_topL (lN ((gd lo wi n (gfi lo wi n 100 (gmi lo n))))) (h3) ?_
    refine g_lmul d12_game_158 ?_
    refine g_topL (lN ((lo p) * (gd lo wi n (gfi lo wi n 100 (gmi lo n))))) (lN_mul _ _) ?_
    refine g_lsub d12_game_159 ?_
    refine g_topL (lN ((gu lo wi n (gfi lo wi n 100 (gmi lo n))) - ((lo p) * (gd lo wi n (gfi lo wi n 100 (gmi lo n)))))) (lN_sub (by omega)) ?_
    refine g_lstore d12_game_160 (by decide) ?_
    refine g_aload_n d12_game_162 rfl ?_
    refine g_lload d12_game_163 rfl ?_
    refine g_lconstv (0) d12_game_165 rfl ?_
    refine g_lx_le ((((gu lo wi n (gfi lo wi n 100 (gmi lo n))) - ((lo p) * (gd lo wi n (gfi lo wi n 100 (gmi lo n))))) : Nat) : Int) (0) 175 (pk_lT (by omega)) (by decide) d12_game_166 d12_game_167 rfl (fun c166 => absurd c166 (by omega)) (fun _ => ?_)
    refine g_lload d12_game_170 rfl ?_
    refine g_goto 176 d12_game_172 rfl ?_
    refine g_aload_n d12_game_176 rfl ?_
    refine g_get fl12_510 d12_game_177 f_74_52 ?_
    refine g_topL (lN ((gd lo wi n (gfi lo wi n 100 (gmi lo n))))) (h3) ?_
    refine g_aload_n d12_game_180 rfl ?_
    refine g_iload d12_game_181 rfl ?_
    refine g_EV1 vm12_wide ml12_516 c_74 (r12_wide n lo wi (by exact hP) (p) (by omega) (Nat.le_refl 1)) (by omega) (Nat.le_of_ble_eq_true rfl) d12_game_183 ?_
    refine g_i2lN (by omega) d12_game_186 ?_
    refine g_lmul d12_game_187 ?_
    refine g_topL (lN ((gd lo wi n (gfi lo wi n 100 (gmi lo n))) * (wi p))) (lN_mul _ _) ?_
    refine g_VV2 vm12_shorten ml12_519 c_74 (r12_shorten (I := uI I 74 0 0) (L := x) ((gu lo wi n (gfi lo wi n 100 (gmi lo n))) - lo p * (gd lo wi n (gfi lo wi n 100 (gmi lo n)))) ((gd lo wi n (gfi lo wi n 100 (gmi lo n))) * wi p) (by omega) (by omega) hm3 (Nat.le_refl 1)) (by omega) (Nat.le_of_ble_eq_true rfl) d12_game_188 ?_
    refine g_iload_n d12_game_191 rfl ?_
    refine g_iconstv (nI 2) d12_game_192 rfl ?_
    refine g_irem d12_game_193 (by decide) ?_
    refine g_topI (nI (0)) (by rw [pk_rem (by omega) (by decide) (by decide)]; congr 1; omega) ?_
    refine g_iconstv (nI 1) d12_game_194 rfl ?_
    refine g_ic_ne ((0 : Nat) : Int) (1) 205 (nI_ti (by omega)) (by decide) d12_game_195 rfl (fun _ => ?_) (fun c195 => absurd c195 (by omega))
    refine g_aload_n d12_game_205 rfl ?_
    refine g_get fl12_510 d12_game_206 f_74_52 ?_
    refine g_topL (lN (((gd lo wi n (gfi lo wi n 100 (gmi lo n))) * wi p) / Nat.gcd ((gu lo wi n (gfi lo wi n 100 (gmi lo n))) - lo p * (gd lo wi n (gfi lo wi n 100 (gmi lo n)))) ((gd lo wi n (gfi lo wi n 100 (gmi lo n))) * wi p))) (by rw [uL_ss]) ?_
    exact g_lret rfl d12_game_209 (⟨_, (hF0.ug (by decide)).ug (by decide), rfl, rfl⟩)
  · skip
    refine g_iload_n d12_game_55 rfl ?_
    refine g_i2lN (by omega) d12_game_56 ?_
    refine g_aload_n d12_game_57 rfl ?_
    refine g_get fl12_510 d12_game_58 f_74_52 ?_
    refine g_topL (lN ((gd lo wi n (gfi lo wi n 100 (gmi lo n))))) (h3) ?_
    refine g_lmul d12_game_61 ?_
    refine g_topL (lN (t * (gd lo wi n (gfi lo wi n 100 (gmi lo n))))) (lN_mul _ _) ?_
    refine g_aload_n d12_game_62 rfl ?_
    refine g_get fl12_507 d12_game_63 f_74_51 ?_
    refine g_topL (lN ((gu lo wi n (gfi lo wi n 100 (gmi lo n))))) (h2) ?_
    refine g_lx_gt (((t * (gd lo wi n (gfi lo wi n 100 (gmi lo n)))) : Nat) : Int) (((gu lo wi n (gfi lo wi n 100 (gmi lo n))) : Nat) : Int) 74 (pk_lT (by omega)) (pk_lT (by omega)) d12_game_66 d12_game_67 rfl (fun c66 => absurd c66 (by omega)) (fun _ => ?_)
    refine g_iconstv (nI 1) d12_game_70 rfl ?_
    refine g_goto 75 d12_game_71 rfl ?_
    refine g_istore d12_game_75 (by decide) ?_
    refine g_iload_n d12_game_77 rfl ?_
    refine g_iconstv (nI 3) d12_game_78 rfl ?_
    refine g_ic_ge ((w : Nat) : Int) (3) 136 (nI_ti (by omega)) (by decide) d12_game_79 rfl (fun _ => ?_) (fun c79 => absurd c79 (by omega))
    refine g_iload_n d12_game_136 rfl ?_
    refine g_iconstv (nI 3) d12_game_137 rfl ?_
    refine g_isubN (by omega) d12_game_138 ?_
    refine g_iconstv (nI 2) d12_game_139 rfl ?_
    refine g_idiv d12_game_140 (by decide) ?_
    refine g_topI (nI (p)) (by rw [pk_div (by omega) (by decide) (by decide)]; congr 1; omega) ?_
    refine g_istore d12_game_141 (by decide) ?_
    refine g_aload_n d12_game_143 rfl ?_
    refine g_get fl12_507 d12_game_144 f_74_51 ?_
    refine g_topL (lN ((gu lo wi n (gfi lo wi n 100 (gmi lo n))))) (h2) ?_
    refine g_aload_n d12_game_147 rfl ?_
    refine g_iload d12_game_148 rfl ?_
    refine g_EV1 vm12_loss ml12_513 c_74 (r12_loss n lo wi (by exact hP) (p) (by omega) (Nat.le_refl 0)) (by omega) (Nat.le_of_ble_eq_true rfl) d12_game_150 ?_
    refine g_i2lN (by omega) d12_game_153 ?_
    refine g_aload_n d12_game_154 rfl ?_
    refine g_get fl12_510 d12_game_155 f_74_52 ?_
    refine g_topL (lN ((gd lo wi n (gfi lo wi n 100 (gmi lo n))))) (h3) ?_
    refine g_lmul d12_game_158 ?_
    refine g_topL (lN ((lo p) * (gd lo wi n (gfi lo wi n 100 (gmi lo n))))) (lN_mul _ _) ?_
    refine g_lsub d12_game_159 ?_
    refine g_lstore d12_game_160 (by decide) ?_
    refine g_aload_n d12_game_162 rfl ?_
    refine g_lload d12_game_163 rfl ?_
    refine g_lconstv (0) d12_game_165 rfl ?_
    refine g_lx_le ((((gu lo wi n (gfi lo wi n 100 (gmi lo n))) : Nat) : Int) - ((lo p * (gd lo wi n (gfi lo wi n 100 (gmi lo n))) : Nat) : Int)) (0) 175 (lsub_ti (by omega) (by omega)) (by decide) d12_game_166 d12_game_167 rfl (fun _ => ?_) (fun c166 => absurd c166 (by omega))
    refine g_lconstv (0) d12_game_175 rfl ?_
    refine g_aload_n d12_game_176 rfl ?_
    refine g_get fl12_510 d12_game_177 f_74_52 ?_
    refine g_topL (lN ((gd lo wi n (gfi lo wi n 100 (gmi lo n))))) (h3) ?_
    refine g_aload_n d12_game_180 rfl ?_
    refine g_iload d12_game_181 rfl ?_
    refine g_EV1 vm12_wide ml12_516 c_74 (r12_wide n lo wi (by exact hP) (p) (by omega) (Nat.le_refl 1)) (by omega) (Nat.le_of_ble_eq_true rfl) d12_game_183 ?_
    refine g_i2lN (by omega) d12_game_186 ?_
    refine g_lmul d12_game_187 ?_
    refine g_topL (lN ((gd lo wi n (gfi lo wi n 100 (gmi lo n))) * (wi p))) (lN_mul _ _) ?_
    refine g_VV2 vm12_shorten ml12_519 c_74 (r12_shorten (I := uI I 74 0 0) (L := x) 0 ((gd lo wi n (gfi lo wi n 100 (gmi lo n))) * wi p) (by omega) (by omega) hm3 (Nat.le_refl 1)) (by omega) (Nat.le_of_ble_eq_true rfl) d12_game_188 ?_
    refine g_iload_n d12_game_191 rfl ?_
    refine g_iconstv (nI 2) d12_game_192 rfl ?_
    refine g_irem d12_game_193 (by decide) ?_
    refine g_topI (nI (0)) (by rw [pk_rem (by omega) (by decide) (by decide)]; congr 1; omega) ?_
    refine g_iconstv (nI 1) d12_game_194 rfl ?_
    refine g_ic_ne ((0 : Nat) : Int) (1) 205 (nI_ti (by omega)) (by decide) d12_game_195 rfl (fun _ => ?_) (fun c195 => absurd c195 (by omega))
    refine g_aload_n d12_game_205 rfl ?_
    refine g_get fl12_510 d12_game_206 f_74_52 ?_
    refine g_topL (lN (((gd lo wi n (gfi lo wi n 100 (gmi lo n))) * wi p) / Nat.gcd ((gu lo wi n (gfi lo wi n 100 (gmi lo n))) - lo p * (gd lo wi n (gfi lo wi n 100 (gmi lo n)))) ((gd lo wi n (gfi lo wi n 100 (gmi lo n))) * wi p))) (by rw [uL_ss]; rw [show ((gu lo wi n (gfi lo wi n 100 (gmi lo n))) - lo p * (gd lo wi n (gfi lo wi n 100 (gmi lo n)))) = 0 by omega]) ?_
    exact g_lret rfl d12_game_209 (⟨_, (hF0.ug (by decide)).ug (by decide), rfl, rfl⟩)
  · skip
    refine g_iload_n d12_game_55 rfl ?_
    refine g_i2lN (by omega) d12_game_56 ?_
    refine g_aload_n d12_game_57 rfl ?_
    refine g_get fl12_510 d12_game_58 f_74_52 ?_
    refine g_topL (lN ((gd lo wi n (gfi lo wi n 100 (gmi lo n))))) (h3) ?_
    refine g_lmul d12_game_61 ?_
    refine g_topL (lN (t * (gd lo wi n (gfi lo wi n 100 (gmi lo n))))) (lN_mul _ _) ?_
    refine g_aload_n d12_game_62 rfl ?_
    refine g_get fl12_507 d12_game_63 f_74_51 ?_
    refine g_topL (lN ((gu lo wi n (gfi lo wi n 100 (gmi lo n))))) (h2) ?_
    refine g_lx_gt (((t * (gd lo wi n (gfi lo wi n 100 (gmi lo n)))) : Nat) : Int) (((gu lo wi n (gfi lo wi n 100 (gmi lo n))) : Nat) : Int) 74 (pk_lT (by omega)) (pk_lT (by omega)) d12_game_66 d12_game_67 rfl (fun _ => ?_) (fun c66 => absurd c66 (by omega))
    refine g_iconstv (nI 0) d12_game_74 rfl ?_
    refine g_istore d12_game_75 (by decide) ?_
    refine g_iload_n d12_game_77 rfl ?_
    refine g_iconstv (nI 3) d12_game_78 rfl ?_
    refine g_ic_ge ((w : Nat) : Int) (3) 136 (nI_ti (by omega)) (by decide) d12_game_79 rfl (fun _ => ?_) (fun c79 => absurd c79 (by omega))
    refine g_iload_n d12_game_136 rfl ?_
    refine g_iconstv (nI 3) d12_game_137 rfl ?_
    refine g_isubN (by omega) d12_game_138 ?_
    refine g_iconstv (nI 2) d12_game_139 rfl ?_
    refine g_idiv d12_game_140 (by decide) ?_
    refine g_topI (nI (p)) (by rw [pk_div (by omega) (by decide) (by decide)]; congr 1; omega) ?_
    refine g_istore d12_game_141 (by decide) ?_
    refine g_aload_n d12_game_143 rfl ?_
    refine g_get fl12_507 d12_game_144 f_74_51 ?_
    refine g_topL (lN ((gu lo wi n (gfi lo wi n 100 (gmi lo n))))) (h2) ?_
    refine g_aload_n d12_game_147 rfl ?_
    refine g_iload d12_game_148 rfl ?_
    refine g_EV1 vm12_loss ml12_513 c_74 (r12_loss n lo wi (by exact hP) (p) (by omega) (Nat.le_refl 0)) (by omega) (Nat.le_of_ble_eq_true rfl) d12_game_150 ?_
    refine g_i2lN (by omega) d12_game_153 ?_
    refine g_aload_n d12_game_154 rfl ?_
    refine g_get fl12_510 d12_game_155 f_74_52 ?_
    refine g_topL (lN ((gd lo wi n (gfi lo wi n 100 (gmi lo n))))) (h3) ?_
    refine g_lmul d12_game_158 ?_
    refine g_topL (lN ((lo p) * (gd lo wi n (gfi lo wi n 100 (gmi lo n))))) (lN_mul _ _) ?_
    refine g_lsub d12_game_159 ?_
    refine g_topL (lN ((gu lo wi n (gfi lo wi n 100 (gmi lo n))) - ((lo p) * (gd lo wi n (gfi lo wi n 100 (gmi lo n)))))) (lN_sub (by omega)) ?_
    refine g_lstore d12_game_160 (by decide) ?_
    refine g_aload_n d12_game_162 rfl ?_
    refine g_lload d12_game_163 rfl ?_
    refine g_lconstv (0) d12_game_165 rfl ?_
    refine g_lx_le ((((gu lo wi n (gfi lo wi n 100 (gmi lo n))) - ((lo p) * (gd lo wi n (gfi lo wi n 100 (gmi lo n))))) : Nat) : Int) (0) 175 (pk_lT (by omega)) (by decide) d12_game_166 d12_game_167 rfl (fun c166 => absurd c166 (by omega)) (fun _ => ?_)
    refine g_lload d12_game_170 rfl ?_
    refine g_goto 176 d12_game_172 rfl ?_
    refine g_aload_n d12_game_176 rfl ?_
    refine g_get fl12_510 d12_game_177 f_74_52 ?_
    refine g_topL (lN ((gd lo wi n (gfi lo wi n 100 (gmi lo n))))) (h3) ?_
    refine g_aload_n d12_game_180 rfl ?_
    refine g_iload d12_game_181 rfl ?_
    refine g_EV1 vm12_wide ml12_516 c_74 (r12_wide n lo wi (by exact hP) (p) (by omega) (Nat.le_refl 1)) (by omega) (Nat.le_of_ble_eq_true rfl) d12_game_183 ?_
    refine g_i2lN (by omega) d12_game_186 ?_
    refine g_lmul d12_game_187 ?_
    refine g_topL (lN ((gd lo wi n (gfi lo wi n 100 (gmi lo n))) * (wi p))) (lN_mul _ _) ?_
    refine g_VV2 vm12_shorten ml12_519 c_74 (r12_shorten (I := uI I 74 0 0) (L := x) ((gu lo wi n (gfi lo wi n 100 (gmi lo n))) - lo p * (gd lo wi n (gfi lo wi n 100 (gmi lo n)))) ((gd lo wi n (gfi lo wi n 100 (gmi lo n))) * wi p) (by omega) (by omega) hm3 (Nat.le_refl 1)) (by omega) (Nat.le_of_ble_eq_true rfl) d12_game_188 ?_
    refine g_iload_n d12_game_191 rfl ?_
    refine g_iconstv (nI 2) d12_game_192 rfl ?_
    refine g_irem d12_game_193 (by decide) ?_
    refine g_topI (nI (0)) (by rw [pk_rem (by omega) (by decide) (by decide)]; congr 1; omega) ?_
    refine g_iconstv (nI 1) d12_game_194 rfl ?_
    refine g_ic_ne ((0 : Nat) : Int) (1) 205 (nI_ti (by omega)) (by decide) d12_game_195 rfl (fun _ => ?_) (fun c195 => absurd c195 (by omega))
    refine g_aload_n d12_game_205 rfl ?_
    refine g_get fl12_510 d12_game_206 f_74_52 ?_
    refine g_topL (lN (((gd lo wi n (gfi lo wi n 100 (gmi lo n))) * wi p) / Nat.gcd ((gu lo wi n (gfi lo wi n 100 (gmi lo n))) - lo p * (gd lo wi n (gfi lo wi n 100 (gmi lo n)))) ((gd lo wi n (gfi lo wi n 100 (gmi lo n))) * wi p))) (by rw [uL_ss]) ?_
    exact g_lret rfl d12_game_209 (⟨_, (hF0.ug (by decide)).ug (by decide), rfl, rfl⟩)
  · skip
    refine g_iload_n d12_game_55 rfl ?_
    refine g_i2lN (by omega) d12_game_56 ?_
    refine g_aload_n d12_game_57 rfl ?_
    refine g_get fl12_510 d12_game_58 f_74_52 ?_
    refine g_topL (lN ((gd lo wi n (gfi lo wi n 100 (gmi lo n))))) (h3) ?_
    refine g_lmul d12_game_61 ?_
    refine g_topL (lN (t * (gd lo wi n (gfi lo wi n 100 (gmi lo n))))) (lN_mul _ _) ?_
    refine g_aload_n d12_game_62 rfl ?_
    refine g_get fl12_507 d12_game_63 f_74_51 ?_
    refine g_topL (lN ((gu lo wi n (gfi lo wi n 100 (gmi lo n))))) (h2) ?_
    refine g_lx_gt (((t * (gd lo wi n (gfi lo wi n 100 (gmi lo n)))) : Nat) : Int) (((gu lo wi n (gfi lo wi n 100 (gmi lo n))) : Nat) : Int) 74 (pk_lT (by omega)) (pk_lT (by omega)) d12_game_66 d12_game_67 rfl (fun _ => ?_) (fun c66 => absurd c66 (by omega))
    refine g_iconstv (nI 0) d12_game_74 rfl ?_
    refine g_istore d12_game_75 (by decide) ?_
    refine g_iload_n d12_game_77 rfl ?_
    refine g_iconstv (nI 3) d12_game_78 rfl ?_
    refine g_ic_ge ((w : Nat) : Int) (3) 136 (nI_ti (by omega)) (by decide) d12_game_79 rfl (fun _ => ?_) (fun c79 => absurd c79 (by omega))
    refine g_iload_n d12_game_136 rfl ?_
    refine g_iconstv (nI 3) d12_game_137 rfl ?_
    refine g_isubN (by omega) d12_game_138 ?_
    refine g_iconstv (nI 2) d12_game_139 rfl ?_
    refine g_idiv d12_game_140 (by decide) ?_
    refine g_topI (nI (p)) (by rw [pk_div (by omega) (by decide) (by decide)]; congr 1; omega) ?_
    refine g_istore d12_game_141 (by decide) ?_
    refine g_aload_n d12_game_143 rfl ?_
    refine g_get fl12_507 d12_game_144 f_74_51 ?_
    refine g_topL (lN ((gu lo wi n (gfi lo wi n 100 (gmi lo n))))) (h2) ?_
    refine g_aload_n d12_game_147 rfl ?_
    refine g_iload d12_game_148 rfl ?_
    refine g_EV1 vm12_loss ml12_513 c_74 (r12_loss n lo wi (by exact hP) (p) (by omega) (Nat.le_refl 0)) (by omega) (Nat.le_of_ble_eq_true rfl) d12_game_150 ?_
    refine g_i2lN (by omega) d12_game_153 ?_
    refine g_aload_n d12_game_154 rfl ?_
    refine g_get fl12_510 d12_game_155 f_74_52 ?_
    refine g_topL (lN ((gd lo wi n (gfi lo wi n 100 (gmi lo n))))) (h3) ?_
    refine g_lmul d12_game_158 ?_
    refine g_topL (lN ((lo p) * (gd lo wi n (gfi lo wi n 100 (gmi lo n))))) (lN_mul _ _) ?_
    refine g_lsub d12_game_159 ?_
    refine g_lstore d12_game_160 (by decide) ?_
    refine g_aload_n d12_game_162 rfl ?_
    refine g_lload d12_game_163 rfl ?_
    refine g_lconstv (0) d12_game_165 rfl ?_
    refine g_lx_le ((((gu lo wi n (gfi lo wi n 100 (gmi lo n))) : Nat) : Int) - ((lo p * (gd lo wi n (gfi lo wi n 100 (gmi lo n))) : Nat) : Int)) (0) 175 (lsub_ti (by omega) (by omega)) (by decide) d12_game_166 d12_game_167 rfl (fun _ => ?_) (fun c166 => absurd c166 (by omega))
    refine g_lconstv (0) d12_game_175 rfl ?_
    refine g_aload_n d12_game_176 rfl ?_
    refine g_get fl12_510 d12_game_177 f_74_52 ?_
    refine g_topL (lN ((gd lo wi n (gfi lo wi n 100 (gmi lo n))))) (h3) ?_
    refine g_aload_n d12_game_180 rfl ?_
    refine g_iload d12_game_181 rfl ?_
    refine g_EV1 vm12_wide ml12_516 c_74 (r12_wide n lo wi (by exact hP) (p) (by omega) (Nat.le_refl 1)) (by omega) (Nat.le_of_ble_eq_true rfl) d12_game_183 ?_
    refine g_i2lN (by omega) d12_game_186 ?_
    refine g_lmul d12_game_187 ?_
    refine g_topL (lN ((gd lo wi n (gfi lo wi n 100 (gmi lo n))) * (wi p))) (lN_mul _ _) ?_
    refine g_VV2 vm12_shorten ml12_519 c_74 (r12_shorten (I := uI I 74 0 0) (L := x) 0 ((gd lo wi n (gfi lo wi n 100 (gmi lo n))) * wi p) (by omega) (by omega) hm3 (Nat.le_refl 1)) (by omega) (Nat.le_of_ble_eq_true rfl) d12_game_188 ?_
    refine g_iload_n d12_game_191 rfl ?_
    refine g_iconstv (nI 2) d12_game_192 rfl ?_
    refine g_irem d12_game_193 (by decide) ?_
    refine g_topI (nI (0)) (by rw [pk_rem (by omega) (by decide) (by decide)]; congr 1; omega) ?_
    refine g_iconstv (nI 1) d12_game_194 rfl ?_
    refine g_ic_ne ((0 : Nat) : Int) (1) 205 (nI_ti (by omega)) (by decide) d12_game_195 rfl (fun _ => ?_) (fun c195 => absurd c195 (by omega))
    refine g_aload_n d12_game_205 rfl ?_
    refine g_get fl12_510 d12_game_206 f_74_52 ?_
    refine g_topL (lN (((gd lo wi n (gfi lo wi n 100 (gmi lo n))) * wi p) / Nat.gcd ((gu lo wi n (gfi lo wi n 100 (gmi lo n))) - lo p * (gd lo wi n (gfi lo wi n 100 (gmi lo n)))) ((gd lo wi n (gfi lo wi n 100 (gmi lo n))) * wi p))) (by rw [uL_ss]; rw [show ((gu lo wi n (gfi lo wi n 100 (gmi lo n))) - lo p * (gd lo wi n (gfi lo wi n 100 (gmi lo n)))) = 0 by omega]) ?_
    exact g_lret rfl d12_game_209 (⟨_, (hF0.ug (by decide)).ug (by decide), rfl, rfl⟩)
