set_option maxHeartbeats 200000 in
theorem r2_chance_n {l : Launch} {K : cK} {d : Nat} {I : wI} {L : wL} {R : wR} {dy : cH} (n : Nat) (lo wi : Nat → Nat) (hP : PLc I n lo wi) (p : Nat) (hpp : p < n) (h52 : I 52 p = nI 0) (hd : 0 ≤ d) : CV l K m2_takeChance d [.ref 51, .ref 1, .int (nI p)] (hp I L R dy) (hp I (uL (uL L 51 0 0) 51 1 1) R dy) := by
  obtain ⟨hn, hn6, hq⟩ := id hP
  have hw9 : ∀ p, p < n → 1 ≤ wi p ∧ wi p ≤ 99 := fun p hp => by obtain ⟨a1, a2, a3, a4⟩ := hq p hp; exact ⟨a3, by omega⟩
  have hl9 : ∀ p, p < n → lo p ≤ 99 := fun p hp => by obtain ⟨a1, a2, a3, a4⟩ := hq p hp; omega
  obtain ⟨a1, a2, a3, a4⟩ := hq p hpp
  refine CC.of ok2_takeChance (Nat.le_of_ble_eq_true rfl) ?_
  refine g_iload_n d2_takeChance_0 rfl ?_
  refine g_iz_lt ((p : Nat) : Int) 21 (nI_ti (by omega)) d2_takeChance_1 rfl (fun c1 => absurd c1 (by omega)) (fun _ => ?_)
  refine g_iload_n d2_takeChance_4 rfl ?_
  refine g_aload_n d2_takeChance_5 rfl ?_
  refine g_get fl2_19 d2_takeChance_6 f_1_8 ?_
  refine g_topI (nI (n)) (hn) ?_
  refine g_ic_ge ((p : Nat) : Int) ((n : Nat) : Int) 21 (nI_ti (by omega)) (nI_ti (by omega)) d2_takeChance_9 rfl (fun c9 => absurd c9 (by omega)) (fun _ => ?_)
  refine g_aload_n d2_takeChance_12 rfl ?_
  refine g_get fl2_9 d2_takeChance_13 f_51_2 ?_
  refine g_iload_n d2_takeChance_16 rfl ?_
  refine g_zaldN (p) d2_takeChance_17 a_52 (rfl) (by omega) (by decide) ?_
  refine g_topI (nI (0)) (h52) ?_
  refine g_iz_ne ((0 : Nat) : Int) 32 (nI_ti (by omega)) d2_takeChance_18 rfl (fun c18 => absurd c18 (by omega)) (fun _ => ?_)
  refine g_aload_n d2_takeChance_21 rfl ?_
  refine g_lconstv (0) d2_takeChance_22 rfl ?_
  refine g_putLh _ fl2_33 d2_takeChance_23 f_51_0 s_51_0 ?_
  refine g_aload_n d2_takeChance_26 rfl ?_
  refine g_lconstv (1) d2_takeChance_27 rfl ?_
  refine g_putLh _ fl2_29 d2_takeChance_28 f_51_1 s_51_1 ?_
  exact g_vret rfl d2_takeChance_31 (⟨rfl, rfl⟩)
set_option maxHeartbeats 200000 in
theorem r2_chance_y {l : Launch} {K : cK} {d : Nat} {I : wI} {L : wL} {R : wR} {dy : cH} (n : Nat) (lo wi : Nat → Nat) (hP : PLc I n lo wi) (p : Nat) (hpp : p < n) (h52 : I 52 p = nI 1) (a b : Nat) (ha : L 51 0 = lN a) (hb : L 51 1 = lN b) (hla : a ≤ 1000000000000000) (hlb : b ≤ 10000000000000) (hb0 : 0 < b) (hlt : lo p * b < a) (hd : 1 ≤ d) : CV l K m2_takeChance d [.ref 51, .ref 1, .int (nI p)] (hp I L R dy) (hp I (uL (uL L 51 0 (lN ((a - lo p * b) / Nat.gcd (a - lo p * b) (b * wi p)))) 51 1 (lN (b * wi p / Nat.gcd (a - lo p * b) (b * wi p)))) R dy) := by
  obtain ⟨hn, hn6, hq⟩ := id hP
  have hw9 : ∀ p, p < n → 1 ≤ wi p ∧ wi p ≤ 99 := fun p hp => by obtain ⟨a1, a2, a3, a4⟩ := hq p hp; exact ⟨a3, by omega⟩
  have hl9 : ∀ p, p < n → lo p ≤ 99 := fun p hp => by obtain ⟨a1, a2, a3, a4⟩ := hq p hp; omega
  obtain ⟨a1, a2, a3, a4⟩ := hq p hpp
  have hm2 : b * wi p ≤ 10000000000000 * 99 := Nat.mul_le_mul hlb (by omega)
  have hm3 : 0 < b * wi p := Nat.mul_pos hb0 a3
  refine CC.of ok2_takeChance (Nat.le_of_ble_eq_true rfl) ?_
  refine g_iload_n d2_takeChance_0 rfl ?_
  refine g_iz_lt ((p : Nat) : Int) 21 (nI_ti (by omega)) d2_takeChance_1 rfl (fun c1 => absurd c1 (by omega)) (fun _ => ?_)
  refine g_iload_n d2_takeChance_4 rfl ?_
  refine g_aload_n d2_takeChance_5 rfl ?_
  refine g_get fl2_19 d2_takeChance_6 f_1_8 ?_
  refine g_topI (nI (n)) (hn) ?_
  refine g_ic_ge ((p : Nat) : Int) ((n : Nat) : Int) 21 (nI_ti (by omega)) (nI_ti (by omega)) d2_takeChance_9 rfl (fun c9 => absurd c9 (by omega)) (fun _ => ?_)
  refine g_aload_n d2_takeChance_12 rfl ?_
  refine g_get fl2_9 d2_takeChance_13 f_51_2 ?_
  refine g_iload_n d2_takeChance_16 rfl ?_
  refine g_zaldN (p) d2_takeChance_17 a_52 (rfl) (by omega) (by decide) ?_
  refine g_topI (nI (1)) (h52) ?_
  refine g_iz_ne ((1 : Nat) : Int) 32 (nI_ti (by omega)) d2_takeChance_18 rfl (fun _ => ?_) (fun c18 => absurd c18 (by omega))
  refine g_aload_n d2_takeChance_32 rfl ?_
  refine g_dup d2_takeChance_33 rfl ?_
  refine g_get fl2_33 d2_takeChance_34 f_51_0 ?_
  refine g_topL (lN (a)) (ha) ?_
  refine g_aload_n d2_takeChance_37 rfl ?_
  refine g_get fl2_25 d2_takeChance_38 f_1_9 ?_
  refine g_iload_n d2_takeChance_41 rfl ?_
  refine g_ialdN (p) d2_takeChance_42 a_6 (rfl) (by omega) (by decide) ?_
  refine g_topI (nI (lo p)) (a1) ?_
  refine g_i2lN (by omega) d2_takeChance_43 ?_
  refine g_aload_n d2_takeChance_44 rfl ?_
  refine g_get fl2_29 d2_takeChance_45 f_51_1 ?_
  refine g_topL (lN (b)) (hb) ?_
  refine g_lmul d2_takeChance_48 ?_
  refine g_topL (lN (lo p * b)) (lN_mul _ _) ?_
  refine g_lsub d2_takeChance_49 ?_
  refine g_topL (lN (a - (lo p * b))) (lN_sub (by omega)) ?_
  refine g_putLh _ fl2_33 d2_takeChance_50 f_51_0 s_51_0 ?_
  refine g_aload_n d2_takeChance_53 rfl ?_
  refine g_dup d2_takeChance_54 rfl ?_
  refine g_get fl2_29 d2_takeChance_55 f_51_1 ?_
  refine g_topL (lN (b)) (by rw [uL_sn (by decide)]; exact hb) ?_
  refine g_aload_n d2_takeChance_58 rfl ?_
  refine g_get fl2_39 d2_takeChance_59 f_1_10 ?_
  refine g_iload_n d2_takeChance_62 rfl ?_
  refine g_ialdN (p) d2_takeChance_63 a_7 (rfl) (by omega) (by decide) ?_
  refine g_topI (nI (lo p + wi p)) (a2) ?_
  refine g_aload_n d2_takeChance_64 rfl ?_
  refine g_get fl2_25 d2_takeChance_65 f_1_9 ?_
  refine g_iload_n d2_takeChance_68 rfl ?_
  refine g_ialdN (p) d2_takeChance_69 a_6 (rfl) (by omega) (by decide) ?_
  refine g_topI (nI (lo p)) (a1) ?_
  refine g_isubN (by omega) d2_takeChance_70 ?_
  refine g_topI (nI (wi p)) (by congr 1; omega) ?_
  refine g_i2lN (by omega) d2_takeChance_71 ?_
  refine g_lmul d2_takeChance_72 ?_
  refine g_topL (lN (b * wi p)) (lN_mul _ _) ?_
  refine g_putLh _ fl2_29 d2_takeChance_73 f_51_1 s_51_1 ?_
  refine g_aload_n d2_takeChance_76 rfl ?_
  refine g_VV0 vm2_reduce ml2_36 c_51 (r2_reduce (I := I) (L := uL (uL L 51 0 (lN (a - lo p * b))) 51 1 (lN (b * wi p))) (a - lo p * b) (b * wi p) (by omega) (by omega) hm3 (by rw [uL_sn (by decide), uL_ss]) uL_ss (Nat.le_refl 0)) (by omega) (Nat.le_of_ble_eq_true rfl) d2_takeChance_77 ?_
  rw [uL_re (by decide)]
  exact g_vret rfl d2_takeChance_80 (⟨rfl, rfl⟩)
set_option maxHeartbeats 200000 in
theorem r11_game_no {l : Launch} {K : cK} {d : Nat} {I : wI} {L : wL} {R : wR} {dy : cH} (n : Nat) (lo wi : Nat → Nat) (hP : PLc I n lo wi) (t w : Int32) (hbad : ¬ (0 ≤ t.toInt ∧ t.toInt ≤ 99 ∧ 0 < n ∧ 0 ≤ w.toInt ∧ w.toInt ≤ 2 + 2 * n)) (hd : 0 ≤ d) : CE l K m11_game d [.ref 0, .int t, .int w] (hp I L R dy) (.long (-1)) (hp I L R dy) := by
  obtain ⟨hn, hn6, hq⟩ := id hP
  have hw9 : ∀ p, p < n → 1 ≤ wi p ∧ wi p ≤ 99 := fun p hp => by obtain ⟨a1, a2, a3, a4⟩ := hq p hp; exact ⟨a3, by omega⟩
  have hl9 : ∀ p, p < n → lo p ≤ 99 := fun p hp => by obtain ⟨a1, a2, a3, a4⟩ := hq p hp; omega
  refine CC.of ok11_game (Nat.le_of_ble_eq_true rfl) ?_
  by_cases h0 : n = 0
  · skip
    refine g_aload_n d11_game_0 rfl ?_
    refine g_get fl11_10 d11_game_1 f_0_0 ?_
    refine g_get fl11_267 d11_game_4 f_1_8 ?_
    refine g_topI (nI (n)) (hn) ?_
    refine g_iz_eq ((n : Nat) : Int) 39 (nI_ti (by omega)) d11_game_7 rfl (fun _ => ?_) (fun c7 => absurd c7 (by omega))
    refine g_ldc2 d11_game_39 kl11_206 ?_
    exact g_lret rfl d11_game_42 (⟨rfl, rfl⟩)
  · by_cases h1 : t.toInt < 0
    · skip
      refine g_aload_n d11_game_0 rfl ?_
      refine g_get fl11_10 d11_game_1 f_0_0 ?_
      refine g_get fl11_267 d11_game_4 f_1_8 ?_
      refine g_topI (nI (n)) (hn) ?_
      refine g_iz_eq ((n : Nat) : Int) 39 (nI_ti (by omega)) d11_game_7 rfl (fun c7 => absurd c7 (by omega)) (fun _ => ?_)
      refine g_iload_n d11_game_10 rfl ?_
      refine g_iz_lt _ 39 (rfl) d11_game_11 rfl (fun _ => ?_) (fun c11 => absurd c11 (by omega))
      refine g_ldc2 d11_game_39 kl11_206 ?_
      exact g_lret rfl d11_game_42 (⟨rfl, rfl⟩)
    · by_cases h2 : 99 < t.toInt
      · skip
        refine g_aload_n d11_game_0 rfl ?_
        refine g_get fl11_10 d11_game_1 f_0_0 ?_
        refine g_get fl11_267 d11_game_4 f_1_8 ?_
        refine g_topI (nI (n)) (hn) ?_
        refine g_iz_eq ((n : Nat) : Int) 39 (nI_ti (by omega)) d11_game_7 rfl (fun c7 => absurd c7 (by omega)) (fun _ => ?_)
        refine g_iload_n d11_game_10 rfl ?_
        refine g_iz_lt _ 39 (rfl) d11_game_11 rfl (fun c11 => absurd c11 (by omega)) (fun _ => ?_)
        refine g_iload_n d11_game_14 rfl ?_
        refine g_bipushv (nI 99) d11_game_15 rfl ?_
        refine g_ic_gt _ (99) 39 (rfl) (by decide) d11_game_17 rfl (fun _ => ?_) (fun c17 => absurd c17 (by omega))
        refine g_ldc2 d11_game_39 kl11_206 ?_
        exact g_lret rfl d11_game_42 (⟨rfl, rfl⟩)
      · by_cases h3 : w.toInt < 0
        · skip
          refine g_aload_n d11_game_0 rfl ?_
          refine g_get fl11_10 d11_game_1 f_0_0 ?_
          refine g_get fl11_267 d11_game_4 f_1_8 ?_
          refine g_topI (nI (n)) (hn) ?_
          refine g_iz_eq ((n : Nat) : Int) 39 (nI_ti (by omega)) d11_game_7 rfl (fun c7 => absurd c7 (by omega)) (fun _ => ?_)
          refine g_iload_n d11_game_10 rfl ?_
          refine g_iz_lt _ 39 (rfl) d11_game_11 rfl (fun c11 => absurd c11 (by omega)) (fun _ => ?_)
          refine g_iload_n d11_game_14 rfl ?_
          refine g_bipushv (nI 99) d11_game_15 rfl ?_
          refine g_ic_gt _ (99) 39 (rfl) (by decide) d11_game_17 rfl (fun c17 => absurd c17 (by omega)) (fun _ => ?_)
          refine g_iload_n d11_game_20 rfl ?_
          refine g_iz_lt _ 39 (rfl) d11_game_21 rfl (fun _ => ?_) (fun c21 => absurd c21 (by omega))
          refine g_ldc2 d11_game_39 kl11_206 ?_
          exact g_lret rfl d11_game_42 (⟨rfl, rfl⟩)
        · skip
          refine g_aload_n d11_game_0 rfl ?_
          refine g_get fl11_10 d11_game_1 f_0_0 ?_
          refine g_get fl11_267 d11_game_4 f_1_8 ?_
          refine g_topI (nI (n)) (hn) ?_
          refine g_iz_eq ((n : Nat) : Int) 39 (nI_ti (by omega)) d11_game_7 rfl (fun c7 => absurd c7 (by omega)) (fun _ => ?_)
          refine g_iload_n d11_game_10 rfl ?_
          refine g_iz_lt _ 39 (rfl) d11_game_11 rfl (fun c11 => absurd c11 (by omega)) (fun _ => ?_)
          refine g_iload_n d11_game_14 rfl ?_
          refine g_bipushv (nI 99) d11_game_15 rfl ?_
          refine g_ic_gt _ (99) 39 (rfl) (by decide) d11_game_17 rfl (fun c17 => absurd c17 (by omega)) (fun _ => ?_)
          refine g_iload_n d11_game_20 rfl ?_
          refine g_iz_lt _ 39 (rfl) d11_game_21 rfl (fun c21 => absurd c21 (by omega)) (fun _ => ?_)
          refine g_iload_n d11_game_24 rfl ?_
          refine g_iconstv (nI 2) d11_game_25 rfl ?_
          refine g_iconstv (nI 2) d11_game_26 rfl ?_
          refine g_aload_n d11_game_27 rfl ?_
          refine g_get fl11_10 d11_game_28 f_0_0 ?_
          refine g_get fl11_267 d11_game_31 f_1_8 ?_
          refine g_topI (nI (n)) (hn) ?_
          refine g_imulN d11_game_34 ?_
          refine g_iaddN d11_game_35 ?_
          refine g_ic_le _ (((2 + (2 * n)) : Nat) : Int) 43 (rfl) (nI_ti (by omega)) d11_game_36 rfl (fun c36 => absurd c36 (by omega)) (fun _ => ?_)
          refine g_ldc2 d11_game_39 kl11_206 ?_
          exact g_lret rfl d11_game_42 (⟨rfl, rfl⟩)
set_option maxHeartbeats 400000 in
theorem r11_game_0y {l : Launch} {K : cK} {d : Nat} {I : wI} {L : wL} {R : wR} {dy : cH} (n : Nat) (lo wi : Nat → Nat) (hP : PLc I n lo wi) (hn0 : 0 < n) (t : Nat) (ht9 : t ≤ 99) (hpay : (t * (gd lo wi n (gfi lo wi n 100 (gmi lo n))) ≤ (gu lo wi n (gfi lo wi n 100 (gmi lo n))))) (hd : 2 ≤ d) : CX l K m11_game d [.ref 0, .int (nI t), .int (nI 0)] (hp I L R dy) (α := wI × wL) (fun x => FK [52] [51] I L x.1 x.2) (fun _ => .long (lN t)) (fun x => hp x.1 x.2 R dy) := by
  obtain ⟨hn, hn6, hq⟩ := id hP
  have hw9 : ∀ p, p < n → 1 ≤ wi p ∧ wi p ≤ 99 := fun p hp => by obtain ⟨a1, a2, a3, a4⟩ := hq p hp; exact ⟨a3, by omega⟩
  have hl9 : ∀ p, p < n → lo p ≤ 99 := fun p hp => by obtain ⟨a1, a2, a3, a4⟩ := hq p hp; omega
  refine CC.of ok11_game (Nat.le_of_ble_eq_true rfl) ?_
  refine g_aload_n d11_game_0 rfl ?_
  refine g_get fl11_10 d11_game_1 f_0_0 ?_
  refine g_get fl11_267 d11_game_4 f_1_8 ?_
  refine g_topI (nI (n)) (hn) ?_
  refine g_iz_eq ((n : Nat) : Int) 39 (nI_ti (by omega)) d11_game_7 rfl (fun c7 => absurd c7 (by omega)) (fun _ => ?_)
  refine g_iload_n d11_game_10 rfl ?_
  refine g_iz_lt ((t : Nat) : Int) 39 (nI_ti (by omega)) d11_game_11 rfl (fun c11 => absurd c11 (by omega)) (fun _ => ?_)
  refine g_iload_n d11_game_14 rfl ?_
  refine g_bipushv (nI 99) d11_game_15 rfl ?_
  refine g_ic_gt ((t : Nat) : Int) (99) 39 (nI_ti (by omega)) (by decide) d11_game_17 rfl (fun c17 => absurd c17 (by omega)) (fun _ => ?_)
  refine g_iload_n d11_game_20 rfl ?_
  refine g_iz_lt (0) 39 (by decide) d11_game_21 rfl (fun c21 => absurd c21 (by omega)) (fun _ => ?_)
  refine g_iload_n d11_game_24 rfl ?_
  refine g_iconstv (nI 2) d11_game_25 rfl ?_
  refine g_iconstv (nI 2) d11_game_26 rfl ?_
  refine g_aload_n d11_game_27 rfl ?_
  refine g_get fl11_10 d11_game_28 f_0_0 ?_
  refine g_get fl11_267 d11_game_31 f_1_8 ?_
  refine g_topI (nI (n)) (hn) ?_
  refine g_imulN d11_game_34 ?_
  refine g_iaddN d11_game_35 ?_
  refine g_ic_le (0) (((2 + (2 * n)) : Nat) : Int) 43 (by decide) (nI_ti (by omega)) d11_game_36 rfl (fun _ => ?_) (fun c36 => absurd c36 (by omega))
  refine g_aload_n d11_game_43 rfl ?_
  refine g_get fl11_82 d11_game_44 f_0_10 ?_
  refine g_aload_n d11_game_47 rfl ?_
  refine g_get fl11_10 d11_game_48 f_0_0 ?_
  refine g_WV1 vm2_settle ml11_276 c_51 (r2_settle n lo wi hP hn0 (Nat.le_refl 1)) (by omega) (Nat.le_of_ble_eq_true rfl) d11_game_51 (fun x hx => ?_)
  obtain ⟨S, I3, L3⟩ := x
  obtain ⟨f1, s1, s2, s3, s4, s5, s6⟩ := hx
  dsimp only at f1 s1 s2 s3 s4 s5 s6 ⊢
  have hb := gu_le (mo := (gfi lo wi n 100 (gmi lo n))) hn6 hw9 hl9
  have hmul : t * (gd lo wi n (gfi lo wi n 100 (gmi lo n))) ≤ 99 * 10000000000000 := Nat.mul_le_mul ht9 hb.2
  refine g_iload_n d11_game_54 rfl ?_
  refine g_iconstv (nI 2) d11_game_55 rfl ?_
  refine g_ic_le (0) (2) 101 (by decide) (by decide) d11_game_56 rfl (fun _ => ?_) (fun c56 => absurd c56 (by decide))
  refine g_iload_n d11_game_101 rfl ?_
  refine g_i2lN (by omega) d11_game_102 ?_
  refine g_aload_n d11_game_103 rfl ?_
  refine g_get fl11_82 d11_game_104 f_0_10 ?_
  refine g_get fl11_287 d11_game_107 f_51_1 ?_
  refine g_topL (lN ((gd lo wi n (gfi lo wi n 100 (gmi lo n))))) (s5) ?_
  refine g_lmul d11_game_110 ?_
  refine g_topL (lN (t * (gd lo wi n (gfi lo wi n 100 (gmi lo n))))) (lN_mul _ _) ?_
  refine g_aload_n d11_game_111 rfl ?_
  refine g_get fl11_82 d11_game_112 f_0_10 ?_
  refine g_get fl11_283 d11_game_115 f_51_0 ?_
  refine g_topL (lN ((gu lo wi n (gfi lo wi n 100 (gmi lo n))))) (s4) ?_
  refine g_lx_gt (((t * (gd lo wi n (gfi lo wi n 100 (gmi lo n)))) : Nat) : Int) (((gu lo wi n (gfi lo wi n 100 (gmi lo n))) : Nat) : Int) 126 (pk_lT (by omega)) (pk_lT (by omega)) d11_game_118 d11_game_119 rfl (fun c118 => absurd c118 (by omega)) (fun _ => ?_)
  refine g_iconstv (nI 1) d11_game_122 rfl ?_
  refine g_goto 127 d11_game_123 rfl ?_
  refine g_istore_n d11_game_127 (by decide) ?_
  refine g_iload_n d11_game_128 rfl ?_
  refine g_iconstv (nI 2) d11_game_129 rfl ?_
  refine g_ic_ne (0) (2) 143 (by decide) (by decide) d11_game_130 rfl (fun _ => ?_) (fun c130 => absurd c130 (by decide))
  refine g_iload_n d11_game_143 rfl ?_
  refine g_iz_eq (1) 158 (by decide) d11_game_144 rfl (fun c144 => absurd c144 (by decide)) (fun _ => ?_)
  refine g_iload_n d11_game_147 rfl ?_
  refine g_iz_ne (0) 156 (by decide) d11_game_148 rfl (fun c148 => absurd c148 (by decide)) (fun _ => ?_)
  refine g_iload_n d11_game_151 rfl ?_
  refine g_i2lN (by omega) d11_game_152 ?_
  refine g_goto 157 d11_game_153 rfl ?_
  exact g_lret rfl d11_game_157 (⟨(I3, L3), f1, rfl, rfl⟩)
set_option maxHeartbeats 400000 in
theorem r11_game_0n {l : Launch} {K : cK} {d : Nat} {I : wI} {L : wL} {R : wR} {dy : cH} (n : Nat) (lo wi : Nat → Nat) (hP : PLc I n lo wi) (hn0 : 0 < n) (t : Nat) (ht9 : t ≤ 99) (hpay : ¬ (t * (gd lo wi n (gfi lo wi n 100 (gmi lo n))) ≤ (gu lo wi n (gfi lo wi n 100 (gmi lo n))))) (hd : 2 ≤ d) : CX l K m11_game d [.ref 0, .int (nI t), .int (nI 0)] (hp I L R dy) (α := wI × wL) (fun x => FK [52] [51] I L x.1 x.2) (fun _ => .long (lN (gu lo wi n (gfi lo wi n 100 (gmi lo n))))) (fun x => hp x.1 x.2 R dy) := by
  obtain ⟨hn, hn6, hq⟩ := id hP
  have hw9 : ∀ p, p < n → 1 ≤ wi p ∧ wi p ≤ 99 := fun p hp => by obtain ⟨a1, a2, a3, a4⟩ := hq p hp; exact ⟨a3, by omega⟩
  have hl9 : ∀ p, p < n → lo p ≤ 99 := fun p hp => by obtain ⟨a1, a2, a3, a4⟩ := hq p hp; omega
  refine CC.of ok11_game (Nat.le_of_ble_eq_true rfl) ?_
  refine g_aload_n d11_game_0 rfl ?_
  refine g_get fl11_10 d11_game_1 f_0_0 ?_
  refine g_get fl11_267 d11_game_4 f_1_8 ?_
  refine g_topI (nI (n)) (hn) ?_
  refine g_iz_eq ((n : Nat) : Int) 39 (nI_ti (by omega)) d11_game_7 rfl (fun c7 => absurd c7 (by omega)) (fun _ => ?_)
  refine g_iload_n d11_game_10 rfl ?_
  refine g_iz_lt ((t : Nat) : Int) 39 (nI_ti (by omega)) d11_game_11 rfl (fun c11 => absurd c11 (by omega)) (fun _ => ?_)
  refine g_iload_n d11_game_14 rfl ?_
  refine g_bipushv (nI 99) d11_game_15 rfl ?_
  refine g_ic_gt ((t : Nat) : Int) (99) 39 (nI_ti (by omega)) (by decide) d11_game_17 rfl (fun c17 => absurd c17 (by omega)) (fun _ => ?_)
  refine g_iload_n d11_game_20 rfl ?_
  refine g_iz_lt (0) 39 (by decide) d11_game_21 rfl (fun c21 => absurd c21 (by omega)) (fun _ => ?_)
  refine g_iload_n d11_game_24 rfl ?_
  refine g_iconstv (nI 2) d11_game_25 rfl ?_
  refine g_iconstv (nI 2) d11_game_26 rfl ?_
  refine g_aload_n d11_game_27 rfl ?_
  refine g_get fl11_10 d11_game_28 f_0_0 ?_
  refine g_get fl11_267 d11_game_31 f_1_8 ?_
  refine g_topI (nI (n)) (hn) ?_
  refine g_imulN d11_game_34 ?_
  refine g_iaddN d11_game_35 ?_
  refine g_ic_le (0) (((2 + (2 * n)) : Nat) : Int) 43 (by decide) (nI_ti (by omega)) d11_game_36 rfl (fun _ => ?_) (fun c36 => absurd c36 (by omega))
  refine g_aload_n d11_game_43 rfl ?_
  refine g_get fl11_82 d11_game_44 f_0_10 ?_
  refine g_aload_n d11_game_47 rfl ?_
  refine g_get fl11_10 d11_game_48 f_0_0 ?_
  refine g_WV1 vm2_settle ml11_276 c_51 (r2_settle n lo wi hP hn0 (Nat.le_refl 1)) (by omega) (Nat.le_of_ble_eq_true rfl) d11_game_51 (fun x hx => ?_)
  obtain ⟨S, I3, L3⟩ := x
  obtain ⟨f1, s1, s2, s3, s4, s5, s6⟩ := hx
  dsimp only at f1 s1 s2 s3 s4 s5 s6 ⊢
  have hb := gu_le (mo := (gfi lo wi n 100 (gmi lo n))) hn6 hw9 hl9
  have hmul : t * (gd lo wi n (gfi lo wi n 100 (gmi lo n))) ≤ 99 * 10000000000000 := Nat.mul_le_mul ht9 hb.2
  refine g_iload_n d11_game_54 rfl ?_
  refine g_iconstv (nI 2) d11_game_55 rfl ?_
  refine g_ic_le (0) (2) 101 (by decide) (by decide) d11_game_56 rfl (fun _ => ?_) (fun c56 => absurd c56 (by decide))
  refine g_iload_n d11_game_101 rfl ?_
  refine g_i2lN (by omega) d11_game_102 ?_
  refine g_aload_n d11_game_103 rfl ?_
  refine g_get fl11_82 d11_game_104 f_0_10 ?_
  refine g_get fl11_287 d11_game_107 f_51_1 ?_
  refine g_topL (lN ((gd lo wi n (gfi lo wi n 100 (gmi lo n))))) (s5) ?_
  refine g_lmul d11_game_110 ?_
  refine g_topL (lN (t * (gd lo wi n (gfi lo wi n 100 (gmi lo n))))) (lN_mul _ _) ?_
  refine g_aload_n d11_game_111 rfl ?_
  refine g_get fl11_82 d11_game_112 f_0_10 ?_
  refine g_get fl11_283 d11_game_115 f_51_0 ?_
  refine g_topL (lN ((gu lo wi n (gfi lo wi n 100 (gmi lo n))))) (s4) ?_
  refine g_lx_gt (((t * (gd lo wi n (gfi lo wi n 100 (gmi lo n)))) : Nat) : Int) (((gu lo wi n (gfi lo wi n 100 (gmi lo n))) : Nat) : Int) 126 (pk_lT (by omega)) (pk_lT (by omega)) d11_game_118 d11_game_119 rfl (fun _ => ?_) (fun c118 => absurd c118 (by omega))
  refine g_iconstv (nI 0) d11_game_126 rfl ?_
  refine g_istore_n d11_game_127 (by decide) ?_
  refine g_iload_n d11_game_128 rfl ?_
  refine g_iconstv (nI 2) d11_game_129 rfl ?_
  refine g_ic_ne (0) (2) 143 (by decide) (by decide) d11_game_130 rfl (fun _ => ?_) (fun c130 => absurd c130 (by decide))
  refine g_iload_n d11_game_143 rfl ?_
  refine g_iz_eq (0) 158 (by decide) d11_game_144 rfl (fun _ => ?_) (fun c144 => absurd c144 (by decide))
  refine g_iload_n d11_game_158 rfl ?_
  refine g_iz_ne (0) 172 (by decide) d11_game_159 rfl (fun c159 => absurd c159 (by decide)) (fun _ => ?_)
  refine g_aload_n d11_game_162 rfl ?_
  refine g_get fl11_82 d11_game_163 f_0_10 ?_
  refine g_get fl11_283 d11_game_166 f_51_0 ?_
  refine g_topL (lN ((gu lo wi n (gfi lo wi n 100 (gmi lo n))))) (s4) ?_
  refine g_goto 179 d11_game_169 rfl ?_
  exact g_lret rfl d11_game_179 (⟨(I3, L3), f1, rfl, rfl⟩)
set_option maxHeartbeats 400000 in
theorem r11_game_1y {l : Launch} {K : cK} {d : Nat} {I : wI} {L : wL} {R : wR} {dy : cH} (n : Nat) (lo wi : Nat → Nat) (hP : PLc I n lo wi) (hn0 : 0 < n) (t : Nat) (ht9 : t ≤ 99) (hpay : (t * (gd lo wi n (gfi lo wi n 100 (gmi lo n))) ≤ (gu lo wi n (gfi lo wi n 100 (gmi lo n))))) (hd : 2 ≤ d) : CX l K m11_game d [.ref 0, .int (nI t), .int (nI 1)] (hp I L R dy) (α := wI × wL) (fun x => FK [52] [51] I L x.1 x.2) (fun _ => .long (lN 1)) (fun x => hp x.1 x.2 R dy) := by
  obtain ⟨hn, hn6, hq⟩ := id hP
  have hw9 : ∀ p, p < n → 1 ≤ wi p ∧ wi p ≤ 99 := fun p hp => by obtain ⟨a1, a2, a3, a4⟩ := hq p hp; exact ⟨a3, by omega⟩
  have hl9 : ∀ p, p < n → lo p ≤ 99 := fun p hp => by obtain ⟨a1, a2, a3, a4⟩ := hq p hp; omega
  refine CC.of ok11_game (Nat.le_of_ble_eq_true rfl) ?_
  refine g_aload_n d11_game_0 rfl ?_
  refine g_get fl11_10 d11_game_1 f_0_0 ?_
  refine g_get fl11_267 d11_game_4 f_1_8 ?_
  refine g_topI (nI (n)) (hn) ?_
  refine g_iz_eq ((n : Nat) : Int) 39 (nI_ti (by omega)) d11_game_7 rfl (fun c7 => absurd c7 (by omega)) (fun _ => ?_)
  refine g_iload_n d11_game_10 rfl ?_
  refine g_iz_lt ((t : Nat) : Int) 39 (nI_ti (by omega)) d11_game_11 rfl (fun c11 => absurd c11 (by omega)) (fun _ => ?_)
  refine g_iload_n d11_game_14 rfl ?_
  refine g_bipushv (nI 99) d11_game_15 rfl ?_
  refine g_ic_gt ((t : Nat) : Int) (99) 39 (nI_ti (by omega)) (by decide) d11_game_17 rfl (fun c17 => absurd c17 (by omega)) (fun _ => ?_)
  refine g_iload_n d11_game_20 rfl ?_
  refine g_iz_lt (1) 39 (by decide) d11_game_21 rfl (fun c21 => absurd c21 (by omega)) (fun _ => ?_)
  refine g_iload_n d11_game_24 rfl ?_
  refine g_iconstv (nI 2) d11_game_25 rfl ?_
  refine g_iconstv (nI 2) d11_game_26 rfl ?_
  refine g_aload_n d11_game_27 rfl ?_
  refine g_get fl11_10 d11_game_28 f_0_0 ?_
  refine g_get fl11_267 d11_game_31 f_1_8 ?_
  refine g_topI (nI (n)) (hn) ?_
  refine g_imulN d11_game_34 ?_
  refine g_iaddN d11_game_35 ?_
  refine g_ic_le (1) (((2 + (2 * n)) : Nat) : Int) 43 (by decide) (nI_ti (by omega)) d11_game_36 rfl (fun _ => ?_) (fun c36 => absurd c36 (by omega))
  refine g_aload_n d11_game_43 rfl ?_
  refine g_get fl11_82 d11_game_44 f_0_10 ?_
  refine g_aload_n d11_game_47 rfl ?_
  refine g_get fl11_10 d11_game_48 f_0_0 ?_
  refine g_WV1 vm2_settle ml11_276 c_51 (r2_settle n lo wi hP hn0 (Nat.le_refl 1)) (by omega) (Nat.le_of_ble_eq_true rfl) d11_game_51 (fun x hx => ?_)
  obtain ⟨S, I3, L3⟩ := x
  obtain ⟨f1, s1, s2, s3, s4, s5, s6⟩ := hx
  dsimp only at f1 s1 s2 s3 s4 s5 s6 ⊢
  have hb := gu_le (mo := (gfi lo wi n 100 (gmi lo n))) hn6 hw9 hl9
  have hmul : t * (gd lo wi n (gfi lo wi n 100 (gmi lo n))) ≤ 99 * 10000000000000 := Nat.mul_le_mul ht9 hb.2
  refine g_iload_n d11_game_54 rfl ?_
  refine g_iconstv (nI 2) d11_game_55 rfl ?_
  refine g_ic_le (1) (2) 101 (by decide) (by decide) d11_game_56 rfl (fun _ => ?_) (fun c56 => absurd c56 (by decide))
  refine g_iload_n d11_game_101 rfl ?_
  refine g_i2lN (by omega) d11_game_102 ?_
  refine g_aload_n d11_game_103 rfl ?_
  refine g_get fl11_82 d11_game_104 f_0_10 ?_
  refine g_get fl11_287 d11_game_107 f_51_1 ?_
  refine g_topL (lN ((gd lo wi n (gfi lo wi n 100 (gmi lo n))))) (s5) ?_
  refine g_lmul d11_game_110 ?_
  refine g_topL (lN (t * (gd lo wi n (gfi lo wi n 100 (gmi lo n))))) (lN_mul _ _) ?_
  refine g_aload_n d11_game_111 rfl ?_
  refine g_get fl11_82 d11_game_112 f_0_10 ?_
  refine g_get fl11_283 d11_game_115 f_51_0 ?_
  refine g_topL (lN ((gu lo wi n (gfi lo wi n 100 (gmi lo n))))) (s4) ?_
  refine g_lx_gt (((t * (gd lo wi n (gfi lo wi n 100 (gmi lo n)))) : Nat) : Int) (((gu lo wi n (gfi lo wi n 100 (gmi lo n))) : Nat) : Int) 126 (pk_lT (by omega)) (pk_lT (by omega)) d11_game_118 d11_game_119 rfl (fun c118 => absurd c118 (by omega)) (fun _ => ?_)
  refine g_iconstv (nI 1) d11_game_122 rfl ?_
  refine g_goto 127 d11_game_123 rfl ?_
  refine g_istore_n d11_game_127 (by decide) ?_
  refine g_iload_n d11_game_128 rfl ?_
  refine g_iconstv (nI 2) d11_game_129 rfl ?_
  refine g_ic_ne (1) (2) 143 (by decide) (by decide) d11_game_130 rfl (fun _ => ?_) (fun c130 => absurd c130 (by decide))
  refine g_iload_n d11_game_143 rfl ?_
  refine g_iz_eq (1) 158 (by decide) d11_game_144 rfl (fun c144 => absurd c144 (by decide)) (fun _ => ?_)
  refine g_iload_n d11_game_147 rfl ?_
  refine g_iz_ne (1) 156 (by decide) d11_game_148 rfl (fun _ => ?_) (fun c148 => absurd c148 (by decide))
  refine g_lconstv (1) d11_game_156 rfl ?_
  exact g_lret rfl d11_game_157 (⟨(I3, L3), f1, rfl, rfl⟩)
set_option maxHeartbeats 400000 in
theorem r11_game_1n {l : Launch} {K : cK} {d : Nat} {I : wI} {L : wL} {R : wR} {dy : cH} (n : Nat) (lo wi : Nat → Nat) (hP : PLc I n lo wi) (hn0 : 0 < n) (t : Nat) (ht9 : t ≤ 99) (hpay : ¬ (t * (gd lo wi n (gfi lo wi n 100 (gmi lo n))) ≤ (gu lo wi n (gfi lo wi n 100 (gmi lo n))))) (hd : 2 ≤ d) : CX l K m11_game d [.ref 0, .int (nI t), .int (nI 1)] (hp I L R dy) (α := wI × wL) (fun x => FK [52] [51] I L x.1 x.2) (fun _ => .long (lN (gd lo wi n (gfi lo wi n 100 (gmi lo n))))) (fun x => hp x.1 x.2 R dy) := by
  obtain ⟨hn, hn6, hq⟩ := id hP
  have hw9 : ∀ p, p < n → 1 ≤ wi p ∧ wi p ≤ 99 := fun p hp => by obtain ⟨a1, a2, a3, a4⟩ := hq p hp; exact ⟨a3, by omega⟩
  have hl9 : ∀ p, p < n → lo p ≤ 99 := fun p hp => by obtain ⟨a1, a2, a3, a4⟩ := hq p hp; omega
  refine CC.of ok11_game (Nat.le_of_ble_eq_true rfl) ?_
  refine g_aload_n d11_game_0 rfl ?_
  refine g_get fl11_10 d11_game_1 f_0_0 ?_
  refine g_get fl11_267 d11_game_4 f_1_8 ?_
  refine g_topI (nI (n)) (hn) ?_
  refine g_iz_eq ((n : Nat) : Int) 39 (nI_ti (by omega)) d11_game_7 rfl (fun c7 => absurd c7 (by omega)) (fun _ => ?_)
  refine g_iload_n d11_game_10 rfl ?_
  refine g_iz_lt ((t : Nat) : Int) 39 (nI_ti (by omega)) d11_game_11 rfl (fun c11 => absurd c11 (by omega)) (fun _ => ?_)
  refine g_iload_n d11_game_14 rfl ?_
  refine g_bipushv (nI 99) d11_game_15 rfl ?_
  refine g_ic_gt ((t : Nat) : Int) (99) 39 (nI_ti (by omega)) (by decide) d11_game_17 rfl (fun c17 => absurd c17 (by omega)) (fun _ => ?_)
  refine g_iload_n d11_game_20 rfl ?_
  refine g_iz_lt (1) 39 (by decide) d11_game_21 rfl (fun c21 => absurd c21 (by omega)) (fun _ => ?_)
  refine g_iload_n d11_game_24 rfl ?_
  refine g_iconstv (nI 2) d11_game_25 rfl ?_
  refine g_iconstv (nI 2) d11_game_26 rfl ?_
  refine g_aload_n d11_game_27 rfl ?_
  refine g_get fl11_10 d11_game_28 f_0_0 ?_
  refine g_get fl11_267 d11_game_31 f_1_8 ?_
  refine g_topI (nI (n)) (hn) ?_
  refine g_imulN d11_game_34 ?_
  refine g_iaddN d11_game_35 ?_
  refine g_ic_le (1) (((2 + (2 * n)) : Nat) : Int) 43 (by decide) (nI_ti (by omega)) d11_game_36 rfl (fun _ => ?_) (fun c36 => absurd c36 (by omega))
  refine g_aload_n d11_game_43 rfl ?_
  refine g_get fl11_82 d11_game_44 f_0_10 ?_
  refine g_aload_n d11_game_47 rfl ?_
  refine g_get fl11_10 d11_game_48 f_0_0 ?_
  refine g_WV1 vm2_settle ml11_276 c_51 (r2_settle n lo wi hP hn0 (Nat.le_refl 1)) (by omega) (Nat.le_of_ble_eq_true rfl) d11_game_51 (fun x hx => ?_)
  obtain ⟨S, I3, L3⟩ := x
  obtain ⟨f1, s1, s2, s3, s4, s5, s6⟩ := hx
  dsimp only at f1 s1 s2 s3 s4 s5 s6 ⊢
  have hb := gu_le (mo := (gfi lo wi n 100 (gmi lo n))) hn6 hw9 hl9
  have hmul : t * (gd lo wi n (gfi lo wi n 100 (gmi lo n))) ≤ 99 * 10000000000000 := Nat.mul_le_mul ht9 hb.2
  refine g_iload_n d11_game_54 rfl ?_
  refine g_iconstv (nI 2) d11_game_55 rfl ?_
  refine g_ic_le (1) (2) 101 (by decide) (by decide) d11_game_56 rfl (fun _ => ?_) (fun c56 => absurd c56 (by decide))
  refine g_iload_n d11_game_101 rfl ?_
  refine g_i2lN (by omega) d11_game_102 ?_
  refine g_aload_n d11_game_103 rfl ?_
  refine g_get fl11_82 d11_game_104 f_0_10 ?_
  refine g_get fl11_287 d11_game_107 f_51_1 ?_
  refine g_topL (lN ((gd lo wi n (gfi lo wi n 100 (gmi lo n))))) (s5) ?_
  refine g_lmul d11_game_110 ?_
  refine g_topL (lN (t * (gd lo wi n (gfi lo wi n 100 (gmi lo n))))) (lN_mul _ _) ?_
  refine g_aload_n d11_game_111 rfl ?_
  refine g_get fl11_82 d11_game_112 f_0_10 ?_
  refine g_get fl11_283 d11_game_115 f_51_0 ?_
  refine g_topL (lN ((gu lo wi n (gfi lo wi n 100 (gmi lo n))))) (s4) ?_
  refine g_lx_gt (((t * (gd lo wi n (gfi lo wi n 100 (gmi lo n)))) : Nat) : Int) (((gu lo wi n (gfi lo wi n 100 (gmi lo n))) : Nat) : Int) 126 (pk_lT (by omega)) (pk_lT (by omega)) d11_game_118 d11_game_119 rfl (fun _ => ?_) (fun c118 => absurd c118 (by omega))
  refine g_iconstv (nI 0) d11_game_126 rfl ?_
  refine g_istore_n d11_game_127 (by decide) ?_
  refine g_iload_n d11_game_128 rfl ?_
  refine g_iconstv (nI 2) d11_game_129 rfl ?_
  refine g_ic_ne (1) (2) 143 (by decide) (by decide) d11_game_130 rfl (fun _ => ?_) (fun c130 => absurd c130 (by decide))
  refine g_iload_n d11_game_143 rfl ?_
  refine g_iz_eq (0) 158 (by decide) d11_game_144 rfl (fun _ => ?_) (fun c144 => absurd c144 (by decide))
  refine g_iload_n d11_game_158 rfl ?_
  refine g_iz_ne (1) 172 (by decide) d11_game_159 rfl (fun _ => ?_) (fun c159 => absurd c159 (by decide))
  refine g_aload_n d11_game_172 rfl ?_
  refine g_get fl11_82 d11_game_173 f_0_10 ?_
  refine g_get fl11_287 d11_game_176 f_51_1 ?_
  refine g_topL (lN ((gd lo wi n (gfi lo wi n 100 (gmi lo n))))) (s5) ?_
  exact g_lret rfl d11_game_179 (⟨(I3, L3), f1, rfl, rfl⟩)
set_option maxHeartbeats 400000 in
theorem r11_game_2y {l : Launch} {K : cK} {d : Nat} {I : wI} {L : wL} {R : wR} {dy : cH} (n : Nat) (lo wi : Nat → Nat) (hP : PLc I n lo wi) (hn0 : 0 < n) (t : Nat) (ht9 : t ≤ 99) (hpay : (t * (gd lo wi n (gfi lo wi n 100 (gmi lo n))) ≤ (gu lo wi n (gfi lo wi n 100 (gmi lo n))))) (hd : 2 ≤ d) : CX l K m11_game d [.ref 0, .int (nI t), .int (nI 2)] (hp I L R dy) (α := wI × wL) (fun x => FK [52] [51] I L x.1 x.2) (fun _ => .long (lN 1)) (fun x => hp x.1 x.2 R dy) := by
  obtain ⟨hn, hn6, hq⟩ := id hP
  have hw9 : ∀ p, p < n → 1 ≤ wi p ∧ wi p ≤ 99 := fun p hp => by obtain ⟨a1, a2, a3, a4⟩ := hq p hp; exact ⟨a3, by omega⟩
  have hl9 : ∀ p, p < n → lo p ≤ 99 := fun p hp => by obtain ⟨a1, a2, a3, a4⟩ := hq p hp; omega
  refine CC.of ok11_game (Nat.le_of_ble_eq_true rfl) ?_
  refine g_aload_n d11_game_0 rfl ?_
  refine g_get fl11_10 d11_game_1 f_0_0 ?_
  refine g_get fl11_267 d11_game_4 f_1_8 ?_
  refine g_topI (nI (n)) (hn) ?_
  refine g_iz_eq ((n : Nat) : Int) 39 (nI_ti (by omega)) d11_game_7 rfl (fun c7 => absurd c7 (by omega)) (fun _ => ?_)
  refine g_iload_n d11_game_10 rfl ?_
  refine g_iz_lt ((t : Nat) : Int) 39 (nI_ti (by omega)) d11_game_11 rfl (fun c11 => absurd c11 (by omega)) (fun _ => ?_)
  refine g_iload_n d11_game_14 rfl ?_
  refine g_bipushv (nI 99) d11_game_15 rfl ?_
  refine g_ic_gt ((t : Nat) : Int) (99) 39 (nI_ti (by omega)) (by decide) d11_game_17 rfl (fun c17 => absurd c17 (by omega)) (fun _ => ?_)
  refine g_iload_n d11_game_20 rfl ?_
  refine g_iz_lt (2) 39 (by decide) d11_game_21 rfl (fun c21 => absurd c21 (by omega)) (fun _ => ?_)
  refine g_iload_n d11_game_24 rfl ?_
  refine g_iconstv (nI 2) d11_game_25 rfl ?_
  refine g_iconstv (nI 2) d11_game_26 rfl ?_
  refine g_aload_n d11_game_27 rfl ?_
  refine g_get fl11_10 d11_game_28 f_0_0 ?_
  refine g_get fl11_267 d11_game_31 f_1_8 ?_
  refine g_topI (nI (n)) (hn) ?_
  refine g_imulN d11_game_34 ?_
  refine g_iaddN d11_game_35 ?_
  refine g_ic_le (2) (((2 + (2 * n)) : Nat) : Int) 43 (by decide) (nI_ti (by omega)) d11_game_36 rfl (fun _ => ?_) (fun c36 => absurd c36 (by omega))
  refine g_aload_n d11_game_43 rfl ?_
  refine g_get fl11_82 d11_game_44 f_0_10 ?_
  refine g_aload_n d11_game_47 rfl ?_
  refine g_get fl11_10 d11_game_48 f_0_0 ?_
  refine g_WV1 vm2_settle ml11_276 c_51 (r2_settle n lo wi hP hn0 (Nat.le_refl 1)) (by omega) (Nat.le_of_ble_eq_true rfl) d11_game_51 (fun x hx => ?_)
  obtain ⟨S, I3, L3⟩ := x
  obtain ⟨f1, s1, s2, s3, s4, s5, s6⟩ := hx
  dsimp only at f1 s1 s2 s3 s4 s5 s6 ⊢
  have hb := gu_le (mo := (gfi lo wi n 100 (gmi lo n))) hn6 hw9 hl9
  have hmul : t * (gd lo wi n (gfi lo wi n 100 (gmi lo n))) ≤ 99 * 10000000000000 := Nat.mul_le_mul ht9 hb.2
  refine g_iload_n d11_game_54 rfl ?_
  refine g_iconstv (nI 2) d11_game_55 rfl ?_
  refine g_ic_le (2) (2) 101 (by decide) (by decide) d11_game_56 rfl (fun _ => ?_) (fun c56 => absurd c56 (by decide))
  refine g_iload_n d11_game_101 rfl ?_
  refine g_i2lN (by omega) d11_game_102 ?_
  refine g_aload_n d11_game_103 rfl ?_
  refine g_get fl11_82 d11_game_104 f_0_10 ?_
  refine g_get fl11_287 d11_game_107 f_51_1 ?_
  refine g_topL (lN ((gd lo wi n (gfi lo wi n 100 (gmi lo n))))) (s5) ?_
  refine g_lmul d11_game_110 ?_
  refine g_topL (lN (t * (gd lo wi n (gfi lo wi n 100 (gmi lo n))))) (lN_mul _ _) ?_
  refine g_aload_n d11_game_111 rfl ?_
  refine g_get fl11_82 d11_game_112 f_0_10 ?_
  refine g_get fl11_283 d11_game_115 f_51_0 ?_
  refine g_topL (lN ((gu lo wi n (gfi lo wi n 100 (gmi lo n))))) (s4) ?_
  refine g_lx_gt (((t * (gd lo wi n (gfi lo wi n 100 (gmi lo n)))) : Nat) : Int) (((gu lo wi n (gfi lo wi n 100 (gmi lo n))) : Nat) : Int) 126 (pk_lT (by omega)) (pk_lT (by omega)) d11_game_118 d11_game_119 rfl (fun c118 => absurd c118 (by omega)) (fun _ => ?_)
  refine g_iconstv (nI 1) d11_game_122 rfl ?_
  refine g_goto 127 d11_game_123 rfl ?_
  refine g_istore_n d11_game_127 (by decide) ?_
  refine g_iload_n d11_game_128 rfl ?_
  refine g_iconstv (nI 2) d11_game_129 rfl ?_
  refine g_ic_ne (2) (2) 143 (by decide) (by decide) d11_game_130 rfl (fun c130 => absurd c130 (by decide)) (fun _ => ?_)
  refine g_iload_n d11_game_133 rfl ?_
  refine g_iz_eq (1) 141 (by decide) d11_game_134 rfl (fun c134 => absurd c134 (by decide)) (fun _ => ?_)
  refine g_lconstv (1) d11_game_137 rfl ?_
  refine g_goto 142 d11_game_138 rfl ?_
  exact g_lret rfl d11_game_142 (⟨(I3, L3), f1, rfl, rfl⟩)
set_option maxHeartbeats 400000 in
theorem r11_game_2n {l : Launch} {K : cK} {d : Nat} {I : wI} {L : wL} {R : wR} {dy : cH} (n : Nat) (lo wi : Nat → Nat) (hP : PLc I n lo wi) (hn0 : 0 < n) (t : Nat) (ht9 : t ≤ 99) (hpay : ¬ (t * (gd lo wi n (gfi lo wi n 100 (gmi lo n))) ≤ (gu lo wi n (gfi lo wi n 100 (gmi lo n))))) (hd : 2 ≤ d) : CX l K m11_game d [.ref 0, .int (nI t), .int (nI 2)] (hp I L R dy) (α := wI × wL) (fun x => FK [52] [51] I L x.1 x.2) (fun _ => .long (lN 0)) (fun x => hp x.1 x.2 R dy) := by
  obtain ⟨hn, hn6, hq⟩ := id hP
  have hw9 : ∀ p, p < n → 1 ≤ wi p ∧ wi p ≤ 99 := fun p hp => by obtain ⟨a1, a2, a3, a4⟩ := hq p hp; exact ⟨a3, by omega⟩
  have hl9 : ∀ p, p < n → lo p ≤ 99 := fun p hp => by obtain ⟨a1, a2, a3, a4⟩ := hq p hp; omega
  refine CC.of ok11_game (Nat.le_of_ble_eq_true rfl) ?_
  refine g_aload_n d11_game_0 rfl ?_
  refine g_get fl11_10 d11_game_1 f_0_0 ?_
  refine g_get fl11_267 d11_game_4 f_1_8 ?_
  refine g_topI (nI (n)) (hn) ?_
  refine g_iz_eq ((n : Nat) : Int) 39 (nI_ti (by omega)) d11_game_7 rfl (fun c7 => absurd c7 (by omega)) (fun _ => ?_)
  refine g_iload_n d11_game_10 rfl ?_
  refine g_iz_lt ((t : Nat) : Int) 39 (nI_ti (by omega)) d11_game_11 rfl (fun c11 => absurd c11 (by omega)) (fun _ => ?_)
  refine g_iload_n d11_game_14 rfl ?_
  refine g_bipushv (nI 99) d11_game_15 rfl ?_
  refine g_ic_gt ((t : Nat) : Int) (99) 39 (nI_ti (by omega)) (by decide) d11_game_17 rfl (fun c17 => absurd c17 (by omega)) (fun _ => ?_)
  refine g_iload_n d11_game_20 rfl ?_
  refine g_iz_lt (2) 39 (by decide) d11_game_21 rfl (fun c21 => absurd c21 (by omega)) (fun _ => ?_)
  refine g_iload_n d11_game_24 rfl ?_
  refine g_iconstv (nI 2) d11_game_25 rfl ?_
  refine g_iconstv (nI 2) d11_game_26 rfl ?_
  refine g_aload_n d11_game_27 rfl ?_
  refine g_get fl11_10 d11_game_28 f_0_0 ?_
  refine g_get fl11_267 d11_game_31 f_1_8 ?_
  refine g_topI (nI (n)) (hn) ?_
  refine g_imulN d11_game_34 ?_
  refine g_iaddN d11_game_35 ?_
  refine g_ic_le (2) (((2 + (2 * n)) : Nat) : Int) 43 (by decide) (nI_ti (by omega)) d11_game_36 rfl (fun _ => ?_) (fun c36 => absurd c36 (by omega))
  refine g_aload_n d11_game_43 rfl ?_
  refine g_get fl11_82 d11_game_44 f_0_10 ?_
  refine g_aload_n d11_game_47 rfl ?_
  refine g_get fl11_10 d11_game_48 f_0_0 ?_
  refine g_WV1 vm2_settle ml11_276 c_51 (r2_settle n lo wi hP hn0 (Nat.le_refl 1)) (by omega) (Nat.le_of_ble_eq_true rfl) d11_game_51 (fun x hx => ?_)
  obtain ⟨S, I3, L3⟩ := x
  obtain ⟨f1, s1, s2, s3, s4, s5, s6⟩ := hx
  dsimp only at f1 s1 s2 s3 s4 s5 s6 ⊢
  have hb := gu_le (mo := (gfi lo wi n 100 (gmi lo n))) hn6 hw9 hl9
  have hmul : t * (gd lo wi n (gfi lo wi n 100 (gmi lo n))) ≤ 99 * 10000000000000 := Nat.mul_le_mul ht9 hb.2
  refine g_iload_n d11_game_54 rfl ?_
  refine g_iconstv (nI 2) d11_game_55 rfl ?_
  refine g_ic_le (2) (2) 101 (by decide) (by decide) d11_game_56 rfl (fun _ => ?_) (fun c56 => absurd c56 (by decide))
  refine g_iload_n d11_game_101 rfl ?_
  refine g_i2lN (by omega) d11_game_102 ?_
  refine g_aload_n d11_game_103 rfl ?_
  refine g_get fl11_82 d11_game_104 f_0_10 ?_
  refine g_get fl11_287 d11_game_107 f_51_1 ?_
  refine g_topL (lN ((gd lo wi n (gfi lo wi n 100 (gmi lo n))))) (s5) ?_
  refine g_lmul d11_game_110 ?_
  refine g_topL (lN (t * (gd lo wi n (gfi lo wi n 100 (gmi lo n))))) (lN_mul _ _) ?_
  refine g_aload_n d11_game_111 rfl ?_
  refine g_get fl11_82 d11_game_112 f_0_10 ?_
  refine g_get fl11_283 d11_game_115 f_51_0 ?_
  refine g_topL (lN ((gu lo wi n (gfi lo wi n 100 (gmi lo n))))) (s4) ?_
  refine g_lx_gt (((t * (gd lo wi n (gfi lo wi n 100 (gmi lo n)))) : Nat) : Int) (((gu lo wi n (gfi lo wi n 100 (gmi lo n))) : Nat) : Int) 126 (pk_lT (by omega)) (pk_lT (by omega)) d11_game_118 d11_game_119 rfl (fun _ => ?_) (fun c118 => absurd c118 (by omega))
  refine g_iconstv (nI 0) d11_game_126 rfl ?_
  refine g_istore_n d11_game_127 (by decide) ?_
  refine g_iload_n d11_game_128 rfl ?_
  refine g_iconstv (nI 2) d11_game_129 rfl ?_
  refine g_ic_ne (2) (2) 143 (by decide) (by decide) d11_game_130 rfl (fun c130 => absurd c130 (by decide)) (fun _ => ?_)
  refine g_iload_n d11_game_133 rfl ?_
  refine g_iz_eq (0) 141 (by decide) d11_game_134 rfl (fun _ => ?_) (fun c134 => absurd c134 (by decide))
  refine g_lconstv (0) d11_game_141 rfl ?_
  exact g_lret rfl d11_game_142 (⟨(I3, L3), f1, rfl, rfl⟩)
set_option maxHeartbeats 400000 in
theorem r11_game_3a {l : Launch} {K : cK} {d : Nat} {I : wI} {L : wL} {R : wR} {dy : cH} (n : Nat) (lo wi : Nat → Nat) (hP : PLc I n lo wi) (hn0 : 0 < n) (t : Nat) (ht9 : t ≤ 99) (p w : Nat) (hpp : p < n) (hw : w = 3 + 2 * p + 0) (hd : 2 ≤ d) : CX l K m11_game d [.ref 0, .int (nI t), .int (nI w)] (hp I L R dy) (α := wI × wL) (fun x => FK [52] [51] I L x.1 x.2) (fun _ => .long (lN (((gu lo wi n (gfi lo wi n 100 (gmi lo n))) - lo p * (gd lo wi n (gfi lo wi n 100 (gmi lo n)))) / Nat.gcd ((gu lo wi n (gfi lo wi n 100 (gmi lo n))) - lo p * (gd lo wi n (gfi lo wi n 100 (gmi lo n)))) ((gd lo wi n (gfi lo wi n 100 (gmi lo n))) * wi p)))) (fun x => hp x.1 x.2 R dy) := by
  obtain ⟨hn, hn6, hq⟩ := id hP
  have hw9 : ∀ p, p < n → 1 ≤ wi p ∧ wi p ≤ 99 := fun p hp => by obtain ⟨a1, a2, a3, a4⟩ := hq p hp; exact ⟨a3, by omega⟩
  have hl9 : ∀ p, p < n → lo p ≤ 99 := fun p hp => by obtain ⟨a1, a2, a3, a4⟩ := hq p hp; omega
  have hw0 := hw9 p hpp
  have hl0 := hl9 p hpp
  refine CC.of ok11_game (Nat.le_of_ble_eq_true rfl) ?_
  refine g_aload_n d11_game_0 rfl ?_
  refine g_get fl11_10 d11_game_1 f_0_0 ?_
  refine g_get fl11_267 d11_game_4 f_1_8 ?_
  refine g_topI (nI (n)) (hn) ?_
  refine g_iz_eq ((n : Nat) : Int) 39 (nI_ti (by omega)) d11_game_7 rfl (fun c7 => absurd c7 (by omega)) (fun _ => ?_)
  refine g_iload_n d11_game_10 rfl ?_
  refine g_iz_lt ((t : Nat) : Int) 39 (nI_ti (by omega)) d11_game_11 rfl (fun c11 => absurd c11 (by omega)) (fun _ => ?_)
  refine g_iload_n d11_game_14 rfl ?_
  refine g_bipushv (nI 99) d11_game_15 rfl ?_
  refine g_ic_gt ((t : Nat) : Int) (99) 39 (nI_ti (by omega)) (by decide) d11_game_17 rfl (fun c17 => absurd c17 (by omega)) (fun _ => ?_)
  refine g_iload_n d11_game_20 rfl ?_
  refine g_iz_lt ((w : Nat) : Int) 39 (nI_ti (by omega)) d11_game_21 rfl (fun c21 => absurd c21 (by omega)) (fun _ => ?_)
  refine g_iload_n d11_game_24 rfl ?_
  refine g_iconstv (nI 2) d11_game_25 rfl ?_
  refine g_iconstv (nI 2) d11_game_26 rfl ?_
  refine g_aload_n d11_game_27 rfl ?_
  refine g_get fl11_10 d11_game_28 f_0_0 ?_
  refine g_get fl11_267 d11_game_31 f_1_8 ?_
  refine g_topI (nI (n)) (hn) ?_
  refine g_imulN d11_game_34 ?_
  refine g_iaddN d11_game_35 ?_
  refine g_ic_le ((w : Nat) : Int) (((2 + (2 * n)) : Nat) : Int) 43 (nI_ti (by omega)) (nI_ti (by omega)) d11_game_36 rfl (fun _ => ?_) (fun c36 => absurd c36 (by omega))
  refine g_aload_n d11_game_43 rfl ?_
  refine g_get fl11_82 d11_game_44 f_0_10 ?_
  refine g_aload_n d11_game_47 rfl ?_
  refine g_get fl11_10 d11_game_48 f_0_0 ?_
  refine g_WV1 vm2_settle ml11_276 c_51 (r2_settle n lo wi hP hn0 (Nat.le_refl 1)) (by omega) (Nat.le_of_ble_eq_true rfl) d11_game_51 (fun x hx => ?_)
  obtain ⟨S, I3, L3⟩ := x
  obtain ⟨f1, s1, s2, s3, s4, s5, s6⟩ := hx
  dsimp only at f1 s1 s2 s3 s4 s5 s6 ⊢
  have hb := gu_le (mo := (gfi lo wi n 100 (gmi lo n))) hn6 hw9 hl9
  have hm3 : 0 < (gd lo wi n (gfi lo wi n 100 (gmi lo n))) * wi p := Nat.mul_pos s3 hw0.1
  have hP3 : PLc I3 n lo wi := hP.of (f1.1 1 (by decide)) (f1.1 6 (by decide)) (f1.1 7 (by decide))
  by_cases hup : S p = true
  · skip
    refine g_iload_n d11_game_54 rfl ?_
    refine g_iconstv (nI 2) d11_game_55 rfl ?_
    refine g_ic_le ((w : Nat) : Int) (2) 101 (nI_ti (by omega)) (by decide) d11_game_56 rfl (fun c56 => absurd c56 (by omega)) (fun _ => ?_)
    refine g_aload_n d11_game_59 rfl ?_
    refine g_get fl11_82 d11_game_60 f_0_10 ?_
    refine g_aload_n d11_game_63 rfl ?_
    refine g_get fl11_10 d11_game_64 f_0_0 ?_
    refine g_iload_n d11_game_67 rfl ?_
    refine g_iconstv (nI 3) d11_game_68 rfl ?_
    refine g_isubN (by omega) d11_game_69 ?_
    refine g_iconstv (nI 2) d11_game_70 rfl ?_
    refine g_idiv d11_game_71 (by decide) ?_
    refine g_topI (nI (p)) (by rw [pk_div (by omega) (by decide) (by decide)]; congr 1; omega) ?_
    refine g_VV2 vm2_takeChance ml11_280 c_51 (r2_chance_y (I := I3) (L := L3) n lo wi hP3 p hpp (by rw [s1 p hpp, hup]; rfl) (gu lo wi n (gfi lo wi n 100 (gmi lo n))) (gd lo wi n (gfi lo wi n 100 (gmi lo n))) s4 s5 hb.1 hb.2 s3 ((s6 p hpp).1 hup) (Nat.le_refl 1)) (by omega) (Nat.le_of_ble_eq_true rfl) d11_game_72 ?_
    refine g_iload_n d11_game_75 rfl ?_
    refine g_iconstv (nI 3) d11_game_76 rfl ?_
    refine g_isubN (by omega) d11_game_77 ?_
    refine g_iconstv (nI 2) d11_game_78 rfl ?_
    refine g_irem d11_game_79 (by decide) ?_
    refine g_topI (nI (0)) (by rw [pk_rem (by omega) (by decide) (by decide)]; congr 1; omega) ?_
    refine g_iz_ne ((0 : Nat) : Int) 93 (nI_ti (by omega)) d11_game_80 rfl (fun c80 => absurd c80 (by omega)) (fun _ => ?_)
    refine g_aload_n d11_game_83 rfl ?_
    refine g_get fl11_82 d11_game_84 f_0_10 ?_
    refine g_get fl11_283 d11_game_87 f_51_0 ?_
    refine g_topL (lN (((gu lo wi n (gfi lo wi n 100 (gmi lo n))) - lo p * (gd lo wi n (gfi lo wi n 100 (gmi lo n)))) / Nat.gcd ((gu lo wi n (gfi lo wi n 100 (gmi lo n))) - lo p * (gd lo wi n (gfi lo wi n 100 (gmi lo n)))) ((gd lo wi n (gfi lo wi n 100 (gmi lo n))) * wi p))) (by rw [uL_sn (by decide), uL_ss]) ?_
    refine g_goto 100 d11_game_90 rfl ?_
    exact g_lret rfl d11_game_100 (⟨(I3, _), (f1.ul (by decide)).ul (by decide), rfl, rfl⟩)
  · skip
    have hz : ((gu lo wi n (gfi lo wi n 100 (gmi lo n))) - lo p * (gd lo wi n (gfi lo wi n 100 (gmi lo n)))) = 0 := Nat.sub_eq_zero_of_le (Nat.le_of_not_lt (fun z => hup ((s6 p hpp).2 z)))
    refine g_iload_n d11_game_54 rfl ?_
    refine g_iconstv (nI 2) d11_game_55 rfl ?_
    refine g_ic_le ((w : Nat) : Int) (2) 101 (nI_ti (by omega)) (by decide) d11_game_56 rfl (fun c56 => absurd c56 (by omega)) (fun _ => ?_)
    refine g_aload_n d11_game_59 rfl ?_
    refine g_get fl11_82 d11_game_60 f_0_10 ?_
    refine g_aload_n d11_game_63 rfl ?_
    refine g_get fl11_10 d11_game_64 f_0_0 ?_
    refine g_iload_n d11_game_67 rfl ?_
    refine g_iconstv (nI 3) d11_game_68 rfl ?_
    refine g_isubN (by omega) d11_game_69 ?_
    refine g_iconstv (nI 2) d11_game_70 rfl ?_
    refine g_idiv d11_game_71 (by decide) ?_
    refine g_topI (nI (p)) (by rw [pk_div (by omega) (by decide) (by decide)]; congr 1; omega) ?_
    refine g_VV2 vm2_takeChance ml11_280 c_51 (r2_chance_n (I := I3) (L := L3) n lo wi hP3 p hpp (by rw [s1 p hpp, show S p = false by simpa using hup]; rfl) (Nat.le_refl 0)) (by omega) (Nat.le_of_ble_eq_true rfl) d11_game_72 ?_
    refine g_iload_n d11_game_75 rfl ?_
    refine g_iconstv (nI 3) d11_game_76 rfl ?_
    refine g_isubN (by omega) d11_game_77 ?_
    refine g_iconstv (nI 2) d11_game_78 rfl ?_
    refine g_irem d11_game_79 (by decide) ?_
    refine g_topI (nI (0)) (by rw [pk_rem (by omega) (by decide) (by decide)]; congr 1; omega) ?_
    refine g_iz_ne ((0 : Nat) : Int) 93 (nI_ti (by omega)) d11_game_80 rfl (fun c80 => absurd c80 (by omega)) (fun _ => ?_)
    refine g_aload_n d11_game_83 rfl ?_
    refine g_get fl11_82 d11_game_84 f_0_10 ?_
    refine g_get fl11_283 d11_game_87 f_51_0 ?_
    refine g_topL (lN (((gu lo wi n (gfi lo wi n 100 (gmi lo n))) - lo p * (gd lo wi n (gfi lo wi n 100 (gmi lo n)))) / Nat.gcd ((gu lo wi n (gfi lo wi n 100 (gmi lo n))) - lo p * (gd lo wi n (gfi lo wi n 100 (gmi lo n)))) ((gd lo wi n (gfi lo wi n 100 (gmi lo n))) * wi p))) (by rw [uL_sn (by decide), uL_ss]; rw [hz, Nat.gcd_zero_left, Nat.zero_div]; rfl) ?_
    refine g_goto 100 d11_game_90 rfl ?_
    exact g_lret rfl d11_game_100 (⟨(I3, _), (f1.ul (by decide)).ul (by decide), rfl, rfl⟩)
set_option maxHeartbeats 400000 in
theorem r11_game_3b {l : Launch} {K : cK} {d : Nat} {I : wI} {L : wL} {R : wR} {dy : cH} (n : Nat) (lo wi : Nat → Nat) (hP : PLc I n lo wi) (hn0 : 0 < n) (t : Nat) (ht9 : t ≤ 99) (p w : Nat) (hpp : p < n) (hw : w = 3 + 2 * p + 1) (hd : 2 ≤ d) : CX l K m11_game d [.ref 0, .int (nI t), .int (nI w)] (hp I L R dy) (α := wI × wL) (fun x => FK [52] [51] I L x.1 x.2) (fun _ => .long (lN (((gd lo wi n (gfi lo wi n 100 (gmi lo n))) * wi p) / Nat.gcd ((gu lo wi n (gfi lo wi n 100 (gmi lo n))) - lo p * (gd lo wi n (gfi lo wi n 100 (gmi lo n)))) ((gd lo wi n (gfi lo wi n 100 (gmi lo n))) * wi p)))) (fun x => hp x.1 x.2 R dy) := by
  obtain ⟨hn, hn6, hq⟩ := id hP
  have hw9 : ∀ p, p < n → 1 ≤ wi p ∧ wi p ≤ 99 := fun p hp => by obtain ⟨a1, a2, a3, a4⟩ := hq p hp; exact ⟨a3, by omega⟩
  have hl9 : ∀ p, p < n → lo p ≤ 99 := fun p hp => by obtain ⟨a1, a2, a3, a4⟩ := hq p hp; omega
  have hw0 := hw9 p hpp
  have hl0 := hl9 p hpp
  refine CC.of ok11_game (Nat.le_of_ble_eq_true rfl) ?_
  refine g_aload_n d11_game_0 rfl ?_
  refine g_get fl11_10 d11_game_1 f_0_0 ?_
  refine g_get fl11_267 d11_game_4 f_1_8 ?_
  refine g_topI (nI (n)) (hn) ?_
  refine g_iz_eq ((n : Nat) : Int) 39 (nI_ti (by omega)) d11_game_7 rfl (fun c7 => absurd c7 (by omega)) (fun _ => ?_)
  refine g_iload_n d11_game_10 rfl ?_
  refine g_iz_lt ((t : Nat) : Int) 39 (nI_ti (by omega)) d11_game_11 rfl (fun c11 => absurd c11 (by omega)) (fun _ => ?_)
  refine g_iload_n d11_game_14 rfl ?_
  refine g_bipushv (nI 99) d11_game_15 rfl ?_
  refine g_ic_gt ((t : Nat) : Int) (99) 39 (nI_ti (by omega)) (by decide) d11_game_17 rfl (fun c17 => absurd c17 (by omega)) (fun _ => ?_)
  refine g_iload_n d11_game_20 rfl ?_
  refine g_iz_lt ((w : Nat) : Int) 39 (nI_ti (by omega)) d11_game_21 rfl (fun c21 => absurd c21 (by omega)) (fun _ => ?_)
  refine g_iload_n d11_game_24 rfl ?_
  refine g_iconstv (nI 2) d11_game_25 rfl ?_
  refine g_iconstv (nI 2) d11_game_26 rfl ?_
  refine g_aload_n d11_game_27 rfl ?_
  refine g_get fl11_10 d11_game_28 f_0_0 ?_
  refine g_get fl11_267 d11_game_31 f_1_8 ?_
  refine g_topI (nI (n)) (hn) ?_
  refine g_imulN d11_game_34 ?_
  refine g_iaddN d11_game_35 ?_
  refine g_ic_le ((w : Nat) : Int) (((2 + (2 * n)) : Nat) : Int) 43 (nI_ti (by omega)) (nI_ti (by omega)) d11_game_36 rfl (fun _ => ?_) (fun c36 => absurd c36 (by omega))
  refine g_aload_n d11_game_43 rfl ?_
  refine g_get fl11_82 d11_game_44 f_0_10 ?_
  refine g_aload_n d11_game_47 rfl ?_
  refine g_get fl11_10 d11_game_48 f_0_0 ?_
  refine g_WV1 vm2_settle ml11_276 c_51 (r2_settle n lo wi hP hn0 (Nat.le_refl 1)) (by omega) (Nat.le_of_ble_eq_true rfl) d11_game_51 (fun x hx => ?_)
  obtain ⟨S, I3, L3⟩ := x
  obtain ⟨f1, s1, s2, s3, s4, s5, s6⟩ := hx
  dsimp only at f1 s1 s2 s3 s4 s5 s6 ⊢
  have hb := gu_le (mo := (gfi lo wi n 100 (gmi lo n))) hn6 hw9 hl9
  have hm3 : 0 < (gd lo wi n (gfi lo wi n 100 (gmi lo n))) * wi p := Nat.mul_pos s3 hw0.1
  have hP3 : PLc I3 n lo wi := hP.of (f1.1 1 (by decide)) (f1.1 6 (by decide)) (f1.1 7 (by decide))
  by_cases hup : S p = true
  · skip
    refine g_iload_n d11_game_54 rfl ?_
    refine g_iconstv (nI 2) d11_game_55 rfl ?_
    refine g_ic_le ((w : Nat) : Int) (2) 101 (nI_ti (by omega)) (by decide) d11_game_56 rfl (fun c56 => absurd c56 (by omega)) (fun _ => ?_)
    refine g_aload_n d11_game_59 rfl ?_
    refine g_get fl11_82 d11_game_60 f_0_10 ?_
    refine g_aload_n d11_game_63 rfl ?_
    refine g_get fl11_10 d11_game_64 f_0_0 ?_
    refine g_iload_n d11_game_67 rfl ?_
    refine g_iconstv (nI 3) d11_game_68 rfl ?_
    refine g_isubN (by omega) d11_game_69 ?_
    refine g_iconstv (nI 2) d11_game_70 rfl ?_
    refine g_idiv d11_game_71 (by decide) ?_
    refine g_topI (nI (p)) (by rw [pk_div (by omega) (by decide) (by decide)]; congr 1; omega) ?_
    refine g_VV2 vm2_takeChance ml11_280 c_51 (r2_chance_y (I := I3) (L := L3) n lo wi hP3 p hpp (by rw [s1 p hpp, hup]; rfl) (gu lo wi n (gfi lo wi n 100 (gmi lo n))) (gd lo wi n (gfi lo wi n 100 (gmi lo n))) s4 s5 hb.1 hb.2 s3 ((s6 p hpp).1 hup) (Nat.le_refl 1)) (by omega) (Nat.le_of_ble_eq_true rfl) d11_game_72 ?_
    refine g_iload_n d11_game_75 rfl ?_
    refine g_iconstv (nI 3) d11_game_76 rfl ?_
    refine g_isubN (by omega) d11_game_77 ?_
    refine g_iconstv (nI 2) d11_game_78 rfl ?_
    refine g_irem d11_game_79 (by decide) ?_
    refine g_topI (nI (1)) (by rw [pk_rem (by omega) (by decide) (by decide)]; congr 1; omega) ?_
    refine g_iz_ne ((1 : Nat) : Int) 93 (nI_ti (by omega)) d11_game_80 rfl (fun _ => ?_) (fun c80 => absurd c80 (by omega))
    refine g_aload_n d11_game_93 rfl ?_
    refine g_get fl11_82 d11_game_94 f_0_10 ?_
    refine g_get fl11_287 d11_game_97 f_51_1 ?_
    refine g_topL (lN (((gd lo wi n (gfi lo wi n 100 (gmi lo n))) * wi p) / Nat.gcd ((gu lo wi n (gfi lo wi n 100 (gmi lo n))) - lo p * (gd lo wi n (gfi lo wi n 100 (gmi lo n)))) ((gd lo wi n (gfi lo wi n 100 (gmi lo n))) * wi p))) (by rw [uL_ss]) ?_
    exact g_lret rfl d11_game_100 (⟨(I3, _), (f1.ul (by decide)).ul (by decide), rfl, rfl⟩)
  · skip
    have hz : ((gu lo wi n (gfi lo wi n 100 (gmi lo n))) - lo p * (gd lo wi n (gfi lo wi n 100 (gmi lo n)))) = 0 := Nat.sub_eq_zero_of_le (Nat.le_of_not_lt (fun z => hup ((s6 p hpp).2 z)))
    refine g_iload_n d11_game_54 rfl ?_
    refine g_iconstv (nI 2) d11_game_55 rfl ?_
    refine g_ic_le ((w : Nat) : Int) (2) 101 (nI_ti (by omega)) (by decide) d11_game_56 rfl (fun c56 => absurd c56 (by omega)) (fun _ => ?_)
    refine g_aload_n d11_game_59 rfl ?_
    refine g_get fl11_82 d11_game_60 f_0_10 ?_
    refine g_aload_n d11_game_63 rfl ?_
    refine g_get fl11_10 d11_game_64 f_0_0 ?_
    refine g_iload_n d11_game_67 rfl ?_
    refine g_iconstv (nI 3) d11_game_68 rfl ?_
    refine g_isubN (by omega) d11_game_69 ?_
    refine g_iconstv (nI 2) d11_game_70 rfl ?_
    refine g_idiv d11_game_71 (by decide) ?_
    refine g_topI (nI (p)) (by rw [pk_div (by omega) (by decide) (by decide)]; congr 1; omega) ?_
    refine g_VV2 vm2_takeChance ml11_280 c_51 (r2_chance_n (I := I3) (L := L3) n lo wi hP3 p hpp (by rw [s1 p hpp, show S p = false by simpa using hup]; rfl) (Nat.le_refl 0)) (by omega) (Nat.le_of_ble_eq_true rfl) d11_game_72 ?_
    refine g_iload_n d11_game_75 rfl ?_
    refine g_iconstv (nI 3) d11_game_76 rfl ?_
    refine g_isubN (by omega) d11_game_77 ?_
    refine g_iconstv (nI 2) d11_game_78 rfl ?_
    refine g_irem d11_game_79 (by decide) ?_
    refine g_topI (nI (1)) (by rw [pk_rem (by omega) (by decide) (by decide)]; congr 1; omega) ?_
    refine g_iz_ne ((1 : Nat) : Int) 93 (nI_ti (by omega)) d11_game_80 rfl (fun _ => ?_) (fun c80 => absurd c80 (by omega))
    refine g_aload_n d11_game_93 rfl ?_
    refine g_get fl11_82 d11_game_94 f_0_10 ?_
    refine g_get fl11_287 d11_game_97 f_51_1 ?_
    refine g_topL (lN (((gd lo wi n (gfi lo wi n 100 (gmi lo n))) * wi p) / Nat.gcd ((gu lo wi n (gfi lo wi n 100 (gmi lo n))) - lo p * (gd lo wi n (gfi lo wi n 100 (gmi lo n)))) ((gd lo wi n (gfi lo wi n 100 (gmi lo n))) * wi p))) (by rw [uL_ss]; rw [hz, Nat.gcd_zero_left, Nat.div_self hm3]; rfl) ?_
    exact g_lret rfl d11_game_100 (⟨(I3, _), (f1.ul (by decide)).ul (by decide), rfl, rfl⟩)
