set_option maxHeartbeats 200000 in
theorem r11_cft_n {l : Launch} {K : cK} {d : Nat} {I : wI} {L : wL} {R : wR} {dy : cH} (t at_ n : Nat) (ht : I 12 1 = nI t) (ht4 : t ≤ 400) (ha : at_ ≤ 400) (hn : I 1 0 = nI n) (hn6 : n ≤ 6) (tp : Nat → Int32) (htp : ∀ j, j < 400 → I 13 j = tp j) (hno : ¬ (at_ + 3 < t ∧ n < 6 ∧ cOK (tp at_) (tp (at_ + 1)) (tp (at_ + 2)) (tp (at_ + 3)))) (hd : 1 ≤ d) : CE l K m11_carFromTape d [.ref 0, .int (nI at_)] (hp I L R dy) (.int (nI 0)) (hp I L R dy) := by
  refine CC.of ok11_carFromTape (Nat.le_of_ble_eq_true rfl) ?_
  by_cases h1 : at_ + 3 < t
  rotate_left
  · skip
    refine g_iload_n d11_carFromTape_0 rfl ?_
    refine g_iz_lt ((at_ : Nat) : Int) 29 (nI_ti (by omega)) d11_carFromTape_1 rfl (fun c1 => absurd c1 (by omega)) (fun _ => ?_)
    refine g_iload_n d11_carFromTape_4 rfl ?_
    refine g_iconstv (nI 4) d11_carFromTape_5 rfl ?_
    refine g_iaddN d11_carFromTape_6 ?_
    refine g_aload_n d11_carFromTape_7 rfl ?_
    refine g_get fl11_27 d11_carFromTape_8 f_0_3 ?_
    refine g_get fl11_145 d11_carFromTape_11 f_12_1 ?_
    refine g_topI (nI (t)) (ht) ?_
    refine g_ic_gt (((at_ + 4) : Nat) : Int) ((t : Nat) : Int) 29 (nI_ti (by omega)) (nI_ti (by omega)) d11_carFromTape_14 rfl (fun _ => ?_) (fun c14 => absurd c14 (by omega))
    refine g_iconstv (nI 0) d11_carFromTape_29 rfl ?_
    exact g_zret rfl (by decide) d11_carFromTape_30 (⟨rfl, rfl⟩)
  by_cases h2 : n < 6
  rotate_left
  · skip
    refine g_iload_n d11_carFromTape_0 rfl ?_
    refine g_iz_lt ((at_ : Nat) : Int) 29 (nI_ti (by omega)) d11_carFromTape_1 rfl (fun c1 => absurd c1 (by omega)) (fun _ => ?_)
    refine g_iload_n d11_carFromTape_4 rfl ?_
    refine g_iconstv (nI 4) d11_carFromTape_5 rfl ?_
    refine g_iaddN d11_carFromTape_6 ?_
    refine g_aload_n d11_carFromTape_7 rfl ?_
    refine g_get fl11_27 d11_carFromTape_8 f_0_3 ?_
    refine g_get fl11_145 d11_carFromTape_11 f_12_1 ?_
    refine g_topI (nI (t)) (ht) ?_
    refine g_ic_gt (((at_ + 4) : Nat) : Int) ((t : Nat) : Int) 29 (nI_ti (by omega)) (nI_ti (by omega)) d11_carFromTape_14 rfl (fun c14 => absurd c14 (by omega)) (fun _ => ?_)
    refine g_aload_n d11_carFromTape_17 rfl ?_
    refine g_get fl11_10 d11_carFromTape_18 f_0_0 ?_
    refine g_get fl11_112 d11_carFromTape_21 f_1_0 ?_
    refine g_topI (nI (n)) (hn) ?_
    refine g_bipushv (nI 6) d11_carFromTape_24 rfl ?_
    refine g_ic_lt ((n : Nat) : Int) (6) 31 (nI_ti (by omega)) (by decide) d11_carFromTape_26 rfl (fun c26 => absurd c26 (by omega)) (fun _ => ?_)
    refine g_iconstv (nI 0) d11_carFromTape_29 rfl ?_
    exact g_zret rfl (by decide) d11_carFromTape_30 (⟨rfl, rfl⟩)
  have h3 : ¬ cOK (tp (at_ + 0)) (tp (at_ + 1)) (tp (at_ + 2)) (tp (at_ + 3)) := fun z => hno ⟨h1, h2, z⟩
  refine g_iload_n d11_carFromTape_0 rfl ?_
  refine g_iz_lt ((at_ : Nat) : Int) 29 (nI_ti (by omega)) d11_carFromTape_1 rfl (fun c1 => absurd c1 (by omega)) (fun _ => ?_)
  refine g_iload_n d11_carFromTape_4 rfl ?_
  refine g_iconstv (nI 4) d11_carFromTape_5 rfl ?_
  refine g_iaddN d11_carFromTape_6 ?_
  refine g_aload_n d11_carFromTape_7 rfl ?_
  refine g_get fl11_27 d11_carFromTape_8 f_0_3 ?_
  refine g_get fl11_145 d11_carFromTape_11 f_12_1 ?_
  refine g_topI (nI (t)) (ht) ?_
  refine g_ic_gt (((at_ + 4) : Nat) : Int) ((t : Nat) : Int) 29 (nI_ti (by omega)) (nI_ti (by omega)) d11_carFromTape_14 rfl (fun c14 => absurd c14 (by omega)) (fun _ => ?_)
  refine g_aload_n d11_carFromTape_17 rfl ?_
  refine g_get fl11_10 d11_carFromTape_18 f_0_0 ?_
  refine g_get fl11_112 d11_carFromTape_21 f_1_0 ?_
  refine g_topI (nI (n)) (hn) ?_
  refine g_bipushv (nI 6) d11_carFromTape_24 rfl ?_
  refine g_ic_lt ((n : Nat) : Int) (6) 31 (nI_ti (by omega)) (by decide) d11_carFromTape_26 rfl (fun _ => ?_) (fun c26 => absurd c26 (by omega))
  refine g_aload_n d11_carFromTape_31 rfl ?_
  refine g_get fl11_27 d11_carFromTape_32 f_0_3 ?_
  refine g_get fl11_340 d11_carFromTape_35 f_12_0 ?_
  refine g_iload_n d11_carFromTape_38 rfl ?_
  refine g_iconstv (nI 0) d11_carFromTape_39 rfl ?_
  refine g_iaddN d11_carFromTape_40 ?_
  refine g_ialdN ((at_ + 0)) d11_carFromTape_41 a_13 (rfl) (by omega) (by decide) ?_
  refine g_topI (tp (at_ + 0)) (htp _ (by omega)) ?_
  refine g_istore_n d11_carFromTape_42 (by decide) ?_
  refine g_aload_n d11_carFromTape_43 rfl ?_
  refine g_get fl11_27 d11_carFromTape_44 f_0_3 ?_
  refine g_get fl11_340 d11_carFromTape_47 f_12_0 ?_
  refine g_iload_n d11_carFromTape_50 rfl ?_
  refine g_iconstv (nI 1) d11_carFromTape_51 rfl ?_
  refine g_iaddN d11_carFromTape_52 ?_
  refine g_ialdN ((at_ + 1)) d11_carFromTape_53 a_13 (rfl) (by omega) (by decide) ?_
  refine g_topI (tp (at_ + 1)) (htp _ (by omega)) ?_
  refine g_istore_n d11_carFromTape_54 (by decide) ?_
  refine g_aload_n d11_carFromTape_55 rfl ?_
  refine g_get fl11_27 d11_carFromTape_56 f_0_3 ?_
  refine g_get fl11_340 d11_carFromTape_59 f_12_0 ?_
  refine g_iload_n d11_carFromTape_62 rfl ?_
  refine g_iconstv (nI 2) d11_carFromTape_63 rfl ?_
  refine g_iaddN d11_carFromTape_64 ?_
  refine g_ialdN ((at_ + 2)) d11_carFromTape_65 a_13 (rfl) (by omega) (by decide) ?_
  refine g_topI (tp (at_ + 2)) (htp _ (by omega)) ?_
  refine g_istore d11_carFromTape_66 (by decide) ?_
  refine g_aload_n d11_carFromTape_68 rfl ?_
  refine g_get fl11_27 d11_carFromTape_69 f_0_3 ?_
  refine g_get fl11_340 d11_carFromTape_72 f_12_0 ?_
  refine g_iload_n d11_carFromTape_75 rfl ?_
  refine g_iconstv (nI 3) d11_carFromTape_76 rfl ?_
  refine g_iaddN d11_carFromTape_77 ?_
  refine g_ialdN ((at_ + 3)) d11_carFromTape_78 a_13 (rfl) (by omega) (by decide) ?_
  refine g_topI (tp (at_ + 3)) (htp _ (by omega)) ?_
  refine g_istore d11_carFromTape_79 (by decide) ?_
  refine g_iload_n d11_carFromTape_81 rfl ?_
  refine g_iload_n d11_carFromTape_82 rfl ?_
  refine g_iload d11_carFromTape_83 rfl ?_
  refine g_iload d11_carFromTape_85 rfl ?_
  refine g_ES4 sm11_canBeCar ml11_104 (r11_canBeCarI  (rfl) (rfl) (rfl) (rfl) (Nat.le_refl 0)) (by omega) (Nat.le_of_ble_eq_true rfl) d11_carFromTape_87 ?_
  refine g_bnz 95 d11_carFromTape_90 rfl (fun c90 => absurd c90 (h3)) (fun _ => ?_)
  refine g_iconstv (nI 0) d11_carFromTape_93 rfl ?_
  exact g_zret rfl (by decide) d11_carFromTape_94 (⟨rfl, rfl⟩)
set_option maxHeartbeats 200000 in
theorem r11_cft_y {l : Launch} {K : cK} {d : Nat} {I : wI} {L : wL} {R : wR} {dy : cH} (t at_ n : Nat) (ht : I 12 1 = nI t) (ht4 : t ≤ 400) (ha : at_ ≤ 400) (hn : I 1 0 = nI n) (hn6 : n ≤ 6) (tp : Nat → Int32) (htp : ∀ j, j < 400 → I 13 j = tp j) (hy : at_ + 3 < t ∧ n < 6 ∧ cOK (tp at_) (tp (at_ + 1)) (tp (at_ + 2)) (tp (at_ + 3))) (hd : 1 ≤ d) : CE l K m11_carFromTape d [.ref 0, .int (nI at_)] (hp I L R dy) (.int (nI 1)) (hp (uI (uI (uI (uI (uI I 2 (n * 4 + 0) (tp (at_ + 0))) 2 (n * 4 + 1) (tp (at_ + 1))) 2 (n * 4 + 2) (tp (at_ + 2))) 2 (n * 4 + 3) (tp (at_ + 3))) 1 0 (nI (n + 1))) L R dy) := by
  obtain ⟨h1, h2, h3⟩ := hy
  have h3 : cOK (tp (at_ + 0)) (tp (at_ + 1)) (tp (at_ + 2)) (tp (at_ + 3)) := h3
  refine CC.of ok11_carFromTape (Nat.le_of_ble_eq_true rfl) ?_
  refine g_iload_n d11_carFromTape_0 rfl ?_
  refine g_iz_lt ((at_ : Nat) : Int) 29 (nI_ti (by omega)) d11_carFromTape_1 rfl (fun c1 => absurd c1 (by omega)) (fun _ => ?_)
  refine g_iload_n d11_carFromTape_4 rfl ?_
  refine g_iconstv (nI 4) d11_carFromTape_5 rfl ?_
  refine g_iaddN d11_carFromTape_6 ?_
  refine g_aload_n d11_carFromTape_7 rfl ?_
  refine g_get fl11_27 d11_carFromTape_8 f_0_3 ?_
  refine g_get fl11_145 d11_carFromTape_11 f_12_1 ?_
  refine g_topI (nI (t)) (ht) ?_
  refine g_ic_gt (((at_ + 4) : Nat) : Int) ((t : Nat) : Int) 29 (nI_ti (by omega)) (nI_ti (by omega)) d11_carFromTape_14 rfl (fun c14 => absurd c14 (by omega)) (fun _ => ?_)
  refine g_aload_n d11_carFromTape_17 rfl ?_
  refine g_get fl11_10 d11_carFromTape_18 f_0_0 ?_
  refine g_get fl11_112 d11_carFromTape_21 f_1_0 ?_
  refine g_topI (nI (n)) (hn) ?_
  refine g_bipushv (nI 6) d11_carFromTape_24 rfl ?_
  refine g_ic_lt ((n : Nat) : Int) (6) 31 (nI_ti (by omega)) (by decide) d11_carFromTape_26 rfl (fun _ => ?_) (fun c26 => absurd c26 (by omega))
  refine g_aload_n d11_carFromTape_31 rfl ?_
  refine g_get fl11_27 d11_carFromTape_32 f_0_3 ?_
  refine g_get fl11_340 d11_carFromTape_35 f_12_0 ?_
  refine g_iload_n d11_carFromTape_38 rfl ?_
  refine g_iconstv (nI 0) d11_carFromTape_39 rfl ?_
  refine g_iaddN d11_carFromTape_40 ?_
  refine g_ialdN ((at_ + 0)) d11_carFromTape_41 a_13 (rfl) (by omega) (by decide) ?_
  refine g_topI (tp (at_ + 0)) (htp _ (by omega)) ?_
  refine g_istore_n d11_carFromTape_42 (by decide) ?_
  refine g_aload_n d11_carFromTape_43 rfl ?_
  refine g_get fl11_27 d11_carFromTape_44 f_0_3 ?_
  refine g_get fl11_340 d11_carFromTape_47 f_12_0 ?_
  refine g_iload_n d11_carFromTape_50 rfl ?_
  refine g_iconstv (nI 1) d11_carFromTape_51 rfl ?_
  refine g_iaddN d11_carFromTape_52 ?_
  refine g_ialdN ((at_ + 1)) d11_carFromTape_53 a_13 (rfl) (by omega) (by decide) ?_
  refine g_topI (tp (at_ + 1)) (htp _ (by omega)) ?_
  refine g_istore_n d11_carFromTape_54 (by decide) ?_
  refine g_aload_n d11_carFromTape_55 rfl ?_
  refine g_get fl11_27 d11_carFromTape_56 f_0_3 ?_
  refine g_get fl11_340 d11_carFromTape_59 f_12_0 ?_
  refine g_iload_n d11_carFromTape_62 rfl ?_
  refine g_iconstv (nI 2) d11_carFromTape_63 rfl ?_
  refine g_iaddN d11_carFromTape_64 ?_
  refine g_ialdN ((at_ + 2)) d11_carFromTape_65 a_13 (rfl) (by omega) (by decide) ?_
  refine g_topI (tp (at_ + 2)) (htp _ (by omega)) ?_
  refine g_istore d11_carFromTape_66 (by decide) ?_
  refine g_aload_n d11_carFromTape_68 rfl ?_
  refine g_get fl11_27 d11_carFromTape_69 f_0_3 ?_
  refine g_get fl11_340 d11_carFromTape_72 f_12_0 ?_
  refine g_iload_n d11_carFromTape_75 rfl ?_
  refine g_iconstv (nI 3) d11_carFromTape_76 rfl ?_
  refine g_iaddN d11_carFromTape_77 ?_
  refine g_ialdN ((at_ + 3)) d11_carFromTape_78 a_13 (rfl) (by omega) (by decide) ?_
  refine g_topI (tp (at_ + 3)) (htp _ (by omega)) ?_
  refine g_istore d11_carFromTape_79 (by decide) ?_
  refine g_iload_n d11_carFromTape_81 rfl ?_
  refine g_iload_n d11_carFromTape_82 rfl ?_
  refine g_iload d11_carFromTape_83 rfl ?_
  refine g_iload d11_carFromTape_85 rfl ?_
  refine g_ES4 sm11_canBeCar ml11_104 (r11_canBeCarI  (rfl) (rfl) (rfl) (rfl) (Nat.le_refl 0)) (by omega) (Nat.le_of_ble_eq_true rfl) d11_carFromTape_87 ?_
  refine g_bnz 95 d11_carFromTape_90 rfl (fun _ => ?_) (fun c90 => absurd (h3) c90)
  refine g_aload_n d11_carFromTape_95 rfl ?_
  refine g_get fl11_10 d11_carFromTape_96 f_0_0 ?_
  refine g_iload_n d11_carFromTape_99 rfl ?_
  refine g_iload_n d11_carFromTape_100 rfl ?_
  refine g_iload d11_carFromTape_101 rfl ?_
  refine g_iload d11_carFromTape_103 rfl ?_
  refine g_EV4 vm6_addCar ml11_115 c_1 (r6_addCar _ _ _ _ n hn h2 (Nat.le_refl 0)) (by omega) (Nat.le_of_ble_eq_true rfl) d11_carFromTape_105 ?_
  refine g_pop d11_carFromTape_108 rfl ?_
  refine g_iconstv (nI 1) d11_carFromTape_109 rfl ?_
  exact g_zret rfl (by decide) d11_carFromTape_110 (⟨rfl, rfl⟩)
set_option maxHeartbeats 200000 in
theorem r11_row_no {l : Launch} {K : cK} {d : Nat} {I : wI} {L : wL} {R : wR} {dy : cH} (h0 : I 12 1 = nI 0) (hd : 1 ≤ d) : CE l K m11_row d [.ref 0] (hp I L R dy) (.int (-6)) (hp (uI (uI (I) 55 4 (I 55 4 + 1)) 0 14 (-6)) L R dy) := by
  refine CC.of ok11_row (Nat.le_of_ble_eq_true rfl) ?_
  refine g_aload_n d11_row_0 rfl ?_
  refine g_get fl11_27 d11_row_1 f_0_3 ?_
  refine g_get fl11_145 d11_row_4 f_12_1 ?_
  refine g_topI (nI 0) (h0) ?_
  refine g_iz_ne (0) 17 (by decide) d11_row_7 rfl (fun c7 => absurd c7 (by decide)) (fun _ => ?_)
  refine g_aload_n d11_row_10 rfl ?_
  refine g_bipushv ((-6 : Int32)) d11_row_11 rfl ?_
  refine g_EV1 vm11_refuse ml11_108 c_0 (r11_refuse_6 (Nat.le_refl 0)) (by omega) (Nat.le_of_ble_eq_true rfl) d11_row_13 ?_
  exact g_iret rfl d11_row_16 (⟨rfl, rfl⟩)
set_option maxHeartbeats 1000000 in
theorem r11_rwL {l : Launch} {K : cK} {d : Nat} {I : wI} {L : wL} {R : wR} {dy : cH} {Q : Option Value → cH → Prop} (t : Nat) (ht : I 12 1 = nI t) (ht4 : t ≤ 400) (tp : Nat → Int32) (htp : ∀ j, j < 400 → I 13 j = tp j) (n : Nat) (hn6 : n ≤ 6) (F : Nat → Int32) (hd : 2 ≤ d)
    (kk : ∀ I3 : wI, (∀ q, q ≠ 0 → q ≠ 1 → q ≠ 2 → I3 q = I q) ∧ (∀ j, j ≠ 16 → I3 0 j = I 0 j) ∧ (∀ j, j ≠ 0 → I3 1 j = I 1 j) ∧ I3 1 0 = nI (rs tp t n F ((t + 3) / 4)).1 ∧ (∀ j, j < 24 → I3 2 j = (rs tp t n F ((t + 3) / 4)).2.1 j) ∧ I3 0 16 = nI (rs tp t n F ((t + 3) / 4)).2.2.2 → GL l K m11_row d 0 0 67 [(0, .ref 0), (1, .int (nI (rs tp t n F ((t + 3) / 4)).2.2.1))] [] (hp I3 L R dy) Q) :
    ∀ (z m : Nat) (I2 : wI), m + z = ((t + 3) / 4) → (∀ q, q ≠ 0 → q ≠ 1 → q ≠ 2 → I2 q = I q) ∧ (∀ j, j ≠ 16 → I2 0 j = I 0 j) ∧ (∀ j, j ≠ 0 → I2 1 j = I 1 j) ∧ I2 1 0 = nI (rs tp t n F m).1 ∧ (∀ j, j < 24 → I2 2 j = (rs tp t n F m).2.1 j) ∧ I2 0 16 = nI (rs tp t n F m).2.2.2 → GL l K m11_row d 0 0 26 [(0, .ref 0), (1, .int (nI (rs tp t n F m).2.2.1)), (2, .int (nI (4 * m)))] [] (hp I2 L R dy) Q := by
  intro z
  induction z with
  | zero =>
    intro m I2 hm hI
    obtain rfl : m = ((t + 3) / 4) := by omega
    obtain ⟨i1, i2, i3, i4, i5, i6⟩ := id hI
    have e12 : I2 12 1 = nI t := by rw [i1 12 (by decide) (by decide) (by decide)]; exact ht
    refine g_iload_n d11_row_26 rfl ?_
    refine g_aload_n d11_row_27 rfl ?_
    refine g_get fl11_27 d11_row_28 f_0_3 ?_
    refine g_get fl11_145 d11_row_31 f_12_1 ?_
    refine g_topI (nI (t)) (e12) ?_
    refine g_ic_ge (((4 * ((t + 3) / 4)) : Nat) : Int) ((t : Nat) : Int) 67 (nI_ti (by omega)) (nI_ti (by omega)) d11_row_34 rfl (fun _ => ?_) (fun c34 => absurd c34 (by omega))
    refine g_lo [(0, .ref 0), (1, .int (nI (rs tp t n F ((t + 3) / 4)).2.2.1))] ⟨rfl, rfl, trivial⟩ ?_
    exact kk I2 hI
  | succ z ih =>
    intro m I2 hm hI
    obtain ⟨i1, i2, i3, i4, i5, i6⟩ := hI
    have e12 : I2 12 1 = nI t := by rw [i1 12 (by decide) (by decide) (by decide)]; exact ht
    have e13 : ∀ j, j < 400 → I2 13 j = tp j := fun j hj => by rw [i1 13 (by decide) (by decide) (by decide)]; exact htp j hj
    obtain ⟨l1, l2, l3⟩ := rs_le tp t n F hn6 m
    have ers : (rs tp t n F (m + 1)) = rst tp t (4 * m) (rs tp t n F m) := rfl
    by_cases hc : 4 * m + 3 < t ∧ (rs tp t n F m).1 < 6 ∧ cOK (tp (4 * m)) (tp (4 * m + 1)) (tp (4 * m + 2)) (tp (4 * m + 3))
    · rw [show rst tp t (4 * m) (rs tp t n F m) = _ from if_pos hc] at ers
      refine g_iload_n d11_row_26 rfl ?_
      refine g_aload_n d11_row_27 rfl ?_
      refine g_get fl11_27 d11_row_28 f_0_3 ?_
      refine g_get fl11_145 d11_row_31 f_12_1 ?_
      refine g_topI (nI (t)) (e12) ?_
      refine g_ic_ge (((4 * m) : Nat) : Int) ((t : Nat) : Int) 67 (nI_ti (by omega)) (nI_ti (by omega)) d11_row_34 rfl (fun c34 => absurd c34 (by omega)) (fun _ => ?_)
      refine g_aload_n d11_row_37 rfl ?_
      refine g_iload_n d11_row_38 rfl ?_
      refine g_EV1 vm11_carFromTape ml11_155 c_0 (r11_cft_y (I := I2) t (4 * m) (rs tp t n F m).1 e12 ht4 (by omega) i4 l1 tp e13 hc (Nat.le_refl 1)) (by omega) (Nat.le_of_ble_eq_true rfl) d11_row_39 ?_
      refine g_iz_eq (1) 51 (by decide) d11_row_42 rfl (fun c42 => absurd c42 (by decide)) (fun _ => ?_)
      refine g_iincN d11_row_45 rfl (by decide) ?_
      refine g_goto 61 d11_row_48 rfl ?_
      refine g_iinc (nI (4 * m + 4)) d11_row_61 rfl (nI_add (4 * m) 4) (by decide) ?_
      refine g_goto 26 d11_row_64 rfl ?_
      refine g_lo [(0, .ref 0), (1, .int (nI (rs tp t n F (m + 1)).2.2.1)), (2, .int (nI (4 * (m + 1))))] ⟨rfl, by rw [ers]; rfl, by rw [show 4 * (m + 1) = 4 * m + 4 by omega]; rfl, trivial⟩ ?_
      refine ih (m + 1) _ (by omega) ⟨fun q a b c => by rw [uI_n b, uI_n c, uI_n c, uI_n c, uI_n c]; exact i1 q a b c, fun j hj => by rw [uI_n (by decide), uI_n (by decide), uI_n (by decide), uI_n (by decide), uI_n (by decide)]; exact i2 j hj, fun j hj => by rw [uI_sn hj, uI_n (by decide), uI_n (by decide), uI_n (by decide), uI_n (by decide)]; exact i3 j hj, by rw [uI_ss, ers], fun j hj => ?_, by rw [uI_n (by decide), uI_n (by decide), uI_n (by decide), uI_n (by decide), uI_n (by decide), ers]; exact i6⟩
      rw [ers, uI_n (by decide)]
      have h5 := i5 j hj
      simp only [uI_at, upd, true_and]
      rw [Nat.mul_comm (rs tp t n F m).1 4, h5]; rfl
    · rw [show rst tp t (4 * m) (rs tp t n F m) = _ from if_neg hc] at ers
      refine g_iload_n d11_row_26 rfl ?_
      refine g_aload_n d11_row_27 rfl ?_
      refine g_get fl11_27 d11_row_28 f_0_3 ?_
      refine g_get fl11_145 d11_row_31 f_12_1 ?_
      refine g_topI (nI (t)) (e12) ?_
      refine g_ic_ge (((4 * m) : Nat) : Int) ((t : Nat) : Int) 67 (nI_ti (by omega)) (nI_ti (by omega)) d11_row_34 rfl (fun c34 => absurd c34 (by omega)) (fun _ => ?_)
      refine g_aload_n d11_row_37 rfl ?_
      refine g_iload_n d11_row_38 rfl ?_
      refine g_EV1 vm11_carFromTape ml11_155 c_0 (r11_cft_n (I := I2) t (4 * m) (rs tp t n F m).1 e12 ht4 (by omega) i4 l1 tp e13 hc (Nat.le_refl 1)) (by omega) (Nat.le_of_ble_eq_true rfl) d11_row_39 ?_
      refine g_iz_eq (0) 51 (by decide) d11_row_42 rfl (fun _ => ?_) (fun c42 => absurd c42 (by decide))
      refine g_aload_n d11_row_51 rfl ?_
      refine g_dup d11_row_52 rfl ?_
      refine g_get fl11_152 d11_row_53 f_0_16 ?_
      refine g_topI (nI ((rs tp t n F m).2.2.2)) (i6) ?_
      refine g_iconstv (nI 1) d11_row_56 rfl ?_
      refine g_iaddN d11_row_57 ?_
      refine g_putIh _ fl11_152 d11_row_58 f_0_16 s_0_16 ?_
      refine g_iinc (nI (4 * m + 4)) d11_row_61 rfl (nI_add (4 * m) 4) (by decide) ?_
      refine g_goto 26 d11_row_64 rfl ?_
      refine g_lo [(0, .ref 0), (1, .int (nI (rs tp t n F (m + 1)).2.2.1)), (2, .int (nI (4 * (m + 1))))] ⟨rfl, by rw [ers]; rfl, by rw [show 4 * (m + 1) = 4 * m + 4 by omega]; rfl, trivial⟩ ?_
      refine ih (m + 1) _ (by omega) ⟨fun q a b c => by rw [uI_n a]; exact i1 q a b c, fun j hj => by rw [uI_sn hj]; exact i2 j hj, fun j hj => by rw [uI_n (by decide)]; exact i3 j hj, by rw [uI_n (by decide), ers]; exact i4, fun j hj => by rw [uI_n (by decide), ers]; exact i5 j hj, by rw [uI_ss, ers]⟩
set_option maxHeartbeats 200000 in
theorem r11_row_ok {l : Launch} {K : cK} {d : Nat} {I : wI} {L : wL} {R : wR} {dy : cH} (t : Nat) (ht : I 12 1 = nI t) (ht4 : t ≤ 400) (tp : Nat → Int32) (htp : ∀ j, j < 400 → I 13 j = tp j) (n : Nat) (hn : I 1 0 = nI n) (hn6 : n ≤ 6) (F : Nat → Int32) (ht0 : 0 < t) (hF : ∀ j, j < 24 → I 2 j = F j) (hd : 2 ≤ d) : CX l K m11_row d [.ref 0] (hp I L R dy) (α := wI) (fun x => (∀ q, q ≠ 0 → q ≠ 1 → q ≠ 2 → q ≠ 12 → x q = I q) ∧ (∀ j, j ≠ 16 → j ≠ 14 → x 0 j = I 0 j) ∧ (∀ j, j ≠ 0 → x 1 j = I 1 j) ∧ (∀ j, j ≠ 1 → x 12 j = I 12 j) ∧ x 1 0 = nI (rs tp t n F ((t + 3) / 4)).1 ∧ (∀ j, j < 24 → x 2 j = (rs tp t n F ((t + 3) / 4)).2.1 j) ∧ x 0 16 = nI (rs tp t n F ((t + 3) / 4)).2.2.2 ∧ x 12 1 = 0 ∧ x 0 14 = 0) (fun _ => .int (nI (rs tp t n F ((t + 3) / 4)).2.2.1)) (fun x => hp x L R dy) := by
  refine CC.of ok11_row (Nat.le_of_ble_eq_true rfl) ?_
  refine g_aload_n d11_row_0 rfl ?_
  refine g_get fl11_27 d11_row_1 f_0_3 ?_
  refine g_get fl11_145 d11_row_4 f_12_1 ?_
  refine g_topI (nI (t)) (ht) ?_
  refine g_iz_ne ((t : Nat) : Int) 17 (nI_ti (by omega)) d11_row_7 rfl (fun _ => ?_) (fun c7 => absurd c7 (by omega))
  refine g_iconstv (nI 0) d11_row_17 rfl ?_
  refine g_istore_n d11_row_18 (by decide) ?_
  refine g_aload_n d11_row_19 rfl ?_
  refine g_iconstv (nI 0) d11_row_20 rfl ?_
  refine g_putIh _ fl11_152 d11_row_21 f_0_16 s_0_16 ?_
  refine g_iconstv (nI 0) d11_row_24 rfl ?_
  refine g_istore_n d11_row_25 (by decide) ?_
  refine g_lo [(0, .ref 0), (1, .int (nI (rs tp t n F 0).2.2.1)), (2, .int (nI (4 * 0)))] ⟨rfl, rfl, rfl, trivial⟩ ?_
  refine r11_rwL (I := I) t ht ht4 tp htp n hn6 F (by omega) (fun I3 hI => ?_) ((t + 3) / 4) 0 _ (by omega) ⟨fun q a b c => uI_n a, fun j hj => uI_sn hj, fun j hj => by rw [uI_n (by decide)], by rw [uI_n (by decide)]; exact hn, fun j hj => by rw [uI_n (by decide)]; exact hF j hj, uI_ss⟩
  obtain ⟨i1, i2, i3, i4, i5, i6⟩ := hI
  refine g_aload_n d11_row_67 rfl ?_
  refine g_get fl11_27 d11_row_68 f_0_3 ?_
  refine g_iconstv (nI 0) d11_row_71 rfl ?_
  refine g_putIh _ fl11_145 d11_row_72 f_12_1 s_12_1 ?_
  refine g_aload_n d11_row_75 rfl ?_
  refine g_iload_n d11_row_76 rfl ?_
  refine g_EV1 vm11_allow ml11_119 c_0 (r11_allow (Nat.le_refl 0)) (by omega) (Nat.le_of_ble_eq_true rfl) d11_row_77 ?_
  exact g_iret rfl d11_row_80 (⟨uI (uI I3 12 1 0) 0 14 0, ⟨fun q a b c e => by rw [uI_n a, uI_n e]; exact i1 q a b c, fun j a b => by rw [uI_sn b, uI_n (by decide)]; exact i2 j a, fun j a => by rw [uI_n (by decide), uI_n (by decide)]; exact i3 j a, fun j a => by rw [uI_n (by decide), uI_sn a, i1 12 (by decide) (by decide) (by decide)], by rw [uI_n (by decide), uI_n (by decide)]; exact i4, fun j a => by rw [uI_n (by decide), uI_n (by decide)]; exact i5 j a, by rw [uI_sn (by decide), uI_n (by decide)]; exact i6, by rw [uI_n (by decide), uI_ss], uI_ss⟩, rfl, rfl⟩)
