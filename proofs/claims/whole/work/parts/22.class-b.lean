theorem fh_ti : ∀ j, j < 4 → (([11, 11, 1, 9] : List Int32).getD j 0).toInt = ([11, 11, 1, 9] : List Int).getD j 0 := by decide
theorem tlo_ti : ∀ j, j < 8 → (([1, 1, 0, 0, 1, 0, 0, 0] : List Int32).getD j 0).toInt = ([1, 1, 0, 0, 1, 0, 0, 0] : List Int).getD j 0 := by decide
theorem thi_ti : ∀ j, j < 8 → (([9, 4, 99, 9, 12, 3, 99, 9] : List Int32).getD j 0).toInt = ([9, 4, 99, 9, 12, 3, 99, 9] : List Int).getD j 0 := by decide
/-- an int in a range is a number -/
theorem nat_of {x : Int32} {n : Nat} (h0 : 0 ≤ x.toInt) (h1 : x.toInt < n) (hn : n < 2147483648) : ∃ j : Nat, j < n ∧ x = nI j := ⟨x.toInt.toNat, by omega, by rw [i_eq, nI_ti (by omega)]; omega⟩
set_option maxHeartbeats 200000 in
theorem r11_put_2 {l : Launch} {K : cK} {d : Nat} {I : wI} {L : wL} {R : wR} {dy : cH} (j : Nat) (hj : j < 4) (x : Int32) (hx0 : 0 ≤ x.toInt) (hx1 : x.toInt ≤ ([11, 11, 1, 9] : List Int).getD j 0) (c : Int32) (n : Nat) (hn : I 1 0 = nI n) (hn6 : n ≤ 6) (hc : ¬ (0 ≤ c.toInt ∧ c.toInt < n)) (hd : 1 ≤ d) : CE l K m11_put d [.ref 0, .int c, .int (nI j), .int x] (hp I L R dy) (.int (-2)) (hp (uI (uI (I) 55 1 (I 55 1 + 1)) 0 14 (-2)) L R dy) := by
  refine CC.of ok11_put (Nat.le_of_ble_eq_true rfl) ?_
  refine g_iload_n d11_put_0 rfl ?_
  refine g_iz_lt ((j : Nat) : Int) 22 (nI_ti (by omega)) d11_put_1 rfl (fun c1 => absurd c1 (by omega)) (fun _ => ?_)
  refine g_iload_n d11_put_4 rfl ?_
  refine g_iconstv (nI 4) d11_put_5 rfl ?_
  refine g_ic_ge ((j : Nat) : Int) (4) 22 (nI_ti (by omega)) (by decide) d11_put_6 rfl (fun c6 => absurd c6 (by omega)) (fun _ => ?_)
  refine g_iload_n d11_put_9 rfl ?_
  refine g_iz_lt _ 22 (rfl) d11_put_10 rfl (fun c10 => absurd c10 (by omega)) (fun _ => ?_)
  refine g_iload_n d11_put_13 rfl ?_
  refine g_gets (j := 2) rfl fs11_122 d11_put_14 ?_
  refine g_iload_n d11_put_17 rfl ?_
  refine g_iaSN (j) rfl (rfl) (by omega) (by decide) d11_put_18 ?_
  refine g_ic_le _ (([11, 11, 1, 9] : List Int).getD j 0) 28 (rfl) (fh_ti j hj) d11_put_19 rfl (fun _ => ?_) (fun c19 => absurd c19 (by omega))
  refine g_aload_n d11_put_28 rfl ?_
  refine g_get fl11_10 d11_put_29 f_0_0 ?_
  refine g_iload_n d11_put_32 rfl ?_
  refine g_EV1 vm6_hasCar ml11_125 c_1 (r6_hasCarI  n (by exact hn) hn6 (rfl) (Nat.le_refl 0)) (by omega) (Nat.le_of_ble_eq_true rfl) d11_put_33 ?_
  refine g_bnz 46 d11_put_36 rfl (fun c36 => absurd c36 (hc)) (fun _ => ?_)
  refine g_aload_n d11_put_39 rfl ?_
  refine g_bipushv ((-2 : Int32)) d11_put_40 rfl ?_
  refine g_EV1 vm11_refuse ml11_108 c_0 (r11_refuse_2 (Nat.le_refl 0)) (by omega) (Nat.le_of_ble_eq_true rfl) d11_put_42 ?_
  exact g_iret rfl d11_put_45 (⟨rfl, rfl⟩)
set_option maxHeartbeats 200000 in
theorem r11_put_3 {l : Launch} {K : cK} {d : Nat} {I : wI} {L : wL} {R : wR} {dy : cH} (j : Nat) (hj : j < 4) (x : Int32) (hx0 : 0 ≤ x.toInt) (hx1 : x.toInt ≤ ([11, 11, 1, 9] : List Int).getD j 0) (n k : Nat) (hn : I 1 0 = nI n) (hn6 : n ≤ 6) (hk : k < n) (hno : j = 0 ∧ (I 2 (k * 4 + 1)).toInt < x.toInt ∨ j = 1 ∧ x.toInt < (I 2 (k * 4 + 0)).toInt) (hd : 1 ≤ d) : CE l K m11_put d [.ref 0, .int (nI k), .int (nI j), .int x] (hp I L R dy) (.int (-3)) (hp (uI (uI (I) 55 2 (I 55 2 + 1)) 0 14 (-3)) L R dy) := by
  refine CC.of ok11_put (Nat.le_of_ble_eq_true rfl) ?_
  refine g_iload_n d11_put_0 rfl ?_
  refine g_iz_lt ((j : Nat) : Int) 22 (nI_ti (by omega)) d11_put_1 rfl (fun c1 => absurd c1 (by omega)) (fun _ => ?_)
  refine g_iload_n d11_put_4 rfl ?_
  refine g_iconstv (nI 4) d11_put_5 rfl ?_
  refine g_ic_ge ((j : Nat) : Int) (4) 22 (nI_ti (by omega)) (by decide) d11_put_6 rfl (fun c6 => absurd c6 (by omega)) (fun _ => ?_)
  refine g_iload_n d11_put_9 rfl ?_
  refine g_iz_lt _ 22 (rfl) d11_put_10 rfl (fun c10 => absurd c10 (by omega)) (fun _ => ?_)
  refine g_iload_n d11_put_13 rfl ?_
  refine g_gets (j := 2) rfl fs11_122 d11_put_14 ?_
  refine g_iload_n d11_put_17 rfl ?_
  refine g_iaSN (j) rfl (rfl) (by omega) (by decide) d11_put_18 ?_
  refine g_ic_le _ (([11, 11, 1, 9] : List Int).getD j 0) 28 (rfl) (fh_ti j hj) d11_put_19 rfl (fun _ => ?_) (fun c19 => absurd c19 (by omega))
  refine g_aload_n d11_put_28 rfl ?_
  refine g_get fl11_10 d11_put_29 f_0_0 ?_
  refine g_iload_n d11_put_32 rfl ?_
  refine g_EV1 vm6_hasCar ml11_125 c_1 (r6_hasCarI (xi := ((k : Nat) : Int)) n (by exact hn) hn6 (nI_ti (by omega)) (Nat.le_refl 0)) (by omega) (Nat.le_of_ble_eq_true rfl) d11_put_33 ?_
  refine g_bnz 46 d11_put_36 rfl (fun _ => ?_) (fun c36 => absurd c36 (fun q => q (by omega)))
  refine g_iload_n d11_put_46 rfl ?_
  refine g_iz_ne ((j : Nat) : Int) 63 (nI_ti (by omega)) d11_put_47 rfl (fun c47 => ?_) (fun c47 => ?_)
  · refine g_iload_n d11_put_63 rfl ?_
    refine g_iconstv (nI 1) d11_put_64 rfl ?_
    refine g_ic_ne ((j : Nat) : Int) (1) 88 (nI_ti (by omega)) (by decide) d11_put_65 rfl (fun c65 => ?_) (fun c65 => ?_)
    · exfalso
      omega
    · refine g_iload_n d11_put_68 rfl ?_
      refine g_aload_n d11_put_69 rfl ?_
      refine g_get fl11_10 d11_put_70 f_0_0 ?_
      refine g_iload_n d11_put_73 rfl ?_
      refine g_iconstv (nI 0) d11_put_74 rfl ?_
      refine g_EV2 vm6_factOf ml11_129 c_1 (r6_factOf (k) (0) (by omega) (by omega) (Nat.le_refl 0)) (by omega) (Nat.le_of_ble_eq_true rfl) d11_put_75 ?_
      refine g_ic_ge _ _ 88 (rfl) (rfl) d11_put_78 rfl (fun c78 => ?_) (fun c78 => ?_)
      · exfalso
        omega
      · refine g_aload_n d11_put_81 rfl ?_
        refine g_bipushv ((-3 : Int32)) d11_put_82 rfl ?_
        refine g_EV1 vm11_refuse ml11_108 c_0 (r11_refuse_3 (Nat.le_refl 0)) (by omega) (Nat.le_of_ble_eq_true rfl) d11_put_84 ?_
        exact g_iret rfl d11_put_87 (⟨rfl, rfl⟩)
  · refine g_iload_n d11_put_50 rfl ?_
    refine g_aload_n d11_put_51 rfl ?_
    refine g_get fl11_10 d11_put_52 f_0_0 ?_
    refine g_iload_n d11_put_55 rfl ?_
    refine g_iconstv (nI 1) d11_put_56 rfl ?_
    refine g_EV2 vm6_factOf ml11_129 c_1 (r6_factOf (k) (1) (by omega) (by omega) (Nat.le_refl 0)) (by omega) (Nat.le_of_ble_eq_true rfl) d11_put_57 ?_
    refine g_ic_gt _ _ 81 (rfl) (rfl) d11_put_60 rfl (fun c60 => ?_) (fun c60 => ?_)
    · refine g_aload_n d11_put_81 rfl ?_
      refine g_bipushv ((-3 : Int32)) d11_put_82 rfl ?_
      refine g_EV1 vm11_refuse ml11_108 c_0 (r11_refuse_3 (Nat.le_refl 0)) (by omega) (Nat.le_of_ble_eq_true rfl) d11_put_84 ?_
      exact g_iret rfl d11_put_87 (⟨rfl, rfl⟩)
    · exfalso
      omega
set_option maxHeartbeats 200000 in
theorem r11_put_ok {l : Launch} {K : cK} {d : Nat} {I : wI} {L : wL} {R : wR} {dy : cH} (j : Nat) (hj : j < 4) (x : Int32) (hx0 : 0 ≤ x.toInt) (hx1 : x.toInt ≤ ([11, 11, 1, 9] : List Int).getD j 0) (n k : Nat) (hn : I 1 0 = nI n) (hn6 : n ≤ 6) (hk : k < n) (hno : ¬ (j = 0 ∧ (I 2 (k * 4 + 1)).toInt < x.toInt ∨ j = 1 ∧ x.toInt < (I 2 (k * 4 + 0)).toInt)) (hd : 1 ≤ d) : CE l K m11_put d [.ref 0, .int (nI k), .int (nI j), .int x] (hp I L R dy) (.int (I 2 (k * 4 + j))) (hp (uI (uI I 2 (k * 4 + j) x) 0 14 0) L R dy) := by
  refine CC.of ok11_put (Nat.le_of_ble_eq_true rfl) ?_
  refine g_iload_n d11_put_0 rfl ?_
  refine g_iz_lt ((j : Nat) : Int) 22 (nI_ti (by omega)) d11_put_1 rfl (fun c1 => absurd c1 (by omega)) (fun _ => ?_)
  refine g_iload_n d11_put_4 rfl ?_
  refine g_iconstv (nI 4) d11_put_5 rfl ?_
  refine g_ic_ge ((j : Nat) : Int) (4) 22 (nI_ti (by omega)) (by decide) d11_put_6 rfl (fun c6 => absurd c6 (by omega)) (fun _ => ?_)
  refine g_iload_n d11_put_9 rfl ?_
  refine g_iz_lt _ 22 (rfl) d11_put_10 rfl (fun c10 => absurd c10 (by omega)) (fun _ => ?_)
  refine g_iload_n d11_put_13 rfl ?_
  refine g_gets (j := 2) rfl fs11_122 d11_put_14 ?_
  refine g_iload_n d11_put_17 rfl ?_
  refine g_iaSN (j) rfl (rfl) (by omega) (by decide) d11_put_18 ?_
  refine g_ic_le _ (([11, 11, 1, 9] : List Int).getD j 0) 28 (rfl) (fh_ti j hj) d11_put_19 rfl (fun _ => ?_) (fun c19 => absurd c19 (by omega))
  refine g_aload_n d11_put_28 rfl ?_
  refine g_get fl11_10 d11_put_29 f_0_0 ?_
  refine g_iload_n d11_put_32 rfl ?_
  refine g_EV1 vm6_hasCar ml11_125 c_1 (r6_hasCarI (xi := ((k : Nat) : Int)) n (by exact hn) hn6 (nI_ti (by omega)) (Nat.le_refl 0)) (by omega) (Nat.le_of_ble_eq_true rfl) d11_put_33 ?_
  refine g_bnz 46 d11_put_36 rfl (fun _ => ?_) (fun c36 => absurd c36 (fun q => q (by omega)))
  refine g_iload_n d11_put_46 rfl ?_
  refine g_iz_ne ((j : Nat) : Int) 63 (nI_ti (by omega)) d11_put_47 rfl (fun c47 => ?_) (fun c47 => ?_)
  · refine g_iload_n d11_put_63 rfl ?_
    refine g_iconstv (nI 1) d11_put_64 rfl ?_
    refine g_ic_ne ((j : Nat) : Int) (1) 88 (nI_ti (by omega)) (by decide) d11_put_65 rfl (fun c65 => ?_) (fun c65 => ?_)
    · refine g_aload_n d11_put_88 rfl ?_
      refine g_get fl11_10 d11_put_89 f_0_0 ?_
      refine g_iload_n d11_put_92 rfl ?_
      refine g_iload_n d11_put_93 rfl ?_
      refine g_EV2 vm6_factOf ml11_129 c_1 (r6_factOf (k) (j) (by omega) (by omega) (Nat.le_refl 0)) (by omega) (Nat.le_of_ble_eq_true rfl) d11_put_94 ?_
      refine g_istore d11_put_97 (by decide) ?_
      refine g_aload_n d11_put_99 rfl ?_
      refine g_get fl11_10 d11_put_100 f_0_0 ?_
      refine g_get fl11_133 d11_put_103 f_1_1 ?_
      refine g_iload_n d11_put_106 rfl ?_
      refine g_iconstv (nI 4) d11_put_107 rfl ?_
      refine g_imulN d11_put_108 ?_
      refine g_iload_n d11_put_109 rfl ?_
      refine g_iaddN d11_put_110 ?_
      refine g_iload_n d11_put_111 rfl ?_
      refine g_iastN (((k * 4) + j)) _ d11_put_112 a_2 (rfl) (by omega) (by decide) t_2 ?_
      refine g_aload_n d11_put_113 rfl ?_
      refine g_iload d11_put_114 rfl ?_
      refine g_EV1 vm11_allow ml11_119 c_0 (r11_allow (Nat.le_refl 0)) (by omega) (Nat.le_of_ble_eq_true rfl) d11_put_116 ?_
      exact g_iret rfl d11_put_119 (⟨rfl, rfl⟩)
    · refine g_iload_n d11_put_68 rfl ?_
      refine g_aload_n d11_put_69 rfl ?_
      refine g_get fl11_10 d11_put_70 f_0_0 ?_
      refine g_iload_n d11_put_73 rfl ?_
      refine g_iconstv (nI 0) d11_put_74 rfl ?_
      refine g_EV2 vm6_factOf ml11_129 c_1 (r6_factOf (k) (0) (by omega) (by omega) (Nat.le_refl 0)) (by omega) (Nat.le_of_ble_eq_true rfl) d11_put_75 ?_
      refine g_ic_ge _ _ 88 (rfl) (rfl) d11_put_78 rfl (fun c78 => ?_) (fun c78 => ?_)
      · refine g_aload_n d11_put_88 rfl ?_
        refine g_get fl11_10 d11_put_89 f_0_0 ?_
        refine g_iload_n d11_put_92 rfl ?_
        refine g_iload_n d11_put_93 rfl ?_
        refine g_EV2 vm6_factOf ml11_129 c_1 (r6_factOf (k) (j) (by omega) (by omega) (Nat.le_refl 0)) (by omega) (Nat.le_of_ble_eq_true rfl) d11_put_94 ?_
        refine g_istore d11_put_97 (by decide) ?_
        refine g_aload_n d11_put_99 rfl ?_
        refine g_get fl11_10 d11_put_100 f_0_0 ?_
        refine g_get fl11_133 d11_put_103 f_1_1 ?_
        refine g_iload_n d11_put_106 rfl ?_
        refine g_iconstv (nI 4) d11_put_107 rfl ?_
        refine g_imulN d11_put_108 ?_
        refine g_iload_n d11_put_109 rfl ?_
        refine g_iaddN d11_put_110 ?_
        refine g_iload_n d11_put_111 rfl ?_
        refine g_iastN (((k * 4) + j)) _ d11_put_112 a_2 (rfl) (by omega) (by decide) t_2 ?_
        refine g_aload_n d11_put_113 rfl ?_
        refine g_iload d11_put_114 rfl ?_
        refine g_EV1 vm11_allow ml11_119 c_0 (r11_allow (Nat.le_refl 0)) (by omega) (Nat.le_of_ble_eq_true rfl) d11_put_116 ?_
        exact g_iret rfl d11_put_119 (⟨rfl, rfl⟩)
      · exfalso
        omega
  · refine g_iload_n d11_put_50 rfl ?_
    refine g_aload_n d11_put_51 rfl ?_
    refine g_get fl11_10 d11_put_52 f_0_0 ?_
    refine g_iload_n d11_put_55 rfl ?_
    refine g_iconstv (nI 1) d11_put_56 rfl ?_
    refine g_EV2 vm6_factOf ml11_129 c_1 (r6_factOf (k) (1) (by omega) (by omega) (Nat.le_refl 0)) (by omega) (Nat.le_of_ble_eq_true rfl) d11_put_57 ?_
    refine g_ic_gt _ _ 81 (rfl) (rfl) d11_put_60 rfl (fun c60 => ?_) (fun c60 => ?_)
    · exfalso
      omega
    · refine g_iload_n d11_put_63 rfl ?_
      refine g_iconstv (nI 1) d11_put_64 rfl ?_
      refine g_ic_ne ((j : Nat) : Int) (1) 88 (nI_ti (by omega)) (by decide) d11_put_65 rfl (fun c65 => ?_) (fun c65 => ?_)
      · refine g_aload_n d11_put_88 rfl ?_
        refine g_get fl11_10 d11_put_89 f_0_0 ?_
        refine g_iload_n d11_put_92 rfl ?_
        refine g_iload_n d11_put_93 rfl ?_
        refine g_EV2 vm6_factOf ml11_129 c_1 (r6_factOf (k) (j) (by omega) (by omega) (Nat.le_refl 0)) (by omega) (Nat.le_of_ble_eq_true rfl) d11_put_94 ?_
        refine g_istore d11_put_97 (by decide) ?_
        refine g_aload_n d11_put_99 rfl ?_
        refine g_get fl11_10 d11_put_100 f_0_0 ?_
        refine g_get fl11_133 d11_put_103 f_1_1 ?_
        refine g_iload_n d11_put_106 rfl ?_
        refine g_iconstv (nI 4) d11_put_107 rfl ?_
        refine g_imulN d11_put_108 ?_
        refine g_iload_n d11_put_109 rfl ?_
        refine g_iaddN d11_put_110 ?_
        refine g_iload_n d11_put_111 rfl ?_
        refine g_iastN (((k * 4) + j)) _ d11_put_112 a_2 (rfl) (by omega) (by decide) t_2 ?_
        refine g_aload_n d11_put_113 rfl ?_
        refine g_iload d11_put_114 rfl ?_
        refine g_EV1 vm11_allow ml11_119 c_0 (r11_allow (Nat.le_refl 0)) (by omega) (Nat.le_of_ble_eq_true rfl) d11_put_116 ?_
        exact g_iret rfl d11_put_119 (⟨rfl, rfl⟩)
      · refine g_iload_n d11_put_68 rfl ?_
        refine g_aload_n d11_put_69 rfl ?_
        refine g_get fl11_10 d11_put_70 f_0_0 ?_
        refine g_iload_n d11_put_73 rfl ?_
        refine g_iconstv (nI 0) d11_put_74 rfl ?_
        refine g_EV2 vm6_factOf ml11_129 c_1 (r6_factOf (k) (0) (by omega) (by omega) (Nat.le_refl 0)) (by omega) (Nat.le_of_ble_eq_true rfl) d11_put_75 ?_
        refine g_ic_ge _ _ 88 (rfl) (rfl) d11_put_78 rfl (fun c78 => ?_) (fun c78 => ?_)
        · refine g_aload_n d11_put_88 rfl ?_
          refine g_get fl11_10 d11_put_89 f_0_0 ?_
          refine g_iload_n d11_put_92 rfl ?_
          refine g_iload_n d11_put_93 rfl ?_
          refine g_EV2 vm6_factOf ml11_129 c_1 (r6_factOf (k) (j) (by omega) (by omega) (Nat.le_refl 0)) (by omega) (Nat.le_of_ble_eq_true rfl) d11_put_94 ?_
          refine g_istore d11_put_97 (by decide) ?_
          refine g_aload_n d11_put_99 rfl ?_
          refine g_get fl11_10 d11_put_100 f_0_0 ?_
          refine g_get fl11_133 d11_put_103 f_1_1 ?_
          refine g_iload_n d11_put_106 rfl ?_
          refine g_iconstv (nI 4) d11_put_107 rfl ?_
          refine g_imulN d11_put_108 ?_
          refine g_iload_n d11_put_109 rfl ?_
          refine g_iaddN d11_put_110 ?_
          refine g_iload_n d11_put_111 rfl ?_
          refine g_iastN (((k * 4) + j)) _ d11_put_112 a_2 (rfl) (by omega) (by decide) t_2 ?_
          refine g_aload_n d11_put_113 rfl ?_
          refine g_iload d11_put_114 rfl ?_
          refine g_EV1 vm11_allow ml11_119 c_0 (r11_allow (Nat.le_refl 0)) (by omega) (Nat.le_of_ble_eq_true rfl) d11_put_116 ?_
          exact g_iret rfl d11_put_119 (⟨rfl, rfl⟩)
        · exfalso
          omega
set_option maxHeartbeats 200000 in
theorem r11_fact_no {l : Launch} {K : cK} {d : Nat} {I : wI} {L : wL} {R : wR} {dy : cH} (c w : Int32) (n : Nat) (hn : I 1 0 = nI n) (hn6 : n ≤ 6) (hc : ¬ ((0 ≤ c.toInt ∧ c.toInt < n) ∧ 0 ≤ w.toInt ∧ w.toInt ≤ 3)) (hd : 1 ≤ d) : CE l K m11_fact d [.ref 0, .int c, .int w] (hp I L R dy) (.int (-1)) (hp I L R dy) := by
  refine CC.of ok11_fact (Nat.le_of_ble_eq_true rfl) ?_
  refine g_aload_n d11_fact_0 rfl ?_
  refine g_get fl11_10 d11_fact_1 f_0_0 ?_
  refine g_iload_n d11_fact_4 rfl ?_
  refine g_EV1 vm6_hasCar ml11_125 c_1 (r6_hasCarI  n (by exact hn) hn6 (rfl) (Nat.le_refl 0)) (by omega) (Nat.le_of_ble_eq_true rfl) d11_fact_5 ?_
  refine g_bz 20 d11_fact_8 rfl (fun c8 => ?_) (fun c8 => ?_)
  · refine g_iconstv ((-1 : Int32)) d11_fact_20 rfl ?_
    exact g_iret rfl d11_fact_21 (⟨rfl, rfl⟩)
  · refine g_iload_n d11_fact_11 rfl ?_
    refine g_iz_lt _ 20 (rfl) d11_fact_12 rfl (fun c12 => ?_) (fun c12 => ?_)
    · refine g_iconstv ((-1 : Int32)) d11_fact_20 rfl ?_
      exact g_iret rfl d11_fact_21 (⟨rfl, rfl⟩)
    · refine g_iload_n d11_fact_15 rfl ?_
      refine g_iconstv (nI 4) d11_fact_16 rfl ?_
      refine g_ic_lt _ (4) 22 (rfl) (by decide) d11_fact_17 rfl (fun c17 => ?_) (fun c17 => ?_)
      · exfalso
        omega
      · refine g_iconstv ((-1 : Int32)) d11_fact_20 rfl ?_
        exact g_iret rfl d11_fact_21 (⟨rfl, rfl⟩)
set_option maxHeartbeats 200000 in
theorem r11_fact_ok {l : Launch} {K : cK} {d : Nat} {I : wI} {L : wL} {R : wR} {dy : cH} (j : Nat) (hj : j < 4) (n k : Nat) (hn : I 1 0 = nI n) (hn6 : n ≤ 6) (hk : k < n) (hd : 1 ≤ d) : CE l K m11_fact d [.ref 0, .int (nI k), .int (nI j)] (hp I L R dy) (.int (I 2 (k * 4 + j))) (hp I L R dy) := by
  refine CC.of ok11_fact (Nat.le_of_ble_eq_true rfl) ?_
  refine g_aload_n d11_fact_0 rfl ?_
  refine g_get fl11_10 d11_fact_1 f_0_0 ?_
  refine g_iload_n d11_fact_4 rfl ?_
  refine g_EV1 vm6_hasCar ml11_125 c_1 (r6_hasCarI (xi := ((k : Nat) : Int)) n (by exact hn) hn6 (nI_ti (by omega)) (Nat.le_refl 0)) (by omega) (Nat.le_of_ble_eq_true rfl) d11_fact_5 ?_
  refine g_bz 20 d11_fact_8 rfl (fun c8 => absurd c8 (fun q => q (by omega))) (fun _ => ?_)
  refine g_iload_n d11_fact_11 rfl ?_
  refine g_iz_lt ((j : Nat) : Int) 20 (nI_ti (by omega)) d11_fact_12 rfl (fun c12 => absurd c12 (by omega)) (fun _ => ?_)
  refine g_iload_n d11_fact_15 rfl ?_
  refine g_iconstv (nI 4) d11_fact_16 rfl ?_
  refine g_ic_lt ((j : Nat) : Int) (4) 22 (nI_ti (by omega)) (by decide) d11_fact_17 rfl (fun _ => ?_) (fun c17 => absurd c17 (by omega))
  refine g_aload_n d11_fact_22 rfl ?_
  refine g_get fl11_10 d11_fact_23 f_0_0 ?_
  refine g_iload_n d11_fact_26 rfl ?_
  refine g_iload_n d11_fact_27 rfl ?_
  refine g_EV2 vm6_factOf ml11_129 c_1 (r6_factOf (k) (j) (by omega) (by omega) (Nat.le_refl 0)) (by omega) (Nat.le_of_ble_eq_true rfl) d11_fact_28 ?_
  exact g_iret rfl d11_fact_31 (⟨rfl, rfl⟩)
set_option maxHeartbeats 200000 in
theorem r11_terms_no1 {l : Launch} {K : cK} {d : Nat} {I : wI} {L : wL} {R : wR} {dy : cH} (w x : Int32) (hw : w.toInt < 0 ∨ 8 ≤ w.toInt) (hd : 1 ≤ d) : CE l K m11_terms d [.ref 0, .int w, .int x] (hp I L R dy) (.int (-1)) (hp (uI (uI (I) 55 0 (I 55 0 + 1)) 0 14 (-1)) L R dy) := by
  refine CC.of ok11_terms (Nat.le_of_ble_eq_true rfl) ?_
  refine g_iload_n d11_terms_0 rfl ?_
  refine g_iz_lt _ 28 (rfl) d11_terms_1 rfl (fun c1 => ?_) (fun c1 => ?_)
  · refine g_aload_n d11_terms_28 rfl ?_
    refine g_iconstv ((-1 : Int32)) d11_terms_29 rfl ?_
    refine g_EV1 vm11_refuse ml11_108 c_0 (r11_refuse_1 (Nat.le_refl 0)) (by omega) (Nat.le_of_ble_eq_true rfl) d11_terms_30 ?_
    exact g_iret rfl d11_terms_33 (⟨rfl, rfl⟩)
  · refine g_iload_n d11_terms_4 rfl ?_
    refine g_bipushv (nI 8) d11_terms_5 rfl ?_
    refine g_ic_ge _ (8) 28 (rfl) (by decide) d11_terms_7 rfl (fun c7 => ?_) (fun c7 => ?_)
    · refine g_aload_n d11_terms_28 rfl ?_
      refine g_iconstv ((-1 : Int32)) d11_terms_29 rfl ?_
      refine g_EV1 vm11_refuse ml11_108 c_0 (r11_refuse_1 (Nat.le_refl 0)) (by omega) (Nat.le_of_ble_eq_true rfl) d11_terms_30 ?_
      exact g_iret rfl d11_terms_33 (⟨rfl, rfl⟩)
    · exfalso
      omega
set_option maxHeartbeats 200000 in
theorem r11_terms_no2 {l : Launch} {K : cK} {d : Nat} {I : wI} {L : wL} {R : wR} {dy : cH} (j : Nat) (hj : j < 8) (x : Int32) (hx : x.toInt < ([1, 1, 0, 0, 1, 0, 0, 0] : List Int).getD j 0 ∨ ([9, 4, 99, 9, 12, 3, 99, 9] : List Int).getD j 0 < x.toInt) (hd : 1 ≤ d) : CE l K m11_terms d [.ref 0, .int (nI j), .int x] (hp I L R dy) (.int (-1)) (hp (uI (uI (I) 55 0 (I 55 0 + 1)) 0 14 (-1)) L R dy) := by
  refine CC.of ok11_terms (Nat.le_of_ble_eq_true rfl) ?_
  refine g_iload_n d11_terms_0 rfl ?_
  refine g_iz_lt ((j : Nat) : Int) 28 (nI_ti (by omega)) d11_terms_1 rfl (fun c1 => absurd c1 (by omega)) (fun _ => ?_)
  refine g_iload_n d11_terms_4 rfl ?_
  refine g_bipushv (nI 8) d11_terms_5 rfl ?_
  refine g_ic_ge ((j : Nat) : Int) (8) 28 (nI_ti (by omega)) (by decide) d11_terms_7 rfl (fun c7 => absurd c7 (by omega)) (fun _ => ?_)
  refine g_iload_n d11_terms_10 rfl ?_
  refine g_gets (j := 3) rfl fs11_136 d11_terms_11 ?_
  refine g_iload_n d11_terms_14 rfl ?_
  refine g_iaSN (j) rfl (rfl) (by omega) (by decide) d11_terms_15 ?_
  refine g_ic_lt _ (([1, 1, 0, 0, 1, 0, 0, 0] : List Int).getD j 0) 28 (rfl) (tlo_ti j hj) d11_terms_16 rfl (fun c16 => ?_) (fun c16 => ?_)
  · refine g_aload_n d11_terms_28 rfl ?_
    refine g_iconstv ((-1 : Int32)) d11_terms_29 rfl ?_
    refine g_EV1 vm11_refuse ml11_108 c_0 (r11_refuse_1 (Nat.le_refl 0)) (by omega) (Nat.le_of_ble_eq_true rfl) d11_terms_30 ?_
    exact g_iret rfl d11_terms_33 (⟨rfl, rfl⟩)
  · refine g_iload_n d11_terms_19 rfl ?_
    refine g_gets (j := 4) rfl fs11_139 d11_terms_20 ?_
    refine g_iload_n d11_terms_23 rfl ?_
    refine g_iaSN (j) rfl (rfl) (by omega) (by decide) d11_terms_24 ?_
    refine g_ic_le _ (([9, 4, 99, 9, 12, 3, 99, 9] : List Int).getD j 0) 34 (rfl) (thi_ti j hj) d11_terms_25 rfl (fun c25 => ?_) (fun c25 => ?_)
    · exfalso
      omega
    · refine g_aload_n d11_terms_28 rfl ?_
      refine g_iconstv ((-1 : Int32)) d11_terms_29 rfl ?_
      refine g_EV1 vm11_refuse ml11_108 c_0 (r11_refuse_1 (Nat.le_refl 0)) (by omega) (Nat.le_of_ble_eq_true rfl) d11_terms_30 ?_
      exact g_iret rfl d11_terms_33 (⟨rfl, rfl⟩)
set_option maxHeartbeats 200000 in
theorem r11_terms_ok {l : Launch} {K : cK} {d : Nat} {I : wI} {L : wL} {R : wR} {dy : cH} (j : Nat) (hj : j < 8) (x : Int32) (hx0 : ([1, 1, 0, 0, 1, 0, 0, 0] : List Int).getD j 0 ≤ x.toInt) (hx1 : x.toInt ≤ ([9, 4, 99, 9, 12, 3, 99, 9] : List Int).getD j 0) (hd : 1 ≤ d) : CE l K m11_terms d [.ref 0, .int (nI j), .int x] (hp I L R dy) (.int (I 3 j)) (hp (uI (uI I 3 j x) 0 14 0) L R dy) := by
  refine CC.of ok11_terms (Nat.le_of_ble_eq_true rfl) ?_
  refine g_iload_n d11_terms_0 rfl ?_
  refine g_iz_lt ((j : Nat) : Int) 28 (nI_ti (by omega)) d11_terms_1 rfl (fun c1 => absurd c1 (by omega)) (fun _ => ?_)
  refine g_iload_n d11_terms_4 rfl ?_
  refine g_bipushv (nI 8) d11_terms_5 rfl ?_
  refine g_ic_ge ((j : Nat) : Int) (8) 28 (nI_ti (by omega)) (by decide) d11_terms_7 rfl (fun c7 => absurd c7 (by omega)) (fun _ => ?_)
  refine g_iload_n d11_terms_10 rfl ?_
  refine g_gets (j := 3) rfl fs11_136 d11_terms_11 ?_
  refine g_iload_n d11_terms_14 rfl ?_
  refine g_iaSN (j) rfl (rfl) (by omega) (by decide) d11_terms_15 ?_
  refine g_ic_lt _ (([1, 1, 0, 0, 1, 0, 0, 0] : List Int).getD j 0) 28 (rfl) (tlo_ti j hj) d11_terms_16 rfl (fun c16 => absurd c16 (by omega)) (fun _ => ?_)
  refine g_iload_n d11_terms_19 rfl ?_
  refine g_gets (j := 4) rfl fs11_139 d11_terms_20 ?_
  refine g_iload_n d11_terms_23 rfl ?_
  refine g_iaSN (j) rfl (rfl) (by omega) (by decide) d11_terms_24 ?_
  refine g_ic_le _ (([9, 4, 99, 9, 12, 3, 99, 9] : List Int).getD j 0) 34 (rfl) (thi_ti j hj) d11_terms_25 rfl (fun _ => ?_) (fun c25 => absurd c25 (by omega))
  refine g_aload_n d11_terms_34 rfl ?_
  refine g_get fl11_10 d11_terms_35 f_0_0 ?_
  refine g_get fl11_142 d11_terms_38 f_1_2 ?_
  refine g_iload_n d11_terms_41 rfl ?_
  refine g_ialdN (j) d11_terms_42 a_3 (rfl) (by omega) (by decide) ?_
  refine g_istore_n d11_terms_43 (by decide) ?_
  refine g_aload_n d11_terms_44 rfl ?_
  refine g_get fl11_10 d11_terms_45 f_0_0 ?_
  refine g_get fl11_142 d11_terms_48 f_1_2 ?_
  refine g_iload_n d11_terms_51 rfl ?_
  refine g_iload_n d11_terms_52 rfl ?_
  refine g_iastN (j) _ d11_terms_53 a_3 (rfl) (by omega) (by decide) t_3 ?_
  refine g_aload_n d11_terms_54 rfl ?_
  refine g_iload_n d11_terms_55 rfl ?_
  refine g_EV1 vm11_allow ml11_119 c_0 (r11_allow (Nat.le_refl 0)) (by omega) (Nat.le_of_ble_eq_true rfl) d11_terms_56 ?_
  exact g_iret rfl d11_terms_59 (⟨rfl, rfl⟩)
set_option maxHeartbeats 200000 in
theorem r11_tar {l : Launch} {K : cK} {d : Nat} {I : wI} {L : wL} {R : wR} {dy : cH}  (hd : 0 ≤ d) : CE l K m11_tar d [.ref 0] (hp I L R dy) (.int (I 0 16)) (hp I L R dy) := by
  refine CC.of ok11_tar (Nat.le_of_ble_eq_true rfl) ?_
  refine g_aload_n d11_tar_0 rfl ?_
  refine g_get fl11_152 d11_tar_1 f_0_16 ?_
  exact g_iret rfl d11_tar_4 (⟨rfl, rfl⟩)
set_option maxHeartbeats 200000 in
theorem r11_fault {l : Launch} {K : cK} {d : Nat} {I : wI} {L : wL} {R : wR} {dy : cH}  (hd : 0 ≤ d) : CE l K m11_fault d [.ref 0] (hp I L R dy) (.int (I 0 15)) (hp I L R dy) := by
  refine CC.of ok11_fault (Nat.le_of_ble_eq_true rfl) ?_
  refine g_aload_n d11_fault_0 rfl ?_
  refine g_get fl11_100 d11_fault_1 f_0_15 ?_
  exact g_iret rfl d11_fault_4 (⟨rfl, rfl⟩)
set_option maxHeartbeats 200000 in
theorem r11_status {l : Launch} {K : cK} {d : Nat} {I : wI} {L : wL} {R : wR} {dy : cH}  (hd : 0 ≤ d) : CE l K m11_status d [.ref 0] (hp I L R dy) (.int (I 0 14)) (hp I L R dy) := by
  refine CC.of ok11_status (Nat.le_of_ble_eq_true rfl) ?_
  refine g_aload_n d11_status_0 rfl ?_
  refine g_get fl11_337 d11_status_1 f_0_14 ?_
  exact g_iret rfl d11_status_4 (⟨rfl, rfl⟩)
set_option maxHeartbeats 200000 in
theorem r11_clear {l : Launch} {K : cK} {d : Nat} {I : wI} {L : wL} {R : wR} {dy : cH}  (hd : 0 ≤ d) : CE l K m11_clear d [.ref 0] (hp I L R dy) (.int (I 1 8)) (hp (uI I 1 8 0) L R dy) := by
  refine CC.of ok11_clear (Nat.le_of_ble_eq_true rfl) ?_
  refine g_aload_n d11_clear_0 rfl ?_
  refine g_get fl11_10 d11_clear_1 f_0_0 ?_
  refine g_get fl11_267 d11_clear_4 f_1_8 ?_
  refine g_istore_n d11_clear_7 (by decide) ?_
  refine g_aload_n d11_clear_8 rfl ?_
  refine g_get fl11_10 d11_clear_9 f_0_0 ?_
  refine g_iconstv (nI 0) d11_clear_12 rfl ?_
  refine g_putIh _ fl11_267 d11_clear_13 f_1_8 s_1_8 ?_
  refine g_iload_n d11_clear_16 rfl ?_
  exact g_iret rfl d11_clear_17 (⟨rfl, rfl⟩)
set_option maxHeartbeats 200000 in
theorem r11_end_no {l : Launch} {K : cK} {d : Nat} {I : wI} {L : wL} {R : wR} {dy : cH} (x : Int32) (hbad : x.toInt < 0 ∨ (I 12 1).toInt < x.toInt) (hd : 0 ≤ d) : CE l K m11_end d [.ref 0, .int x] (hp I L R dy) (.int (-1)) (hp I L R dy) := by
  refine CC.of ok11_end (Nat.le_of_ble_eq_true rfl) ?_
  refine g_iload_n d11_end_0 rfl ?_
  refine g_iz_lt _ 15 (rfl) d11_end_1 rfl (fun c1 => ?_) (fun c1 => ?_)
  · refine g_iconstv ((-1 : Int32)) d11_end_15 rfl ?_
    exact g_iret rfl d11_end_16 (⟨rfl, rfl⟩)
  · refine g_iload_n d11_end_4 rfl ?_
    refine g_aload_n d11_end_5 rfl ?_
    refine g_get fl11_27 d11_end_6 f_0_3 ?_
    refine g_get fl11_145 d11_end_9 f_12_1 ?_
    refine g_ic_le _ _ 17 (rfl) (rfl) d11_end_12 rfl (fun c12 => ?_) (fun c12 => ?_)
    · exfalso
      omega
    · refine g_iconstv ((-1 : Int32)) d11_end_15 rfl ?_
      exact g_iret rfl d11_end_16 (⟨rfl, rfl⟩)
set_option maxHeartbeats 200000 in
theorem r11_end_ok {l : Launch} {K : cK} {d : Nat} {I : wI} {L : wL} {R : wR} {dy : cH} (x : Int32) (hok : 0 ≤ x.toInt ∧ x.toInt ≤ (I 12 1).toInt) (hd : 0 ≤ d) : CE l K m11_end d [.ref 0, .int x] (hp I L R dy) (.int x) (hp (uI I 12 1 x) L R dy) := by
  refine CC.of ok11_end (Nat.le_of_ble_eq_true rfl) ?_
  refine g_iload_n d11_end_0 rfl ?_
  refine g_iz_lt _ 15 (rfl) d11_end_1 rfl (fun c1 => absurd c1 (by omega)) (fun _ => ?_)
  refine g_iload_n d11_end_4 rfl ?_
  refine g_aload_n d11_end_5 rfl ?_
  refine g_get fl11_27 d11_end_6 f_0_3 ?_
  refine g_get fl11_145 d11_end_9 f_12_1 ?_
  refine g_ic_le _ _ 17 (rfl) (rfl) d11_end_12 rfl (fun _ => ?_) (fun c12 => absurd c12 (by omega))
  refine g_aload_n d11_end_17 rfl ?_
  refine g_get fl11_27 d11_end_18 f_0_3 ?_
  refine g_iload_n d11_end_21 rfl ?_
  refine g_putIh _ fl11_145 d11_end_22 f_12_1 s_12_1 ?_
  refine g_iload_n d11_end_25 rfl ?_
  exact g_iret rfl d11_end_26 (⟨rfl, rfl⟩)
set_option maxHeartbeats 200000 in
theorem r11_count_0 {l : Launch} {K : cK} {d : Nat} {I : wI} {L : wL} {R : wR} {dy : cH} (x : Int32) (hx : x.toInt = 0) (hd : 0 ≤ d) : CE l K m11_count d [.ref 0, .int x] (hp I L R dy) (.int (I 1 0)) (hp I L R dy) := by
  refine CC.of ok11_count (Nat.le_of_ble_eq_true rfl) ?_
  refine g_iload_n d11_count_0 rfl ?_
  by_cases w0 : x.toInt = 0
  · refine g_tabIn 64 d11_count_1 (by omega) (by omega) (by rw [w0]; rfl) rfl ?_
    refine g_aload_n d11_count_64 rfl ?_
    refine g_get fl11_10 d11_count_65 f_0_0 ?_
    refine g_get fl11_112 d11_count_68 f_1_0 ?_
    exact g_iret rfl d11_count_71 (⟨rfl, rfl⟩)
  by_cases w1 : x.toInt = 1
  · refine g_tabIn 72 d11_count_1 (by omega) (by omega) (by rw [w1]; rfl) rfl ?_
    exfalso
    omega
  by_cases w2 : x.toInt = 2
  · refine g_tabIn 80 d11_count_1 (by omega) (by omega) (by rw [w2]; rfl) rfl ?_
    exfalso
    omega
  by_cases w3 : x.toInt = 3
  · refine g_tabIn 88 d11_count_1 (by omega) (by omega) (by rw [w3]; rfl) rfl ?_
    exfalso
    omega
  by_cases w4 : x.toInt = 4
  · refine g_tabIn 96 d11_count_1 (by omega) (by omega) (by rw [w4]; rfl) rfl ?_
    exfalso
    omega
  by_cases w5 : x.toInt = 5
  · refine g_tabIn 104 d11_count_1 (by omega) (by omega) (by rw [w5]; rfl) rfl ?_
    exfalso
    omega
  by_cases w6 : x.toInt = 6
  · refine g_tabIn 120 d11_count_1 (by omega) (by omega) (by rw [w6]; rfl) rfl ?_
    exfalso
    omega
  by_cases w7 : x.toInt = 7
  · refine g_tabIn 120 d11_count_1 (by omega) (by omega) (by rw [w7]; rfl) rfl ?_
    exfalso
    omega
  by_cases w8 : x.toInt = 8
  · refine g_tabIn 120 d11_count_1 (by omega) (by omega) (by rw [w8]; rfl) rfl ?_
    exfalso
    omega
  by_cases w9 : x.toInt = 9
  · refine g_tabIn 120 d11_count_1 (by omega) (by omega) (by rw [w9]; rfl) rfl ?_
    exfalso
    omega
  by_cases w10 : x.toInt = 10
  · refine g_tabIn 120 d11_count_1 (by omega) (by omega) (by rw [w10]; rfl) rfl ?_
    exfalso
    omega
  by_cases w11 : x.toInt = 11
  · refine g_tabIn 112 d11_count_1 (by omega) (by omega) (by rw [w11]; rfl) rfl ?_
    exfalso
    omega
  refine g_tabOut 120 d11_count_1 (by omega) rfl ?_
  exfalso
  omega
set_option maxHeartbeats 200000 in
theorem r11_count_1 {l : Launch} {K : cK} {d : Nat} {I : wI} {L : wL} {R : wR} {dy : cH} (x : Int32) (hx : x.toInt = 1) (hd : 0 ≤ d) : CE l K m11_count d [.ref 0, .int x] (hp I L R dy) (.int (I 1 3)) (hp I L R dy) := by
  refine CC.of ok11_count (Nat.le_of_ble_eq_true rfl) ?_
  refine g_iload_n d11_count_0 rfl ?_
  by_cases w0 : x.toInt = 0
  · refine g_tabIn 64 d11_count_1 (by omega) (by omega) (by rw [w0]; rfl) rfl ?_
    exfalso
    omega
  by_cases w1 : x.toInt = 1
  · refine g_tabIn 72 d11_count_1 (by omega) (by omega) (by rw [w1]; rfl) rfl ?_
    refine g_aload_n d11_count_72 rfl ?_
    refine g_get fl11_10 d11_count_73 f_0_0 ?_
    refine g_get fl11_162 d11_count_76 f_1_3 ?_
    exact g_iret rfl d11_count_79 (⟨rfl, rfl⟩)
  by_cases w2 : x.toInt = 2
  · refine g_tabIn 80 d11_count_1 (by omega) (by omega) (by rw [w2]; rfl) rfl ?_
    exfalso
    omega
  by_cases w3 : x.toInt = 3
  · refine g_tabIn 88 d11_count_1 (by omega) (by omega) (by rw [w3]; rfl) rfl ?_
    exfalso
    omega
  by_cases w4 : x.toInt = 4
  · refine g_tabIn 96 d11_count_1 (by omega) (by omega) (by rw [w4]; rfl) rfl ?_
    exfalso
    omega
  by_cases w5 : x.toInt = 5
  · refine g_tabIn 104 d11_count_1 (by omega) (by omega) (by rw [w5]; rfl) rfl ?_
    exfalso
    omega
  by_cases w6 : x.toInt = 6
  · refine g_tabIn 120 d11_count_1 (by omega) (by omega) (by rw [w6]; rfl) rfl ?_
    exfalso
    omega
  by_cases w7 : x.toInt = 7
  · refine g_tabIn 120 d11_count_1 (by omega) (by omega) (by rw [w7]; rfl) rfl ?_
    exfalso
    omega
  by_cases w8 : x.toInt = 8
  · refine g_tabIn 120 d11_count_1 (by omega) (by omega) (by rw [w8]; rfl) rfl ?_
    exfalso
    omega
  by_cases w9 : x.toInt = 9
  · refine g_tabIn 120 d11_count_1 (by omega) (by omega) (by rw [w9]; rfl) rfl ?_
    exfalso
    omega
  by_cases w10 : x.toInt = 10
  · refine g_tabIn 120 d11_count_1 (by omega) (by omega) (by rw [w10]; rfl) rfl ?_
    exfalso
    omega
  by_cases w11 : x.toInt = 11
  · refine g_tabIn 112 d11_count_1 (by omega) (by omega) (by rw [w11]; rfl) rfl ?_
    exfalso
    omega
  refine g_tabOut 120 d11_count_1 (by omega) rfl ?_
  exfalso
  omega
set_option maxHeartbeats 200000 in
theorem r11_count_2 {l : Launch} {K : cK} {d : Nat} {I : wI} {L : wL} {R : wR} {dy : cH} (x : Int32) (hx : x.toInt = 2) (hd : 0 ≤ d) : CE l K m11_count d [.ref 0, .int x] (hp I L R dy) (.int (I 1 6)) (hp I L R dy) := by
  refine CC.of ok11_count (Nat.le_of_ble_eq_true rfl) ?_
  refine g_iload_n d11_count_0 rfl ?_
  by_cases w0 : x.toInt = 0
  · refine g_tabIn 64 d11_count_1 (by omega) (by omega) (by rw [w0]; rfl) rfl ?_
    exfalso
    omega
  by_cases w1 : x.toInt = 1
  · refine g_tabIn 72 d11_count_1 (by omega) (by omega) (by rw [w1]; rfl) rfl ?_
    exfalso
    omega
  by_cases w2 : x.toInt = 2
  · refine g_tabIn 80 d11_count_1 (by omega) (by omega) (by rw [w2]; rfl) rfl ?_
    refine g_aload_n d11_count_80 rfl ?_
    refine g_get fl11_10 d11_count_81 f_0_0 ?_
    refine g_get fl11_172 d11_count_84 f_1_6 ?_
    exact g_iret rfl d11_count_87 (⟨rfl, rfl⟩)
  by_cases w3 : x.toInt = 3
  · refine g_tabIn 88 d11_count_1 (by omega) (by omega) (by rw [w3]; rfl) rfl ?_
    exfalso
    omega
  by_cases w4 : x.toInt = 4
  · refine g_tabIn 96 d11_count_1 (by omega) (by omega) (by rw [w4]; rfl) rfl ?_
    exfalso
    omega
  by_cases w5 : x.toInt = 5
  · refine g_tabIn 104 d11_count_1 (by omega) (by omega) (by rw [w5]; rfl) rfl ?_
    exfalso
    omega
  by_cases w6 : x.toInt = 6
  · refine g_tabIn 120 d11_count_1 (by omega) (by omega) (by rw [w6]; rfl) rfl ?_
    exfalso
    omega
  by_cases w7 : x.toInt = 7
  · refine g_tabIn 120 d11_count_1 (by omega) (by omega) (by rw [w7]; rfl) rfl ?_
    exfalso
    omega
  by_cases w8 : x.toInt = 8
  · refine g_tabIn 120 d11_count_1 (by omega) (by omega) (by rw [w8]; rfl) rfl ?_
    exfalso
    omega
  by_cases w9 : x.toInt = 9
  · refine g_tabIn 120 d11_count_1 (by omega) (by omega) (by rw [w9]; rfl) rfl ?_
    exfalso
    omega
  by_cases w10 : x.toInt = 10
  · refine g_tabIn 120 d11_count_1 (by omega) (by omega) (by rw [w10]; rfl) rfl ?_
    exfalso
    omega
  by_cases w11 : x.toInt = 11
  · refine g_tabIn 112 d11_count_1 (by omega) (by omega) (by rw [w11]; rfl) rfl ?_
    exfalso
    omega
  refine g_tabOut 120 d11_count_1 (by omega) rfl ?_
  exfalso
  omega
set_option maxHeartbeats 200000 in
theorem r11_count_3 {l : Launch} {K : cK} {d : Nat} {I : wI} {L : wL} {R : wR} {dy : cH} (x : Int32) (hx : x.toInt = 3) (hd : 0 ≤ d) : CE l K m11_count d [.ref 0, .int x] (hp I L R dy) (.int (I 1 8)) (hp I L R dy) := by
  refine CC.of ok11_count (Nat.le_of_ble_eq_true rfl) ?_
  refine g_iload_n d11_count_0 rfl ?_
  by_cases w0 : x.toInt = 0
  · refine g_tabIn 64 d11_count_1 (by omega) (by omega) (by rw [w0]; rfl) rfl ?_
    exfalso
    omega
  by_cases w1 : x.toInt = 1
  · refine g_tabIn 72 d11_count_1 (by omega) (by omega) (by rw [w1]; rfl) rfl ?_
    exfalso
    omega
  by_cases w2 : x.toInt = 2
  · refine g_tabIn 80 d11_count_1 (by omega) (by omega) (by rw [w2]; rfl) rfl ?_
    exfalso
    omega
  by_cases w3 : x.toInt = 3
  · refine g_tabIn 88 d11_count_1 (by omega) (by omega) (by rw [w3]; rfl) rfl ?_
    refine g_aload_n d11_count_88 rfl ?_
    refine g_get fl11_10 d11_count_89 f_0_0 ?_
    refine g_get fl11_267 d11_count_92 f_1_8 ?_
    exact g_iret rfl d11_count_95 (⟨rfl, rfl⟩)
  by_cases w4 : x.toInt = 4
  · refine g_tabIn 96 d11_count_1 (by omega) (by omega) (by rw [w4]; rfl) rfl ?_
    exfalso
    omega
  by_cases w5 : x.toInt = 5
  · refine g_tabIn 104 d11_count_1 (by omega) (by omega) (by rw [w5]; rfl) rfl ?_
    exfalso
    omega
  by_cases w6 : x.toInt = 6
  · refine g_tabIn 120 d11_count_1 (by omega) (by omega) (by rw [w6]; rfl) rfl ?_
    exfalso
    omega
  by_cases w7 : x.toInt = 7
  · refine g_tabIn 120 d11_count_1 (by omega) (by omega) (by rw [w7]; rfl) rfl ?_
    exfalso
    omega
  by_cases w8 : x.toInt = 8
  · refine g_tabIn 120 d11_count_1 (by omega) (by omega) (by rw [w8]; rfl) rfl ?_
    exfalso
    omega
  by_cases w9 : x.toInt = 9
  · refine g_tabIn 120 d11_count_1 (by omega) (by omega) (by rw [w9]; rfl) rfl ?_
    exfalso
    omega
  by_cases w10 : x.toInt = 10
  · refine g_tabIn 120 d11_count_1 (by omega) (by omega) (by rw [w10]; rfl) rfl ?_
    exfalso
    omega
  by_cases w11 : x.toInt = 11
  · refine g_tabIn 112 d11_count_1 (by omega) (by omega) (by rw [w11]; rfl) rfl ?_
    exfalso
    omega
  refine g_tabOut 120 d11_count_1 (by omega) rfl ?_
  exfalso
  omega
set_option maxHeartbeats 200000 in
theorem r11_count_4 {l : Launch} {K : cK} {d : Nat} {I : wI} {L : wL} {R : wR} {dy : cH} (x : Int32) (hx : x.toInt = 4) (hd : 0 ≤ d) : CE l K m11_count d [.ref 0, .int x] (hp I L R dy) (.int (I 1 11)) (hp I L R dy) := by
  refine CC.of ok11_count (Nat.le_of_ble_eq_true rfl) ?_
  refine g_iload_n d11_count_0 rfl ?_
  by_cases w0 : x.toInt = 0
  · refine g_tabIn 64 d11_count_1 (by omega) (by omega) (by rw [w0]; rfl) rfl ?_
    exfalso
    omega
  by_cases w1 : x.toInt = 1
  · refine g_tabIn 72 d11_count_1 (by omega) (by omega) (by rw [w1]; rfl) rfl ?_
    exfalso
    omega
  by_cases w2 : x.toInt = 2
  · refine g_tabIn 80 d11_count_1 (by omega) (by omega) (by rw [w2]; rfl) rfl ?_
    exfalso
    omega
  by_cases w3 : x.toInt = 3
  · refine g_tabIn 88 d11_count_1 (by omega) (by omega) (by rw [w3]; rfl) rfl ?_
    exfalso
    omega
  by_cases w4 : x.toInt = 4
  · refine g_tabIn 96 d11_count_1 (by omega) (by omega) (by rw [w4]; rfl) rfl ?_
    refine g_aload_n d11_count_96 rfl ?_
    refine g_get fl11_10 d11_count_97 f_0_0 ?_
    refine g_get fl11_297 d11_count_100 f_1_11 ?_
    exact g_iret rfl d11_count_103 (⟨rfl, rfl⟩)
  by_cases w5 : x.toInt = 5
  · refine g_tabIn 104 d11_count_1 (by omega) (by omega) (by rw [w5]; rfl) rfl ?_
    exfalso
    omega
  by_cases w6 : x.toInt = 6
  · refine g_tabIn 120 d11_count_1 (by omega) (by omega) (by rw [w6]; rfl) rfl ?_
    exfalso
    omega
  by_cases w7 : x.toInt = 7
  · refine g_tabIn 120 d11_count_1 (by omega) (by omega) (by rw [w7]; rfl) rfl ?_
    exfalso
    omega
  by_cases w8 : x.toInt = 8
  · refine g_tabIn 120 d11_count_1 (by omega) (by omega) (by rw [w8]; rfl) rfl ?_
    exfalso
    omega
  by_cases w9 : x.toInt = 9
  · refine g_tabIn 120 d11_count_1 (by omega) (by omega) (by rw [w9]; rfl) rfl ?_
    exfalso
    omega
  by_cases w10 : x.toInt = 10
  · refine g_tabIn 120 d11_count_1 (by omega) (by omega) (by rw [w10]; rfl) rfl ?_
    exfalso
    omega
  by_cases w11 : x.toInt = 11
  · refine g_tabIn 112 d11_count_1 (by omega) (by omega) (by rw [w11]; rfl) rfl ?_
    exfalso
    omega
  refine g_tabOut 120 d11_count_1 (by omega) rfl ?_
  exfalso
  omega
set_option maxHeartbeats 200000 in
theorem r11_count_5 {l : Launch} {K : cK} {d : Nat} {I : wI} {L : wL} {R : wR} {dy : cH} (x : Int32) (hx : x.toInt = 5) (hd : 0 ≤ d) : CE l K m11_count d [.ref 0, .int x] (hp I L R dy) (.int (I 12 1)) (hp I L R dy) := by
  refine CC.of ok11_count (Nat.le_of_ble_eq_true rfl) ?_
  refine g_iload_n d11_count_0 rfl ?_
  by_cases w0 : x.toInt = 0
  · refine g_tabIn 64 d11_count_1 (by omega) (by omega) (by rw [w0]; rfl) rfl ?_
    exfalso
    omega
  by_cases w1 : x.toInt = 1
  · refine g_tabIn 72 d11_count_1 (by omega) (by omega) (by rw [w1]; rfl) rfl ?_
    exfalso
    omega
  by_cases w2 : x.toInt = 2
  · refine g_tabIn 80 d11_count_1 (by omega) (by omega) (by rw [w2]; rfl) rfl ?_
    exfalso
    omega
  by_cases w3 : x.toInt = 3
  · refine g_tabIn 88 d11_count_1 (by omega) (by omega) (by rw [w3]; rfl) rfl ?_
    exfalso
    omega
  by_cases w4 : x.toInt = 4
  · refine g_tabIn 96 d11_count_1 (by omega) (by omega) (by rw [w4]; rfl) rfl ?_
    exfalso
    omega
  by_cases w5 : x.toInt = 5
  · refine g_tabIn 104 d11_count_1 (by omega) (by omega) (by rw [w5]; rfl) rfl ?_
    refine g_aload_n d11_count_104 rfl ?_
    refine g_get fl11_27 d11_count_105 f_0_3 ?_
    refine g_get fl11_145 d11_count_108 f_12_1 ?_
    exact g_iret rfl d11_count_111 (⟨rfl, rfl⟩)
  by_cases w6 : x.toInt = 6
  · refine g_tabIn 120 d11_count_1 (by omega) (by omega) (by rw [w6]; rfl) rfl ?_
    exfalso
    omega
  by_cases w7 : x.toInt = 7
  · refine g_tabIn 120 d11_count_1 (by omega) (by omega) (by rw [w7]; rfl) rfl ?_
    exfalso
    omega
  by_cases w8 : x.toInt = 8
  · refine g_tabIn 120 d11_count_1 (by omega) (by omega) (by rw [w8]; rfl) rfl ?_
    exfalso
    omega
  by_cases w9 : x.toInt = 9
  · refine g_tabIn 120 d11_count_1 (by omega) (by omega) (by rw [w9]; rfl) rfl ?_
    exfalso
    omega
  by_cases w10 : x.toInt = 10
  · refine g_tabIn 120 d11_count_1 (by omega) (by omega) (by rw [w10]; rfl) rfl ?_
    exfalso
    omega
  by_cases w11 : x.toInt = 11
  · refine g_tabIn 112 d11_count_1 (by omega) (by omega) (by rw [w11]; rfl) rfl ?_
    exfalso
    omega
  refine g_tabOut 120 d11_count_1 (by omega) rfl ?_
  exfalso
  omega
set_option maxHeartbeats 200000 in
theorem r11_count_11 {l : Launch} {K : cK} {d : Nat} {I : wI} {L : wL} {R : wR} {dy : cH} (x : Int32) (hx : x.toInt = 11) (hd : 0 ≤ d) : CE l K m11_count d [.ref 0, .int x] (hp I L R dy) (.int (I 1 5)) (hp I L R dy) := by
  refine CC.of ok11_count (Nat.le_of_ble_eq_true rfl) ?_
  refine g_iload_n d11_count_0 rfl ?_
  by_cases w0 : x.toInt = 0
  · refine g_tabIn 64 d11_count_1 (by omega) (by omega) (by rw [w0]; rfl) rfl ?_
    exfalso
    omega
  by_cases w1 : x.toInt = 1
  · refine g_tabIn 72 d11_count_1 (by omega) (by omega) (by rw [w1]; rfl) rfl ?_
    exfalso
    omega
  by_cases w2 : x.toInt = 2
  · refine g_tabIn 80 d11_count_1 (by omega) (by omega) (by rw [w2]; rfl) rfl ?_
    exfalso
    omega
  by_cases w3 : x.toInt = 3
  · refine g_tabIn 88 d11_count_1 (by omega) (by omega) (by rw [w3]; rfl) rfl ?_
    exfalso
    omega
  by_cases w4 : x.toInt = 4
  · refine g_tabIn 96 d11_count_1 (by omega) (by omega) (by rw [w4]; rfl) rfl ?_
    exfalso
    omega
  by_cases w5 : x.toInt = 5
  · refine g_tabIn 104 d11_count_1 (by omega) (by omega) (by rw [w5]; rfl) rfl ?_
    exfalso
    omega
  by_cases w6 : x.toInt = 6
  · refine g_tabIn 120 d11_count_1 (by omega) (by omega) (by rw [w6]; rfl) rfl ?_
    exfalso
    omega
  by_cases w7 : x.toInt = 7
  · refine g_tabIn 120 d11_count_1 (by omega) (by omega) (by rw [w7]; rfl) rfl ?_
    exfalso
    omega
  by_cases w8 : x.toInt = 8
  · refine g_tabIn 120 d11_count_1 (by omega) (by omega) (by rw [w8]; rfl) rfl ?_
    exfalso
    omega
  by_cases w9 : x.toInt = 9
  · refine g_tabIn 120 d11_count_1 (by omega) (by omega) (by rw [w9]; rfl) rfl ?_
    exfalso
    omega
  by_cases w10 : x.toInt = 10
  · refine g_tabIn 120 d11_count_1 (by omega) (by omega) (by rw [w10]; rfl) rfl ?_
    exfalso
    omega
  by_cases w11 : x.toInt = 11
  · refine g_tabIn 112 d11_count_1 (by omega) (by omega) (by rw [w11]; rfl) rfl ?_
    refine g_aload_n d11_count_112 rfl ?_
    refine g_get fl11_10 d11_count_113 f_0_0 ?_
    refine g_get fl11_178 d11_count_116 f_1_5 ?_
    exact g_iret rfl d11_count_119 (⟨rfl, rfl⟩)
  refine g_tabOut 120 d11_count_1 (by omega) rfl ?_
  exfalso
  omega
set_option maxHeartbeats 200000 in
theorem r11_count_r {l : Launch} {K : cK} {d : Nat} {I : wI} {L : wL} {R : wR} {dy : cH} (j : Nat) (hj : j < 5) (hd : 0 ≤ d) : CE l K m11_count d [.ref 0, .int (nI (6 + j))] (hp I L R dy) (.int (I 55 j)) (hp I L R dy) := by
  have hx : (nI (6 + j)).toInt = ((6 + j : Nat) : Int) := nI_ti (by omega)
  refine CC.of ok11_count (Nat.le_of_ble_eq_true rfl) ?_
  refine g_iload_n d11_count_0 rfl ?_
  by_cases w0 : (nI (6 + j)).toInt = 0
  · refine g_tabIn 64 d11_count_1 (by omega) (by omega) (by rw [w0]; rfl) rfl ?_
    exfalso
    omega
  by_cases w1 : (nI (6 + j)).toInt = 1
  · refine g_tabIn 72 d11_count_1 (by omega) (by omega) (by rw [w1]; rfl) rfl ?_
    exfalso
    omega
  by_cases w2 : (nI (6 + j)).toInt = 2
  · refine g_tabIn 80 d11_count_1 (by omega) (by omega) (by rw [w2]; rfl) rfl ?_
    exfalso
    omega
  by_cases w3 : (nI (6 + j)).toInt = 3
  · refine g_tabIn 88 d11_count_1 (by omega) (by omega) (by rw [w3]; rfl) rfl ?_
    exfalso
    omega
  by_cases w4 : (nI (6 + j)).toInt = 4
  · refine g_tabIn 96 d11_count_1 (by omega) (by omega) (by rw [w4]; rfl) rfl ?_
    exfalso
    omega
  by_cases w5 : (nI (6 + j)).toInt = 5
  · refine g_tabIn 104 d11_count_1 (by omega) (by omega) (by rw [w5]; rfl) rfl ?_
    exfalso
    omega
  by_cases w6 : (nI (6 + j)).toInt = 6
  · refine g_tabIn 120 d11_count_1 (by omega) (by omega) (by rw [w6]; rfl) rfl ?_
    refine g_iload_n d11_count_120 rfl ?_
    refine g_bipushv (nI 6) d11_count_121 rfl ?_
    refine g_ic_lt (((6 + j) : Nat) : Int) (6) 142 (nI_ti (by omega)) (by decide) d11_count_123 rfl (fun c123 => absurd c123 (by omega)) (fun _ => ?_)
    refine g_iload_n d11_count_126 rfl ?_
    refine g_bipushv (nI 10) d11_count_127 rfl ?_
    refine g_ic_gt (((6 + j) : Nat) : Int) (10) 142 (nI_ti (by omega)) (by decide) d11_count_129 rfl (fun c129 => absurd c129 (by omega)) (fun _ => ?_)
    refine g_aload_n d11_count_132 rfl ?_
    refine g_get fl11_97 d11_count_133 f_0_13 ?_
    refine g_iload_n d11_count_136 rfl ?_
    refine g_bipushv (nI 6) d11_count_137 rfl ?_
    refine g_isubN (by omega) d11_count_139 ?_
    refine g_ialdN (j) d11_count_140 a_55 (by congr 1; omega) (by omega) (by decide) ?_
    exact g_iret rfl d11_count_141 (⟨rfl, rfl⟩)
  by_cases w7 : (nI (6 + j)).toInt = 7
  · refine g_tabIn 120 d11_count_1 (by omega) (by omega) (by rw [w7]; rfl) rfl ?_
    refine g_iload_n d11_count_120 rfl ?_
    refine g_bipushv (nI 6) d11_count_121 rfl ?_
    refine g_ic_lt (((6 + j) : Nat) : Int) (6) 142 (nI_ti (by omega)) (by decide) d11_count_123 rfl (fun c123 => absurd c123 (by omega)) (fun _ => ?_)
    refine g_iload_n d11_count_126 rfl ?_
    refine g_bipushv (nI 10) d11_count_127 rfl ?_
    refine g_ic_gt (((6 + j) : Nat) : Int) (10) 142 (nI_ti (by omega)) (by decide) d11_count_129 rfl (fun c129 => absurd c129 (by omega)) (fun _ => ?_)
    refine g_aload_n d11_count_132 rfl ?_
    refine g_get fl11_97 d11_count_133 f_0_13 ?_
    refine g_iload_n d11_count_136 rfl ?_
    refine g_bipushv (nI 6) d11_count_137 rfl ?_
    refine g_isubN (by omega) d11_count_139 ?_
    refine g_ialdN (j) d11_count_140 a_55 (by congr 1; omega) (by omega) (by decide) ?_
    exact g_iret rfl d11_count_141 (⟨rfl, rfl⟩)
  by_cases w8 : (nI (6 + j)).toInt = 8
  · refine g_tabIn 120 d11_count_1 (by omega) (by omega) (by rw [w8]; rfl) rfl ?_
    refine g_iload_n d11_count_120 rfl ?_
    refine g_bipushv (nI 6) d11_count_121 rfl ?_
    refine g_ic_lt (((6 + j) : Nat) : Int) (6) 142 (nI_ti (by omega)) (by decide) d11_count_123 rfl (fun c123 => absurd c123 (by omega)) (fun _ => ?_)
    refine g_iload_n d11_count_126 rfl ?_
    refine g_bipushv (nI 10) d11_count_127 rfl ?_
    refine g_ic_gt (((6 + j) : Nat) : Int) (10) 142 (nI_ti (by omega)) (by decide) d11_count_129 rfl (fun c129 => absurd c129 (by omega)) (fun _ => ?_)
    refine g_aload_n d11_count_132 rfl ?_
    refine g_get fl11_97 d11_count_133 f_0_13 ?_
    refine g_iload_n d11_count_136 rfl ?_
    refine g_bipushv (nI 6) d11_count_137 rfl ?_
    refine g_isubN (by omega) d11_count_139 ?_
    refine g_ialdN (j) d11_count_140 a_55 (by congr 1; omega) (by omega) (by decide) ?_
    exact g_iret rfl d11_count_141 (⟨rfl, rfl⟩)
  by_cases w9 : (nI (6 + j)).toInt = 9
  · refine g_tabIn 120 d11_count_1 (by omega) (by omega) (by rw [w9]; rfl) rfl ?_
    refine g_iload_n d11_count_120 rfl ?_
    refine g_bipushv (nI 6) d11_count_121 rfl ?_
    refine g_ic_lt (((6 + j) : Nat) : Int) (6) 142 (nI_ti (by omega)) (by decide) d11_count_123 rfl (fun c123 => absurd c123 (by omega)) (fun _ => ?_)
    refine g_iload_n d11_count_126 rfl ?_
    refine g_bipushv (nI 10) d11_count_127 rfl ?_
    refine g_ic_gt (((6 + j) : Nat) : Int) (10) 142 (nI_ti (by omega)) (by decide) d11_count_129 rfl (fun c129 => absurd c129 (by omega)) (fun _ => ?_)
    refine g_aload_n d11_count_132 rfl ?_
    refine g_get fl11_97 d11_count_133 f_0_13 ?_
    refine g_iload_n d11_count_136 rfl ?_
    refine g_bipushv (nI 6) d11_count_137 rfl ?_
    refine g_isubN (by omega) d11_count_139 ?_
    refine g_ialdN (j) d11_count_140 a_55 (by congr 1; omega) (by omega) (by decide) ?_
    exact g_iret rfl d11_count_141 (⟨rfl, rfl⟩)
  by_cases w10 : (nI (6 + j)).toInt = 10
  · refine g_tabIn 120 d11_count_1 (by omega) (by omega) (by rw [w10]; rfl) rfl ?_
    refine g_iload_n d11_count_120 rfl ?_
    refine g_bipushv (nI 6) d11_count_121 rfl ?_
    refine g_ic_lt (((6 + j) : Nat) : Int) (6) 142 (nI_ti (by omega)) (by decide) d11_count_123 rfl (fun c123 => absurd c123 (by omega)) (fun _ => ?_)
    refine g_iload_n d11_count_126 rfl ?_
    refine g_bipushv (nI 10) d11_count_127 rfl ?_
    refine g_ic_gt (((6 + j) : Nat) : Int) (10) 142 (nI_ti (by omega)) (by decide) d11_count_129 rfl (fun c129 => absurd c129 (by omega)) (fun _ => ?_)
    refine g_aload_n d11_count_132 rfl ?_
    refine g_get fl11_97 d11_count_133 f_0_13 ?_
    refine g_iload_n d11_count_136 rfl ?_
    refine g_bipushv (nI 6) d11_count_137 rfl ?_
    refine g_isubN (by omega) d11_count_139 ?_
    refine g_ialdN (j) d11_count_140 a_55 (by congr 1; omega) (by omega) (by decide) ?_
    exact g_iret rfl d11_count_141 (⟨rfl, rfl⟩)
  by_cases w11 : (nI (6 + j)).toInt = 11
  · refine g_tabIn 112 d11_count_1 (by omega) (by omega) (by rw [w11]; rfl) rfl ?_
    exfalso
    omega
  refine g_tabOut 120 d11_count_1 (by omega) rfl ?_
  refine g_iload_n d11_count_120 rfl ?_
  refine g_bipushv (nI 6) d11_count_121 rfl ?_
  refine g_ic_lt (((6 + j) : Nat) : Int) (6) 142 (nI_ti (by omega)) (by decide) d11_count_123 rfl (fun c123 => absurd c123 (by omega)) (fun _ => ?_)
  refine g_iload_n d11_count_126 rfl ?_
  refine g_bipushv (nI 10) d11_count_127 rfl ?_
  refine g_ic_gt (((6 + j) : Nat) : Int) (10) 142 (nI_ti (by omega)) (by decide) d11_count_129 rfl (fun c129 => absurd c129 (by omega)) (fun _ => ?_)
  refine g_aload_n d11_count_132 rfl ?_
  refine g_get fl11_97 d11_count_133 f_0_13 ?_
  refine g_iload_n d11_count_136 rfl ?_
  refine g_bipushv (nI 6) d11_count_137 rfl ?_
  refine g_isubN (by omega) d11_count_139 ?_
  refine g_ialdN (j) d11_count_140 a_55 (by congr 1; omega) (by omega) (by decide) ?_
  exact g_iret rfl d11_count_141 (⟨rfl, rfl⟩)
set_option maxHeartbeats 200000 in
theorem r11_count_t {l : Launch} {K : cK} {d : Nat} {I : wI} {L : wL} {R : wR} {dy : cH} (j : Nat) (hj : j < 8) (hd : 0 ≤ d) : CE l K m11_count d [.ref 0, .int (nI (12 + j))] (hp I L R dy) (.int (I 3 j)) (hp I L R dy) := by
  have hx : (nI (12 + j)).toInt = ((12 + j : Nat) : Int) := nI_ti (by omega)
  refine CC.of ok11_count (Nat.le_of_ble_eq_true rfl) ?_
  refine g_iload_n d11_count_0 rfl ?_
  by_cases w0 : (nI (12 + j)).toInt = 0
  · refine g_tabIn 64 d11_count_1 (by omega) (by omega) (by rw [w0]; rfl) rfl ?_
    exfalso
    omega
  by_cases w1 : (nI (12 + j)).toInt = 1
  · refine g_tabIn 72 d11_count_1 (by omega) (by omega) (by rw [w1]; rfl) rfl ?_
    exfalso
    omega
  by_cases w2 : (nI (12 + j)).toInt = 2
  · refine g_tabIn 80 d11_count_1 (by omega) (by omega) (by rw [w2]; rfl) rfl ?_
    exfalso
    omega
  by_cases w3 : (nI (12 + j)).toInt = 3
  · refine g_tabIn 88 d11_count_1 (by omega) (by omega) (by rw [w3]; rfl) rfl ?_
    exfalso
    omega
  by_cases w4 : (nI (12 + j)).toInt = 4
  · refine g_tabIn 96 d11_count_1 (by omega) (by omega) (by rw [w4]; rfl) rfl ?_
    exfalso
    omega
  by_cases w5 : (nI (12 + j)).toInt = 5
  · refine g_tabIn 104 d11_count_1 (by omega) (by omega) (by rw [w5]; rfl) rfl ?_
    exfalso
    omega
  by_cases w6 : (nI (12 + j)).toInt = 6
  · refine g_tabIn 120 d11_count_1 (by omega) (by omega) (by rw [w6]; rfl) rfl ?_
    exfalso
    omega
  by_cases w7 : (nI (12 + j)).toInt = 7
  · refine g_tabIn 120 d11_count_1 (by omega) (by omega) (by rw [w7]; rfl) rfl ?_
    exfalso
    omega
  by_cases w8 : (nI (12 + j)).toInt = 8
  · refine g_tabIn 120 d11_count_1 (by omega) (by omega) (by rw [w8]; rfl) rfl ?_
    exfalso
    omega
  by_cases w9 : (nI (12 + j)).toInt = 9
  · refine g_tabIn 120 d11_count_1 (by omega) (by omega) (by rw [w9]; rfl) rfl ?_
    exfalso
    omega
  by_cases w10 : (nI (12 + j)).toInt = 10
  · refine g_tabIn 120 d11_count_1 (by omega) (by omega) (by rw [w10]; rfl) rfl ?_
    exfalso
    omega
  by_cases w11 : (nI (12 + j)).toInt = 11
  · refine g_tabIn 112 d11_count_1 (by omega) (by omega) (by rw [w11]; rfl) rfl ?_
    exfalso
    omega
  refine g_tabOut 120 d11_count_1 (by omega) rfl ?_
  refine g_iload_n d11_count_120 rfl ?_
  refine g_bipushv (nI 6) d11_count_121 rfl ?_
  refine g_ic_lt (((12 + j) : Nat) : Int) (6) 142 (nI_ti (by omega)) (by decide) d11_count_123 rfl (fun c123 => absurd c123 (by omega)) (fun _ => ?_)
  refine g_iload_n d11_count_126 rfl ?_
  refine g_bipushv (nI 10) d11_count_127 rfl ?_
  refine g_ic_gt (((12 + j) : Nat) : Int) (10) 142 (nI_ti (by omega)) (by decide) d11_count_129 rfl (fun _ => ?_) (fun c129 => absurd c129 (by omega))
  refine g_iload_n d11_count_142 rfl ?_
  refine g_bipushv (nI 12) d11_count_143 rfl ?_
  refine g_ic_lt (((12 + j) : Nat) : Int) (12) 169 (nI_ti (by omega)) (by decide) d11_count_145 rfl (fun c145 => absurd c145 (by omega)) (fun _ => ?_)
  refine g_iload_n d11_count_148 rfl ?_
  refine g_bipushv (nI 20) d11_count_149 rfl ?_
  refine g_ic_ge (((12 + j) : Nat) : Int) (20) 169 (nI_ti (by omega)) (by decide) d11_count_151 rfl (fun c151 => absurd c151 (by omega)) (fun _ => ?_)
  refine g_aload_n d11_count_154 rfl ?_
  refine g_get fl11_10 d11_count_155 f_0_0 ?_
  refine g_get fl11_142 d11_count_158 f_1_2 ?_
  refine g_iload_n d11_count_161 rfl ?_
  refine g_bipushv (nI 12) d11_count_162 rfl ?_
  refine g_isubN (by omega) d11_count_164 ?_
  refine g_ialdN (j) d11_count_165 a_3 (by congr 1; omega) (by omega) (by decide) ?_
  refine g_goto 170 d11_count_166 rfl ?_
  exact g_iret rfl d11_count_170 (⟨rfl, rfl⟩)
set_option maxHeartbeats 200000 in
theorem r11_count_no {l : Launch} {K : cK} {d : Nat} {I : wI} {L : wL} {R : wR} {dy : cH} (x : Int32) (hx : x.toInt < 0 ∨ 19 < x.toInt) (hd : 0 ≤ d) : CE l K m11_count d [.ref 0, .int x] (hp I L R dy) (.int (-1)) (hp I L R dy) := by
  refine CC.of ok11_count (Nat.le_of_ble_eq_true rfl) ?_
  refine g_iload_n d11_count_0 rfl ?_
  by_cases w0 : x.toInt = 0
  · refine g_tabIn 64 d11_count_1 (by omega) (by omega) (by rw [w0]; rfl) rfl ?_
    exfalso
    omega
  by_cases w1 : x.toInt = 1
  · refine g_tabIn 72 d11_count_1 (by omega) (by omega) (by rw [w1]; rfl) rfl ?_
    exfalso
    omega
  by_cases w2 : x.toInt = 2
  · refine g_tabIn 80 d11_count_1 (by omega) (by omega) (by rw [w2]; rfl) rfl ?_
    exfalso
    omega
  by_cases w3 : x.toInt = 3
  · refine g_tabIn 88 d11_count_1 (by omega) (by omega) (by rw [w3]; rfl) rfl ?_
    exfalso
    omega
  by_cases w4 : x.toInt = 4
  · refine g_tabIn 96 d11_count_1 (by omega) (by omega) (by rw [w4]; rfl) rfl ?_
    exfalso
    omega
  by_cases w5 : x.toInt = 5
  · refine g_tabIn 104 d11_count_1 (by omega) (by omega) (by rw [w5]; rfl) rfl ?_
    exfalso
    omega
  by_cases w6 : x.toInt = 6
  · refine g_tabIn 120 d11_count_1 (by omega) (by omega) (by rw [w6]; rfl) rfl ?_
    exfalso
    omega
  by_cases w7 : x.toInt = 7
  · refine g_tabIn 120 d11_count_1 (by omega) (by omega) (by rw [w7]; rfl) rfl ?_
    exfalso
    omega
  by_cases w8 : x.toInt = 8
  · refine g_tabIn 120 d11_count_1 (by omega) (by omega) (by rw [w8]; rfl) rfl ?_
    exfalso
    omega
  by_cases w9 : x.toInt = 9
  · refine g_tabIn 120 d11_count_1 (by omega) (by omega) (by rw [w9]; rfl) rfl ?_
    exfalso
    omega
  by_cases w10 : x.toInt = 10
  · refine g_tabIn 120 d11_count_1 (by omega) (by omega) (by rw [w10]; rfl) rfl ?_
    exfalso
    omega
  by_cases w11 : x.toInt = 11
  · refine g_tabIn 112 d11_count_1 (by omega) (by omega) (by rw [w11]; rfl) rfl ?_
    exfalso
    omega
  refine g_tabOut 120 d11_count_1 (by omega) rfl ?_
  refine g_iload_n d11_count_120 rfl ?_
  refine g_bipushv (nI 6) d11_count_121 rfl ?_
  refine g_ic_lt _ (6) 142 (rfl) (by decide) d11_count_123 rfl (fun c123 => ?_) (fun c123 => ?_)
  · refine g_iload_n d11_count_142 rfl ?_
    refine g_bipushv (nI 12) d11_count_143 rfl ?_
    refine g_ic_lt _ (12) 169 (rfl) (by decide) d11_count_145 rfl (fun c145 => ?_) (fun c145 => ?_)
    · refine g_iconstv ((-1 : Int32)) d11_count_169 rfl ?_
      exact g_iret rfl d11_count_170 (⟨rfl, rfl⟩)
    · refine g_iload_n d11_count_148 rfl ?_
      refine g_bipushv (nI 20) d11_count_149 rfl ?_
      refine g_ic_ge _ (20) 169 (rfl) (by decide) d11_count_151 rfl (fun c151 => ?_) (fun c151 => ?_)
      · refine g_iconstv ((-1 : Int32)) d11_count_169 rfl ?_
        exact g_iret rfl d11_count_170 (⟨rfl, rfl⟩)
      · exfalso
        omega
  · refine g_iload_n d11_count_126 rfl ?_
    refine g_bipushv (nI 10) d11_count_127 rfl ?_
    refine g_ic_gt _ (10) 142 (rfl) (by decide) d11_count_129 rfl (fun c129 => ?_) (fun c129 => ?_)
    · refine g_iload_n d11_count_142 rfl ?_
      refine g_bipushv (nI 12) d11_count_143 rfl ?_
      refine g_ic_lt _ (12) 169 (rfl) (by decide) d11_count_145 rfl (fun c145 => ?_) (fun c145 => ?_)
      · refine g_iconstv ((-1 : Int32)) d11_count_169 rfl ?_
        exact g_iret rfl d11_count_170 (⟨rfl, rfl⟩)
      · refine g_iload_n d11_count_148 rfl ?_
        refine g_bipushv (nI 20) d11_count_149 rfl ?_
        refine g_ic_ge _ (20) 169 (rfl) (by decide) d11_count_151 rfl (fun c151 => ?_) (fun c151 => ?_)
        · refine g_iconstv ((-1 : Int32)) d11_count_169 rfl ?_
          exact g_iret rfl d11_count_170 (⟨rfl, rfl⟩)
        · exfalso
          omega
    · exfalso
      omega
set_option maxHeartbeats 200000 in
theorem r11_force_no {l : Launch} {K : cK} {d : Nat} {I : wI} {L : wL} {R : wR} {dy : cH} (x : Int32) (n : Nat) (hn : I 1 3 = nI n) (hn6 : n ≤ 6) (hx : ¬ (x.toInt = -1 ∨ 0 ≤ x.toInt ∧ x.toInt < n)) (hd : 1 ≤ d) : CE l K m11_force d [.ref 0, .int x] (hp I L R dy) (.int (-2)) (hp (uI (uI (I) 55 1 (I 55 1 + 1)) 0 14 (-2)) L R dy) := by
  refine CC.of ok11_force (Nat.le_of_ble_eq_true rfl) ?_
  refine g_iload_n d11_force_0 rfl ?_
  refine g_iconstv ((-1 : Int32)) d11_force_1 rfl ?_
  refine g_ic_eq _ (-1) 23 (rfl) (by decide) d11_force_2 rfl (fun c2 => absurd c2 (by omega)) (fun _ => ?_)
  refine g_aload_n d11_force_5 rfl ?_
  refine g_get fl11_10 d11_force_6 f_0_0 ?_
  refine g_iload_n d11_force_9 rfl ?_
  refine g_EV1 vm6_hasLaw ml11_175 c_1 (r6_hasLawI  n (by exact hn) hn6 (rfl) (Nat.le_refl 0)) (by omega) (Nat.le_of_ble_eq_true rfl) d11_force_10 ?_
  refine g_bnz 23 d11_force_13 rfl (fun c13 => absurd c13 (by omega)) (fun _ => ?_)
  refine g_aload_n d11_force_16 rfl ?_
  refine g_bipushv ((-2 : Int32)) d11_force_17 rfl ?_
  refine g_EV1 vm11_refuse ml11_108 c_0 (r11_refuse_2 (Nat.le_refl 0)) (by omega) (Nat.le_of_ble_eq_true rfl) d11_force_19 ?_
  exact g_iret rfl d11_force_22 (⟨rfl, rfl⟩)
set_option maxHeartbeats 200000 in
theorem r11_force_ok {l : Launch} {K : cK} {d : Nat} {I : wI} {L : wL} {R : wR} {dy : cH} (x : Int32) (n : Nat) (hn : I 1 3 = nI n) (hn6 : n ≤ 6) (hx : x.toInt = -1 ∨ 0 ≤ x.toInt ∧ x.toInt < n) (hd : 1 ≤ d) : CE l K m11_force d [.ref 0, .int x] (hp I L R dy) (.int (I 1 5)) (hp (uI (uI I 1 5 x) 0 14 0) L R dy) := by
  refine CC.of ok11_force (Nat.le_of_ble_eq_true rfl) ?_
  refine g_iload_n d11_force_0 rfl ?_
  refine g_iconstv ((-1 : Int32)) d11_force_1 rfl ?_
  refine g_ic_eq _ (-1) 23 (rfl) (by decide) d11_force_2 rfl (fun c2 => ?_) (fun c2 => ?_)
  · refine g_aload_n d11_force_23 rfl ?_
    refine g_get fl11_10 d11_force_24 f_0_0 ?_
    refine g_get fl11_178 d11_force_27 f_1_5 ?_
    refine g_istore_n d11_force_30 (by decide) ?_
    refine g_aload_n d11_force_31 rfl ?_
    refine g_get fl11_10 d11_force_32 f_0_0 ?_
    refine g_iload_n d11_force_35 rfl ?_
    refine g_putIh _ fl11_178 d11_force_36 f_1_5 s_1_5 ?_
    refine g_aload_n d11_force_39 rfl ?_
    refine g_iload_n d11_force_40 rfl ?_
    refine g_EV1 vm11_allow ml11_119 c_0 (r11_allow (Nat.le_refl 0)) (by omega) (Nat.le_of_ble_eq_true rfl) d11_force_41 ?_
    exact g_iret rfl d11_force_44 (⟨rfl, rfl⟩)
  · refine g_aload_n d11_force_5 rfl ?_
    refine g_get fl11_10 d11_force_6 f_0_0 ?_
    refine g_iload_n d11_force_9 rfl ?_
    refine g_EV1 vm6_hasLaw ml11_175 c_1 (r6_hasLawI  n (by exact hn) hn6 (rfl) (Nat.le_refl 0)) (by omega) (Nat.le_of_ble_eq_true rfl) d11_force_10 ?_
    refine g_bnz 23 d11_force_13 rfl (fun c13 => ?_) (fun c13 => ?_)
    · refine g_aload_n d11_force_23 rfl ?_
      refine g_get fl11_10 d11_force_24 f_0_0 ?_
      refine g_get fl11_178 d11_force_27 f_1_5 ?_
      refine g_istore_n d11_force_30 (by decide) ?_
      refine g_aload_n d11_force_31 rfl ?_
      refine g_get fl11_10 d11_force_32 f_0_0 ?_
      refine g_iload_n d11_force_35 rfl ?_
      refine g_putIh _ fl11_178 d11_force_36 f_1_5 s_1_5 ?_
      refine g_aload_n d11_force_39 rfl ?_
      refine g_iload_n d11_force_40 rfl ?_
      refine g_EV1 vm11_allow ml11_119 c_0 (r11_allow (Nat.le_refl 0)) (by omega) (Nat.le_of_ble_eq_true rfl) d11_force_41 ?_
      exact g_iret rfl d11_force_44 (⟨rfl, rfl⟩)
    · exfalso
      omega
set_option maxHeartbeats 200000 in
theorem r11_place_no {l : Launch} {K : cK} {d : Nat} {I : wI} {L : wL} {R : wR} {dy : cH} (a b : Int32) (hbad : ¬ (0 ≤ a.toInt ∧ a.toInt < b.toInt ∧ b.toInt ≤ 99)) (hd : 1 ≤ d) : CE l K m11_place d [.ref 0, .int a, .int b] (hp I L R dy) (.int (-1)) (hp (uI (uI (I) 55 0 (I 55 0 + 1)) 0 14 (-1)) L R dy) := by
  refine CC.of ok11_place (Nat.le_of_ble_eq_true rfl) ?_
  refine g_iload_n d11_place_0 rfl ?_
  refine g_iz_lt _ 15 (rfl) d11_place_1 rfl (fun c1 => ?_) (fun c1 => ?_)
  · refine g_aload_n d11_place_15 rfl ?_
    refine g_iconstv ((-1 : Int32)) d11_place_16 rfl ?_
    refine g_EV1 vm11_refuse ml11_108 c_0 (r11_refuse_1 (Nat.le_refl 0)) (by omega) (Nat.le_of_ble_eq_true rfl) d11_place_17 ?_
    exact g_iret rfl d11_place_20 (⟨rfl, rfl⟩)
  · refine g_iload_n d11_place_4 rfl ?_
    refine g_iload_n d11_place_5 rfl ?_
    refine g_ic_le _ _ 15 (rfl) (rfl) d11_place_6 rfl (fun c6 => ?_) (fun c6 => ?_)
    · refine g_aload_n d11_place_15 rfl ?_
      refine g_iconstv ((-1 : Int32)) d11_place_16 rfl ?_
      refine g_EV1 vm11_refuse ml11_108 c_0 (r11_refuse_1 (Nat.le_refl 0)) (by omega) (Nat.le_of_ble_eq_true rfl) d11_place_17 ?_
      exact g_iret rfl d11_place_20 (⟨rfl, rfl⟩)
    · refine g_iload_n d11_place_9 rfl ?_
      refine g_bipushv (nI 99) d11_place_10 rfl ?_
      refine g_ic_le _ (99) 21 (rfl) (by decide) d11_place_12 rfl (fun c12 => ?_) (fun c12 => ?_)
      · exfalso
        omega
      · refine g_aload_n d11_place_15 rfl ?_
        refine g_iconstv ((-1 : Int32)) d11_place_16 rfl ?_
        refine g_EV1 vm11_refuse ml11_108 c_0 (r11_refuse_1 (Nat.le_refl 0)) (by omega) (Nat.le_of_ble_eq_true rfl) d11_place_17 ?_
        exact g_iret rfl d11_place_20 (⟨rfl, rfl⟩)
set_option maxHeartbeats 200000 in
theorem r11_place_full {l : Launch} {K : cK} {d : Nat} {I : wI} {L : wL} {R : wR} {dy : cH} (a b : Int32) (hok : 0 ≤ a.toInt ∧ a.toInt < b.toInt ∧ b.toInt ≤ 99) (hn : I 1 8 = nI 6) (hd : 1 ≤ d) : CE l K m11_place d [.ref 0, .int a, .int b] (hp I L R dy) (.int (-5)) (hp (uI (uI (I) 55 3 (I 55 3 + 1)) 0 14 (-5)) L R dy) := by
  refine CC.of ok11_place (Nat.le_of_ble_eq_true rfl) ?_
  refine g_iload_n d11_place_0 rfl ?_
  refine g_iz_lt _ 15 (rfl) d11_place_1 rfl (fun c1 => absurd c1 (by omega)) (fun _ => ?_)
  refine g_iload_n d11_place_4 rfl ?_
  refine g_iload_n d11_place_5 rfl ?_
  refine g_ic_le _ _ 15 (rfl) (rfl) d11_place_6 rfl (fun c6 => absurd c6 (by omega)) (fun _ => ?_)
  refine g_iload_n d11_place_9 rfl ?_
  refine g_bipushv (nI 99) d11_place_10 rfl ?_
  refine g_ic_le _ (99) 21 (rfl) (by decide) d11_place_12 rfl (fun _ => ?_) (fun c12 => absurd c12 (by omega))
  refine g_aload_n d11_place_21 rfl ?_
  refine g_get fl11_10 d11_place_22 f_0_0 ?_
  refine g_get fl11_267 d11_place_25 f_1_8 ?_
  refine g_topI (nI 6) (hn) ?_
  refine g_bipushv (nI 6) d11_place_28 rfl ?_
  refine g_ic_lt ((6 : Nat) : Int) (6) 40 (nI_ti (by omega)) (by decide) d11_place_30 rfl (fun c30 => absurd c30 (by decide)) (fun _ => ?_)
  refine g_aload_n d11_place_33 rfl ?_
  refine g_bipushv ((-5 : Int32)) d11_place_34 rfl ?_
  refine g_EV1 vm11_refuse ml11_108 c_0 (r11_refuse_5 (Nat.le_refl 0)) (by omega) (Nat.le_of_ble_eq_true rfl) d11_place_36 ?_
  exact g_iret rfl d11_place_39 (⟨rfl, rfl⟩)
set_option maxHeartbeats 200000 in
theorem r11_place_ok {l : Launch} {K : cK} {d : Nat} {I : wI} {L : wL} {R : wR} {dy : cH} (a b : Int32) (hok : 0 ≤ a.toInt ∧ a.toInt < b.toInt ∧ b.toInt ≤ 99) (n : Nat) (hn : I 1 8 = nI n) (hn6 : n < 6) (hd : 1 ≤ d) : CE l K m11_place d [.ref 0, .int a, .int b] (hp I L R dy) (.int (nI n)) (hp (uI (uI (uI (uI I 6 n a) 7 n b) 1 8 (nI (n + 1))) 0 14 0) L R dy) := by
  refine CC.of ok11_place (Nat.le_of_ble_eq_true rfl) ?_
  refine g_iload_n d11_place_0 rfl ?_
  refine g_iz_lt _ 15 (rfl) d11_place_1 rfl (fun c1 => absurd c1 (by omega)) (fun _ => ?_)
  refine g_iload_n d11_place_4 rfl ?_
  refine g_iload_n d11_place_5 rfl ?_
  refine g_ic_le _ _ 15 (rfl) (rfl) d11_place_6 rfl (fun c6 => absurd c6 (by omega)) (fun _ => ?_)
  refine g_iload_n d11_place_9 rfl ?_
  refine g_bipushv (nI 99) d11_place_10 rfl ?_
  refine g_ic_le _ (99) 21 (rfl) (by decide) d11_place_12 rfl (fun _ => ?_) (fun c12 => absurd c12 (by omega))
  refine g_aload_n d11_place_21 rfl ?_
  refine g_get fl11_10 d11_place_22 f_0_0 ?_
  refine g_get fl11_267 d11_place_25 f_1_8 ?_
  refine g_topI (nI n) (hn) ?_
  refine g_bipushv (nI 6) d11_place_28 rfl ?_
  refine g_ic_lt ((n : Nat) : Int) (6) 40 (nI_ti (by omega)) (by decide) d11_place_30 rfl (fun _ => ?_) (fun c30 => absurd c30 (by omega))
  refine g_aload_n d11_place_40 rfl ?_
  refine g_get fl11_10 d11_place_41 f_0_0 ?_
  refine g_get fl11_270 d11_place_44 f_1_9 ?_
  refine g_aload_n d11_place_47 rfl ?_
  refine g_get fl11_10 d11_place_48 f_0_0 ?_
  refine g_get fl11_267 d11_place_51 f_1_8 ?_
  refine g_topI (nI n) (hn) ?_
  refine g_iload_n d11_place_54 rfl ?_
  refine g_iastN (n) _ d11_place_55 a_6 (rfl) (by omega) (by decide) t_6 ?_
  refine g_aload_n d11_place_56 rfl ?_
  refine g_get fl11_10 d11_place_57 f_0_0 ?_
  refine g_get fl11_273 d11_place_60 f_1_10 ?_
  refine g_aload_n d11_place_63 rfl ?_
  refine g_get fl11_10 d11_place_64 f_0_0 ?_
  refine g_get fl11_267 d11_place_67 f_1_8 ?_
  refine g_topI (nI n) (hn) ?_
  refine g_iload_n d11_place_70 rfl ?_
  refine g_iastN (n) _ d11_place_71 a_7 (rfl) (by omega) (by decide) t_7 ?_
  refine g_aload_n d11_place_72 rfl ?_
  refine g_get fl11_10 d11_place_73 f_0_0 ?_
  refine g_dup d11_place_76 rfl ?_
  refine g_get fl11_267 d11_place_77 f_1_8 ?_
  refine g_topI (nI n) (hn) ?_
  refine g_iconstv (nI 1) d11_place_80 rfl ?_
  refine g_iaddN d11_place_81 ?_
  refine g_putIh _ fl11_267 d11_place_82 f_1_8 s_1_8 ?_
  refine g_aload_n d11_place_85 rfl ?_
  refine g_aload_n d11_place_86 rfl ?_
  refine g_get fl11_10 d11_place_87 f_0_0 ?_
  refine g_get fl11_267 d11_place_90 f_1_8 ?_
  refine g_topI (nI (n + 1)) (rfl) ?_
  refine g_iconstv (nI 1) d11_place_93 rfl ?_
  refine g_isubN (by omega) d11_place_94 ?_
  refine g_topI (nI n) (by rw [Nat.add_sub_cancel]) ?_
  refine g_EV1 vm11_allow ml11_119 c_0 (r11_allow (Nat.le_refl 0)) (by omega) (Nat.le_of_ble_eq_true rfl) d11_place_95 ?_
  exact g_iret rfl d11_place_98 (⟨rfl, rfl⟩)
set_option maxHeartbeats 200000 in
theorem r11_undo_no {l : Launch} {K : cK} {d : Nat} {I : wI} {L : wL} {R : wR} {dy : cH} (hn : I 1 11 = nI 0) (hd : 1 ≤ d) : CE l K m11_undo d [.ref 0] (hp I L R dy) (.int (-3)) (hp (uI (uI (I) 55 2 (I 55 2 + 1)) 0 14 (-3)) L R dy) := by
  refine CC.of ok11_undo (Nat.le_of_ble_eq_true rfl) ?_
  refine g_aload_n d11_undo_0 rfl ?_
  refine g_get fl11_10 d11_undo_1 f_0_0 ?_
  refine g_get fl11_297 d11_undo_4 f_1_11 ?_
  refine g_topI (nI 0) (hn) ?_
  refine g_iz_ne ((0 : Nat) : Int) 17 (nI_ti (by omega)) d11_undo_7 rfl (fun c7 => absurd c7 (by decide)) (fun _ => ?_)
  refine g_aload_n d11_undo_10 rfl ?_
  refine g_bipushv ((-3 : Int32)) d11_undo_11 rfl ?_
  refine g_EV1 vm11_refuse ml11_108 c_0 (r11_refuse_3 (Nat.le_refl 0)) (by omega) (Nat.le_of_ble_eq_true rfl) d11_undo_13 ?_
  exact g_iret rfl d11_undo_16 (⟨rfl, rfl⟩)
set_option maxHeartbeats 200000 in
theorem r11_undo_ok {l : Launch} {K : cK} {d : Nat} {I : wI} {L : wL} {R : wR} {dy : cH} (n : Nat) (hn : I 1 11 = nI (n + 1)) (hn12 : n < 12) (hd : 1 ≤ d) : CE l K m11_undo d [.ref 0] (hp I L R dy) (.int (I 8 n)) (hp (uI (uI I 1 11 (nI n)) 0 14 0) L R dy) := by
  refine CC.of ok11_undo (Nat.le_of_ble_eq_true rfl) ?_
  refine g_aload_n d11_undo_0 rfl ?_
  refine g_get fl11_10 d11_undo_1 f_0_0 ?_
  refine g_get fl11_297 d11_undo_4 f_1_11 ?_
  refine g_topI (nI (n + 1)) (hn) ?_
  refine g_iz_ne (((n + 1) : Nat) : Int) 17 (nI_ti (by omega)) d11_undo_7 rfl (fun _ => ?_) (fun c7 => absurd c7 (by omega))
  refine g_aload_n d11_undo_17 rfl ?_
  refine g_get fl11_10 d11_undo_18 f_0_0 ?_
  refine g_dup d11_undo_21 rfl ?_
  refine g_get fl11_297 d11_undo_22 f_1_11 ?_
  refine g_topI (nI (n + 1)) (hn) ?_
  refine g_iconstv (nI 1) d11_undo_25 rfl ?_
  refine g_isubN (by omega) d11_undo_26 ?_
  refine g_topI (nI n) (by rw [Nat.add_sub_cancel]) ?_
  refine g_putIh _ fl11_297 d11_undo_27 f_1_11 s_1_11 ?_
  refine g_aload_n d11_undo_30 rfl ?_
  refine g_aload_n d11_undo_31 rfl ?_
  refine g_get fl11_10 d11_undo_32 f_0_0 ?_
  refine g_get fl11_300 d11_undo_35 f_1_12 ?_
  refine g_aload_n d11_undo_38 rfl ?_
  refine g_get fl11_10 d11_undo_39 f_0_0 ?_
  refine g_get fl11_297 d11_undo_42 f_1_11 ?_
  refine g_topI (nI n) (rfl) ?_
  refine g_ialdN (n) d11_undo_45 a_8 (rfl) (by omega) (by decide) ?_
  refine g_topI (I 8 (n)) rfl ?_
  refine g_EV1 vm11_allow ml11_119 c_0 (r11_allow (Nat.le_refl 0)) (by omega) (Nat.le_of_ble_eq_true rfl) d11_undo_46 ?_
  exact g_iret rfl d11_undo_49 (⟨rfl, rfl⟩)
