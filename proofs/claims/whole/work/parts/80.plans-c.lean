theorem tens_v : ∀ a, a < 13 → ([1, 10, 100, 1000, 10000, 100000, 1000000, 10000000, 100000000, 1000000000, 10000000000, 100000000000, 1000000000000] : List Int64).getD a 0 = lN (10 ^ a) := by decide +kernel
theorem dst (E X Y c d : Nat) : E * X * c + E * Y * d = E * (c * X + d * Y) := by rw [Nat.mul_add, Nat.mul_comm c X, Nat.mul_comm d Y, Nat.mul_assoc, Nat.mul_assoc]
theorem rc1_E (E w p A B : Nat) : E * (10 * w) * p + E * (A + B) = E * (10 * w * p + A + B) := by rw [Nat.mul_assoc, ← Nat.mul_add, ← Nat.add_assoc]
theorem mnL {a b : Nat} (ha : a < 2 ^ 63) (hb : b < 2 ^ 63) : (if lN b < lN a then lN b else lN a) = lN (if b < a then b else a) := by
  by_cases h : b < a
  · rw [if_pos h, if_pos (by rw [l_lt, pk_lT ha, pk_lT hb]; omega)]
  · rw [if_neg h, if_neg (by rw [l_lt, pk_lT ha, pk_lT hb]; omega)]
theorem ifc_E0 {coin per fl w f E : Nat} {nx : Nat → Nat} {p : Nat} (h : p = 0) : E * nx (les p) + E * w * f = E * ifc coin per fl false w f false nx p := by
  subst h
  unfold ifc
  rw [if_neg (by simp), if_neg (by simp), Nat.mul_add, Nat.mul_assoc, Nat.add_comm]; rfl
theorem ifc_E1 {coin per fl w f E : Nat} {nx : Nat → Nat} {p : Nat} (h : p = 0) (hE : 0 < E) : (if E * w * (coin + fl) + E * nx (les per) < E * nx (les p) + E * w * f then E * w * (coin + fl) + E * nx (les per) else E * nx (les p) + E * w * f) = E * ifc coin per fl true w f false nx p := by
  subst h
  unfold ifc
  have e1 : E * w * (coin + fl) + E * nx (les per) = E * (w * (coin + fl) + nx (les per)) := by rw [Nat.mul_assoc, ← Nat.mul_add]
  have e2 : E * nx (les 0) + E * w * f = E * (w * f + nx 0) := by rw [Nat.mul_add, Nat.mul_assoc, Nat.add_comm]; rfl
  rw [e1, e2, if_neg (show ¬ (0 < 0 ∨ false = true) by simp)]
  have e3 : E * (w * (coin + fl) + nx (les per)) < E * (w * f + nx 0) ↔ w * (coin + fl) + nx (les per) < w * f + nx 0 := Nat.mul_lt_mul_left hE
  by_cases q : w * (coin + fl) + nx (les per) < w * f + nx 0
  · rw [if_pos (e3.2 q), if_pos ⟨rfl, q⟩]
  · rw [if_neg (fun z => q (e3.1 z)), if_neg (fun z => q z.2)]
set_option maxHeartbeats 800000 in
theorem r3_mean {l : Launch} {K : cK} {d : Nat} {I : wI} {L : wL} {R : wR} {dy : cH} (c0 fr ti se fl coin per fine : Nat) (hS : STA I c0 fr ti se fl coin per fine) (hp1 : 1 ≤ per) (wn : Bool) (hwn : I 39 6 = if wn = true then 1 else 0) (E w c f : Nat) (nx : Nat → Nat → Nat) (hE : 0 < E) (hEw9 : E * w ≤ 1000000000000) (s k : Nat) (hs : s ≤ 11) (hEw : 10 ^ (11 - s) = E * w) (hk1 : 1 ≤ k) (hk2 : k ≤ 12) (hc : I 40 k = nI c) (hc9 : c ≤ 10) (hf : I 41 k = nI f) (hf9 : f ≤ 99) (hnx : ∀ j q, 1 ≤ j → j ≤ 12 → q ≤ 12 → L 43 (13 * j + q) = lN (E * nx j q)) (hB : ∀ j q, E * nx j q ≤ 2000000000000000) (paid : Nat) (hpd : paid ≤ 12) (hd : 1 ≤ d) : CE l K m3_meanBehind d [.ref 39, .int (nI s), .int (nI k), .int (nI paid)] (hp I L R dy) (.long (lN (E * (c * (ifc coin per fl wn w f false (nx 1) paid) + (10 - c) * nx (lat k) (les paid))))) (hp I L R dy) := by
  refine CC.of ok3_meanBehind (Nat.le_of_ble_eq_true rfl) ?_
  obtain ⟨u0, u1, u2, u3, u4, u5, u6, u7, u8, u9, u10, u11, u12, u13, u14, u15⟩ := id hS
  obtain ⟨hl1, hl2⟩ := lat_le hk1 hk2
  have hlp : les paid ≤ 12 := by unfold les; omega
  have hx1 := hnx 1 (les paid) (by omega) (by omega) hlp
  have hx2 := hnx (lat k) (les paid) hl1 hl2 hlp
  have hx3 := hnx 1 (les per) (by omega) (by omega) (by unfold les; omega)
  rw [Nat.mul_one] at hx1 hx3
  have b1 := hB 1 (les paid)
  have b3 := hB 1 (les per)
  have b4 : E * w * f ≤ 99000000000000 := Nat.le_trans (Nat.mul_le_mul hEw9 hf9) (by decide)
  have b5 : E * w * (coin + fl) ≤ 18000000000000 := Nat.le_trans (Nat.mul_le_mul hEw9 (show coin + fl ≤ 18 by omega)) (by decide)
  by_cases h0 : 0 < paid
  · have eX : nx 1 (les paid) = (ifc coin per fl wn w f false (nx 1) paid) := by unfold ifc; rw [if_pos (Or.inl h0)]
    refine g_getsN (j := 0) rfl (by decide +kernel) d3_meanBehind_0 ?_
    refine g_bipushv (nI 11) d3_meanBehind_3 rfl ?_
    refine g_iload_n d3_meanBehind_5 rfl ?_
    refine g_isubN (by omega) d3_meanBehind_6 ?_
    refine g_laSN ((11 - s)) rfl (rfl) (by omega) (by decide) d3_meanBehind_7 ?_
    refine g_topL (lN ((E * w))) (by rw [tens_v _ (by omega)]; exact congrArg lN hEw) ?_
    refine g_lstore d3_meanBehind_8 (by decide) ?_
    refine g_iconstv (nI 0) d3_meanBehind_10 rfl ?_
    refine g_iload_n d3_meanBehind_11 rfl ?_
    refine g_iconstv (nI 1) d3_meanBehind_12 rfl ?_
    refine g_isub d3_meanBehind_13 ?_
    refine g_max ml3_102 (by omega) (Nat.le_of_ble_eq_true rfl) d3_meanBehind_14 ?_
    refine g_topI (nI ((les paid))) (mx_les hpd) ?_
    refine g_istore d3_meanBehind_17 (by decide) ?_
    refine g_aload_n d3_meanBehind_19 rfl ?_
    refine g_get fl3_22 d3_meanBehind_20 f_39_5 ?_
    refine g_bipushv (nI 13) d3_meanBehind_23 rfl ?_
    refine g_iload d3_meanBehind_25 rfl ?_
    refine g_iaddN d3_meanBehind_27 ?_
    refine g_laldN ((13 + (les paid))) d3_meanBehind_28 a_43 (rfl) (by omega) (by decide) ?_
    refine g_topL (lN ((E * nx 1 (les paid)))) (hx1) ?_
    refine g_lstore d3_meanBehind_29 (by decide) ?_
    refine g_aload_n d3_meanBehind_31 rfl ?_
    refine g_get fl3_22 d3_meanBehind_32 f_39_5 ?_
    refine g_bipushv (nI 12) d3_meanBehind_35 rfl ?_
    refine g_iload_n d3_meanBehind_37 rfl ?_
    refine g_iconstv (nI 1) d3_meanBehind_38 rfl ?_
    refine g_iaddN d3_meanBehind_39 ?_
    refine g_min ml3_107 (by omega) (Nat.le_of_ble_eq_true rfl) d3_meanBehind_40 ?_
    refine g_topI (nI ((lat k))) (mn_lat (by omega)) ?_
    refine g_bipushv (nI 13) d3_meanBehind_43 rfl ?_
    refine g_imulN d3_meanBehind_45 ?_
    refine g_iload d3_meanBehind_46 rfl ?_
    refine g_iaddN d3_meanBehind_48 ?_
    refine g_laldN ((((lat k) * 13) + (les paid))) d3_meanBehind_49 a_43 (rfl) (by omega) (by decide) ?_
    refine g_topL (lN ((E * nx (lat k) (les paid)))) (by rw [Nat.mul_comm (lat k) 13]; exact hx2) ?_
    refine g_lstore d3_meanBehind_50 (by decide) ?_
    refine g_iload_n d3_meanBehind_52 rfl ?_
    refine g_iz_ne ((paid : Nat) : Int) 122 (nI_ti (by omega)) d3_meanBehind_53 rfl (fun _ => ?_) (fun c53 => absurd c53 (by omega))
    refine g_lload d3_meanBehind_122 rfl ?_
    refine g_topL (lN ((E * (ifc coin per fl wn w f false (nx 1) paid)))) (by rw [eX]) ?_
    refine g_aload_n d3_meanBehind_124 rfl ?_
    refine g_get fl3_9 d3_meanBehind_125 f_39_2 ?_
    refine g_iload_n d3_meanBehind_128 rfl ?_
    refine g_ialdN (k) d3_meanBehind_129 a_40 (rfl) (by omega) (by decide) ?_
    refine g_topI (nI (c)) (hc) ?_
    refine g_i2lN (by omega) d3_meanBehind_130 ?_
    refine g_lmul d3_meanBehind_131 ?_
    refine g_topL (lN ((E * (ifc coin per fl wn w f false (nx 1) paid)) * c)) (lN_mul _ _) ?_
    refine g_lload d3_meanBehind_132 rfl ?_
    refine g_bipushv (nI 10) d3_meanBehind_134 rfl ?_
    refine g_aload_n d3_meanBehind_136 rfl ?_
    refine g_get fl3_9 d3_meanBehind_137 f_39_2 ?_
    refine g_iload_n d3_meanBehind_140 rfl ?_
    refine g_ialdN (k) d3_meanBehind_141 a_40 (rfl) (by omega) (by decide) ?_
    refine g_topI (nI (c)) (hc) ?_
    refine g_isubN (hc9) d3_meanBehind_142 ?_
    refine g_i2lN (by omega) d3_meanBehind_143 ?_
    refine g_lmul d3_meanBehind_144 ?_
    refine g_topL (lN ((E * nx (lat k) (les paid)) * (10 - c))) (lN_mul _ _) ?_
    refine g_ladd d3_meanBehind_145 ?_
    refine g_topL (lN ((E * (c * (ifc coin per fl wn w f false (nx 1) paid) + (10 - c) * nx (lat k) (les paid))))) (by rw [lN_add]; exact congrArg lN (dst E (ifc coin per fl wn w f false (nx 1) paid) (nx (lat k) (les paid)) c (10 - c))) ?_
    exact g_lret rfl d3_meanBehind_146 (⟨rfl, rfl⟩)
  · cases wn with
    | false =>
      refine g_getsN (j := 0) rfl (by decide +kernel) d3_meanBehind_0 ?_
      refine g_bipushv (nI 11) d3_meanBehind_3 rfl ?_
      refine g_iload_n d3_meanBehind_5 rfl ?_
      refine g_isubN (by omega) d3_meanBehind_6 ?_
      refine g_laSN ((11 - s)) rfl (rfl) (by omega) (by decide) d3_meanBehind_7 ?_
      refine g_topL (lN ((E * w))) (by rw [tens_v _ (by omega)]; exact congrArg lN hEw) ?_
      refine g_lstore d3_meanBehind_8 (by decide) ?_
      refine g_iconstv (nI 0) d3_meanBehind_10 rfl ?_
      refine g_iload_n d3_meanBehind_11 rfl ?_
      refine g_iconstv (nI 1) d3_meanBehind_12 rfl ?_
      refine g_isub d3_meanBehind_13 ?_
      refine g_max ml3_102 (by omega) (Nat.le_of_ble_eq_true rfl) d3_meanBehind_14 ?_
      refine g_topI (nI ((les paid))) (mx_les hpd) ?_
      refine g_istore d3_meanBehind_17 (by decide) ?_
      refine g_aload_n d3_meanBehind_19 rfl ?_
      refine g_get fl3_22 d3_meanBehind_20 f_39_5 ?_
      refine g_bipushv (nI 13) d3_meanBehind_23 rfl ?_
      refine g_iload d3_meanBehind_25 rfl ?_
      refine g_iaddN d3_meanBehind_27 ?_
      refine g_laldN ((13 + (les paid))) d3_meanBehind_28 a_43 (rfl) (by omega) (by decide) ?_
      refine g_topL (lN ((E * nx 1 (les paid)))) (hx1) ?_
      refine g_lstore d3_meanBehind_29 (by decide) ?_
      refine g_aload_n d3_meanBehind_31 rfl ?_
      refine g_get fl3_22 d3_meanBehind_32 f_39_5 ?_
      refine g_bipushv (nI 12) d3_meanBehind_35 rfl ?_
      refine g_iload_n d3_meanBehind_37 rfl ?_
      refine g_iconstv (nI 1) d3_meanBehind_38 rfl ?_
      refine g_iaddN d3_meanBehind_39 ?_
      refine g_min ml3_107 (by omega) (Nat.le_of_ble_eq_true rfl) d3_meanBehind_40 ?_
      refine g_topI (nI ((lat k))) (mn_lat (by omega)) ?_
      refine g_bipushv (nI 13) d3_meanBehind_43 rfl ?_
      refine g_imulN d3_meanBehind_45 ?_
      refine g_iload d3_meanBehind_46 rfl ?_
      refine g_iaddN d3_meanBehind_48 ?_
      refine g_laldN ((((lat k) * 13) + (les paid))) d3_meanBehind_49 a_43 (rfl) (by omega) (by decide) ?_
      refine g_topL (lN ((E * nx (lat k) (les paid)))) (by rw [Nat.mul_comm (lat k) 13]; exact hx2) ?_
      refine g_lstore d3_meanBehind_50 (by decide) ?_
      refine g_iload_n d3_meanBehind_52 rfl ?_
      refine g_iz_ne ((paid : Nat) : Int) 122 (nI_ti (by omega)) d3_meanBehind_53 rfl (fun c53 => absurd c53 (by omega)) (fun _ => ?_)
      refine g_lload d3_meanBehind_56 rfl ?_
      refine g_lload d3_meanBehind_58 rfl ?_
      refine g_aload_n d3_meanBehind_60 rfl ?_
      refine g_get fl3_15 d3_meanBehind_61 f_39_3 ?_
      refine g_iload_n d3_meanBehind_64 rfl ?_
      refine g_ialdN (k) d3_meanBehind_65 a_41 (rfl) (by omega) (by decide) ?_
      refine g_topI (nI (f)) (hf) ?_
      refine g_i2lN (by omega) d3_meanBehind_66 ?_
      refine g_lmul d3_meanBehind_67 ?_
      refine g_topL (lN ((E * w) * f)) (lN_mul _ _) ?_
      refine g_ladd d3_meanBehind_68 ?_
      refine g_topL (lN ((E * (ifc coin per fl false w f false (nx 1) paid)))) (by rw [lN_add]; exact congrArg lN (ifc_E0 (by omega))) ?_
      refine g_lstore d3_meanBehind_69 (by decide) ?_
      refine g_aload_n d3_meanBehind_71 rfl ?_
      refine g_get fl3_33 d3_meanBehind_72 f_39_6 ?_
      refine g_topI ((0 : Int32)) (hwn) ?_
      refine g_iz_eq (0) 122 (by decide) d3_meanBehind_75 rfl (fun _ => ?_) (fun c75 => absurd c75 (by decide))
      refine g_lload d3_meanBehind_122 rfl ?_
      refine g_aload_n d3_meanBehind_124 rfl ?_
      refine g_get fl3_9 d3_meanBehind_125 f_39_2 ?_
      refine g_iload_n d3_meanBehind_128 rfl ?_
      refine g_ialdN (k) d3_meanBehind_129 a_40 (rfl) (by omega) (by decide) ?_
      refine g_topI (nI (c)) (hc) ?_
      refine g_i2lN (by omega) d3_meanBehind_130 ?_
      refine g_lmul d3_meanBehind_131 ?_
      refine g_topL (lN ((E * (ifc coin per fl false w f false (nx 1) paid)) * c)) (lN_mul _ _) ?_
      refine g_lload d3_meanBehind_132 rfl ?_
      refine g_bipushv (nI 10) d3_meanBehind_134 rfl ?_
      refine g_aload_n d3_meanBehind_136 rfl ?_
      refine g_get fl3_9 d3_meanBehind_137 f_39_2 ?_
      refine g_iload_n d3_meanBehind_140 rfl ?_
      refine g_ialdN (k) d3_meanBehind_141 a_40 (rfl) (by omega) (by decide) ?_
      refine g_topI (nI (c)) (hc) ?_
      refine g_isubN (hc9) d3_meanBehind_142 ?_
      refine g_i2lN (by omega) d3_meanBehind_143 ?_
      refine g_lmul d3_meanBehind_144 ?_
      refine g_topL (lN ((E * nx (lat k) (les paid)) * (10 - c))) (lN_mul _ _) ?_
      refine g_ladd d3_meanBehind_145 ?_
      refine g_topL (lN ((E * (c * (ifc coin per fl false w f false (nx 1) paid) + (10 - c) * nx (lat k) (les paid))))) (by rw [lN_add]; exact congrArg lN (dst E (ifc coin per fl false w f false (nx 1) paid) (nx (lat k) (les paid)) c (10 - c))) ?_
      exact g_lret rfl d3_meanBehind_146 (⟨rfl, rfl⟩)
    | true =>
      refine g_getsN (j := 0) rfl (by decide +kernel) d3_meanBehind_0 ?_
      refine g_bipushv (nI 11) d3_meanBehind_3 rfl ?_
      refine g_iload_n d3_meanBehind_5 rfl ?_
      refine g_isubN (by omega) d3_meanBehind_6 ?_
      refine g_laSN ((11 - s)) rfl (rfl) (by omega) (by decide) d3_meanBehind_7 ?_
      refine g_topL (lN ((E * w))) (by rw [tens_v _ (by omega)]; exact congrArg lN hEw) ?_
      refine g_lstore d3_meanBehind_8 (by decide) ?_
      refine g_iconstv (nI 0) d3_meanBehind_10 rfl ?_
      refine g_iload_n d3_meanBehind_11 rfl ?_
      refine g_iconstv (nI 1) d3_meanBehind_12 rfl ?_
      refine g_isub d3_meanBehind_13 ?_
      refine g_max ml3_102 (by omega) (Nat.le_of_ble_eq_true rfl) d3_meanBehind_14 ?_
      refine g_topI (nI ((les paid))) (mx_les hpd) ?_
      refine g_istore d3_meanBehind_17 (by decide) ?_
      refine g_aload_n d3_meanBehind_19 rfl ?_
      refine g_get fl3_22 d3_meanBehind_20 f_39_5 ?_
      refine g_bipushv (nI 13) d3_meanBehind_23 rfl ?_
      refine g_iload d3_meanBehind_25 rfl ?_
      refine g_iaddN d3_meanBehind_27 ?_
      refine g_laldN ((13 + (les paid))) d3_meanBehind_28 a_43 (rfl) (by omega) (by decide) ?_
      refine g_topL (lN ((E * nx 1 (les paid)))) (hx1) ?_
      refine g_lstore d3_meanBehind_29 (by decide) ?_
      refine g_aload_n d3_meanBehind_31 rfl ?_
      refine g_get fl3_22 d3_meanBehind_32 f_39_5 ?_
      refine g_bipushv (nI 12) d3_meanBehind_35 rfl ?_
      refine g_iload_n d3_meanBehind_37 rfl ?_
      refine g_iconstv (nI 1) d3_meanBehind_38 rfl ?_
      refine g_iaddN d3_meanBehind_39 ?_
      refine g_min ml3_107 (by omega) (Nat.le_of_ble_eq_true rfl) d3_meanBehind_40 ?_
      refine g_topI (nI ((lat k))) (mn_lat (by omega)) ?_
      refine g_bipushv (nI 13) d3_meanBehind_43 rfl ?_
      refine g_imulN d3_meanBehind_45 ?_
      refine g_iload d3_meanBehind_46 rfl ?_
      refine g_iaddN d3_meanBehind_48 ?_
      refine g_laldN ((((lat k) * 13) + (les paid))) d3_meanBehind_49 a_43 (rfl) (by omega) (by decide) ?_
      refine g_topL (lN ((E * nx (lat k) (les paid)))) (by rw [Nat.mul_comm (lat k) 13]; exact hx2) ?_
      refine g_lstore d3_meanBehind_50 (by decide) ?_
      refine g_iload_n d3_meanBehind_52 rfl ?_
      refine g_iz_ne ((paid : Nat) : Int) 122 (nI_ti (by omega)) d3_meanBehind_53 rfl (fun c53 => absurd c53 (by omega)) (fun _ => ?_)
      refine g_lload d3_meanBehind_56 rfl ?_
      refine g_lload d3_meanBehind_58 rfl ?_
      refine g_aload_n d3_meanBehind_60 rfl ?_
      refine g_get fl3_15 d3_meanBehind_61 f_39_3 ?_
      refine g_iload_n d3_meanBehind_64 rfl ?_
      refine g_ialdN (k) d3_meanBehind_65 a_41 (rfl) (by omega) (by decide) ?_
      refine g_topI (nI (f)) (hf) ?_
      refine g_i2lN (by omega) d3_meanBehind_66 ?_
      refine g_lmul d3_meanBehind_67 ?_
      refine g_topL (lN ((E * w) * f)) (lN_mul _ _) ?_
      refine g_ladd d3_meanBehind_68 ?_
      refine g_topL (lN ((E * nx 1 (les paid)) + ((E * w) * f))) (lN_add _ _) ?_
      refine g_lstore d3_meanBehind_69 (by decide) ?_
      refine g_aload_n d3_meanBehind_71 rfl ?_
      refine g_get fl3_33 d3_meanBehind_72 f_39_6 ?_
      refine g_topI ((1 : Int32)) (hwn) ?_
      refine g_iz_eq (1) 122 (by decide) d3_meanBehind_75 rfl (fun c75 => absurd c75 (by decide)) (fun _ => ?_)
      refine g_lload d3_meanBehind_78 rfl ?_
      refine g_lload d3_meanBehind_80 rfl ?_
      refine g_aload_n d3_meanBehind_82 rfl ?_
      refine g_get fl3_29 d3_meanBehind_83 f_39_1 ?_
      refine g_get fl3_110 d3_meanBehind_86 f_28_5 ?_
      refine g_topI (nI (coin)) (u5) ?_
      refine g_aload_n d3_meanBehind_89 rfl ?_
      refine g_get fl3_29 d3_meanBehind_90 f_39_1 ?_
      refine g_get fl3_113 d3_meanBehind_93 f_28_4 ?_
      refine g_topI (nI (fl)) (u4) ?_
      refine g_iaddN d3_meanBehind_96 ?_
      refine g_i2lN (by omega) d3_meanBehind_97 ?_
      refine g_lmul d3_meanBehind_98 ?_
      refine g_topL (lN ((E * w) * (coin + fl))) (lN_mul _ _) ?_
      refine g_aload_n d3_meanBehind_99 rfl ?_
      refine g_get fl3_22 d3_meanBehind_100 f_39_5 ?_
      refine g_bipushv (nI 13) d3_meanBehind_103 rfl ?_
      refine g_aload_n d3_meanBehind_105 rfl ?_
      refine g_get fl3_29 d3_meanBehind_106 f_39_1 ?_
      refine g_get fl3_116 d3_meanBehind_109 f_28_6 ?_
      refine g_topI (nI (per)) (u6) ?_
      refine g_iaddN d3_meanBehind_112 ?_
      refine g_iconstv (nI 1) d3_meanBehind_113 rfl ?_
      refine g_isubN (by omega) d3_meanBehind_114 ?_
      refine g_laldN (((13 + per) - 1)) d3_meanBehind_115 a_43 (rfl) (by omega) (by decide) ?_
      refine g_topL (lN ((E * nx 1 (les per)))) (by rw [show 13 + per - 1 = 13 + les per by unfold les; omega]; exact hx3) ?_
      refine g_ladd d3_meanBehind_116 ?_
      refine g_topL (lN (((E * w) * (coin + fl)) + (E * nx 1 (les per)))) (lN_add _ _) ?_
      refine g_minL ml3_119 (by omega) (Nat.le_of_ble_eq_true rfl) d3_meanBehind_117 ?_
      refine g_topL (lN ((E * (ifc coin per fl true w f false (nx 1) paid)))) (by rw [mnL (by omega) (by omega)]; exact congrArg lN (ifc_E1 (by omega) hE)) ?_
      refine g_lstore d3_meanBehind_120 (by decide) ?_
      refine g_lload d3_meanBehind_122 rfl ?_
      refine g_aload_n d3_meanBehind_124 rfl ?_
      refine g_get fl3_9 d3_meanBehind_125 f_39_2 ?_
      refine g_iload_n d3_meanBehind_128 rfl ?_
      refine g_ialdN (k) d3_meanBehind_129 a_40 (rfl) (by omega) (by decide) ?_
      refine g_topI (nI (c)) (hc) ?_
      refine g_i2lN (by omega) d3_meanBehind_130 ?_
      refine g_lmul d3_meanBehind_131 ?_
      refine g_topL (lN ((E * (ifc coin per fl true w f false (nx 1) paid)) * c)) (lN_mul _ _) ?_
      refine g_lload d3_meanBehind_132 rfl ?_
      refine g_bipushv (nI 10) d3_meanBehind_134 rfl ?_
      refine g_aload_n d3_meanBehind_136 rfl ?_
      refine g_get fl3_9 d3_meanBehind_137 f_39_2 ?_
      refine g_iload_n d3_meanBehind_140 rfl ?_
      refine g_ialdN (k) d3_meanBehind_141 a_40 (rfl) (by omega) (by decide) ?_
      refine g_topI (nI (c)) (hc) ?_
      refine g_isubN (hc9) d3_meanBehind_142 ?_
      refine g_i2lN (by omega) d3_meanBehind_143 ?_
      refine g_lmul d3_meanBehind_144 ?_
      refine g_topL (lN ((E * nx (lat k) (les paid)) * (10 - c))) (lN_mul _ _) ?_
      refine g_ladd d3_meanBehind_145 ?_
      refine g_topL (lN ((E * (c * (ifc coin per fl true w f false (nx 1) paid) + (10 - c) * nx (lat k) (les paid))))) (by rw [lN_add]; exact congrArg lN (dst E (ifc coin per fl true w f false (nx 1) paid) (nx (lat k) (les paid)) c (10 - c))) ?_
      exact g_lret rfl d3_meanBehind_146 (⟨rfl, rfl⟩)
set_option maxHeartbeats 800000 in
theorem r3_chE {l : Launch} {K : cK} {d : Nat} {I : wI} {L : wL} {R : wR} {dy : cH} (c0 fr ti se fl coin per fine : Nat) (hS : STA I c0 fr ti se fl coin per fine) (hp1 : 1 ≤ per) (hc1 : 1 ≤ coin) (wn : Bool) (hwn : I 39 6 = if wn = true then 1 else 0) (cm fn : Nat → Nat → Nat) (hcm : ∀ s k, cm s k ≤ 10) (hfn : ∀ s k, fn s k ≤ 99) (m s k left : Nat) (hms : s + m = ti) (hfs : fr ≤ s) (hk1 : 1 ≤ k) (hk2 : k ≤ 12) (hl : left ≤ 12) (hc : I 40 k = nI (cm s k)) (hf : I 41 k = nI (fnK cm fn s k)) (hnx : ∀ j q, 1 ≤ j → j ≤ 12 → q ≤ 12 → L 43 (13 * j + q) = lN (10 ^ (11 - ti) * (rD coin per fr ti fl wn cm (fnK cm fn) nSb m j q))) (n : Nat) (hn : n ≤ 12) (hd : 2 ≤ d) (kk : ¬ m < pdb per left n → GL l K m3_choose d 0 0 16 [(0, .ref 39), (1, .int (nI s)), (2, .int (nI k)), (3, .int (nI left)), (4, .long (lN (10 ^ (11 - ti) * (10 * 10 ^ m)))), (6, .long (lN (10 ^ (11 - ti) * (fa (rc1 coin per fr fl wn (10 ^ m) (cm s k) (fnK cm fn s k) (nSb s k) (rD coin per fr ti fl wn cm (fnK cm fn) nSb m) s k left) (n)).1))), (8, .int (nI (n + 1)))] [] (hp (uI I 39 7 (nI (fa (rc1 coin per fr fl wn (10 ^ m) (cm s k) (fnK cm fn s k) (nSb s k) (rD coin per fr ti fl wn cm (fnK cm fn) nSb m) s k left) (n)).2.1)) L R dy) (fun r h => r = some (.long (lN (10 ^ (11 - ti) * (fa (rc1 coin per fr fl wn (10 ^ m) (cm s k) (fnK cm fn s k) (nSb s k) (rD coin per fr ti fl wn cm (fnK cm fn) nSb m) s k left) 12).1))) ∧ h = hp (uI I 39 7 (nI (fa (rc1 coin per fr fl wn (10 ^ m) (cm s k) (fnK cm fn s k) (nSb s k) (rD coin per fr ti fl wn cm (fnK cm fn) nSb m) s k left) (12)).2.1)) L R dy)) : GL l K m3_choose d 0 0 83 [(0, .ref 39), (1, .int (nI s)), (2, .int (nI k)), (3, .int (nI left)), (4, .long (lN (10 ^ (11 - ti) * (10 * 10 ^ m)))), (6, .long (lN (10 ^ (11 - ti) * (fa (rc1 coin per fr fl wn (10 ^ m) (cm s k) (fnK cm fn s k) (nSb s k) (rD coin per fr ti fl wn cm (fnK cm fn) nSb m) s k left) (n)).1))), (8, .int (nI (n))), (9, .int (nI (pdb per left n)))] [] (hp (uI I 39 7 (nI (fa (rc1 coin per fr fl wn (10 ^ m) (cm s k) (fnK cm fn s k) (nSb s k) (rD coin per fr ti fl wn cm (fnK cm fn) nSb m) s k left) (n)).2.1)) L R dy) (fun r h => r = some (.long (lN (10 ^ (11 - ti) * (fa (rc1 coin per fr fl wn (10 ^ m) (cm s k) (fnK cm fn s k) (nSb s k) (rD coin per fr ti fl wn cm (fnK cm fn) nSb m) s k left) 12).1))) ∧ h = hp (uI I 39 7 (nI (fa (rc1 coin per fr fl wn (10 ^ m) (cm s k) (fnK cm fn s k) (nSb s k) (rD coin per fr ti fl wn cm (fnK cm fn) nSb m) s k left) (12)).2.1)) L R dy) := by
  obtain ⟨u0, u1, u2, u3, u4, u5, u6, u7, u8, u9, u10, u11, u12, u13, u14, u15⟩ := id hS
  have hS2 : STA (uI I 39 7 (nI (fa (rc1 coin per fr fl wn (10 ^ m) (cm s k) (fnK cm fn s k) (nSb s k) (rD coin per fr ti fl wn cm (fnK cm fn) nSb m) s k left) n).2.1)) c0 fr ti se fl coin per fine := hS.of (uI_n (by decide))
  have hpb := pdb_le per left n
  by_cases he : m < pdb per left n
  · rw [rc1_stop coin per fr ti fl wn cm (fnK cm fn) nSb (Nat.pow_pos (by decide)) hc1 (by omega) hn he]
    refine g_aload_n d3_choose_83 rfl ?_
    refine g_get fl3_29 d3_choose_84 f_39_1 ?_
    refine g_iload_n d3_choose_87 rfl ?_
    refine g_iload d3_choose_88 rfl ?_
    refine g_EV2 vm7_paidToTheEnd ml3_98 c_28 (r7_end (I := uI I 39 7 (nI (fa (rc1 coin per fr fl wn (10 ^ m) (cm s k) (fnK cm fn s k) (nSb s k) (rD coin per fr ti fl wn cm (fnK cm fn) nSb m) s k left) n).2.1)) (L := L) c0 fr ti se fl coin per fine hS2 s (pdb per left n) (by omega) hpb (Nat.le_refl 0)) (by omega) (Nat.le_of_ble_eq_true rfl) d3_choose_90 ?_
    refine g_bz 99 d3_choose_93 rfl (fun c93 => absurd (by omega) c93) (fun _ => ?_)
    refine g_goto 105 d3_choose_96 rfl ?_
    refine g_lload d3_choose_105 rfl ?_
    exact g_lret rfl d3_choose_107 (⟨rfl, rfl⟩)
  · have kk := kk he
    refine g_aload_n d3_choose_83 rfl ?_
    refine g_get fl3_29 d3_choose_84 f_39_1 ?_
    refine g_iload_n d3_choose_87 rfl ?_
    refine g_iload d3_choose_88 rfl ?_
    refine g_EV2 vm7_paidToTheEnd ml3_98 c_28 (r7_end (I := uI I 39 7 (nI (fa (rc1 coin per fr fl wn (10 ^ m) (cm s k) (fnK cm fn s k) (nSb s k) (rD coin per fr ti fl wn cm (fnK cm fn) nSb m) s k left) n).2.1)) (L := L) c0 fr ti se fl coin per fine hS2 s (pdb per left n) (by omega) hpb (Nat.le_refl 0)) (by omega) (Nat.le_of_ble_eq_true rfl) d3_choose_90 ?_
    refine g_bz 99 d3_choose_93 rfl (fun _ => ?_) (fun c93 => absurd c93 (by omega))
    refine g_iincN d3_choose_99 rfl (by decide) ?_
    refine g_goto 16 d3_choose_102 rfl ?_
    refine g_lo [(0, .ref 39), (1, .int (nI s)), (2, .int (nI k)), (3, .int (nI left)), (4, .long (lN (10 ^ (11 - ti) * (10 * 10 ^ m)))), (6, .long (lN (10 ^ (11 - ti) * (fa (rc1 coin per fr fl wn (10 ^ m) (cm s k) (fnK cm fn s k) (nSb s k) (rD coin per fr ti fl wn cm (fnK cm fn) nSb m) s k left) (n)).1))), (8, .int (nI (n + 1)))] ⟨rfl, rfl, rfl, rfl, rfl, rfl, rfl, trivial⟩ ?_
    exact kk
set_option maxHeartbeats 2000000 in
theorem r3_chL {l : Launch} {K : cK} {d : Nat} {I : wI} {L : wL} {R : wR} {dy : cH} (c0 fr ti se fl coin per fine : Nat) (hS : STA I c0 fr ti se fl coin per fine) (hp1 : 1 ≤ per) (hc1 : 1 ≤ coin) (wn : Bool) (hwn : I 39 6 = if wn = true then 1 else 0) (cm fn : Nat → Nat → Nat) (hcm : ∀ s k, cm s k ≤ 10) (hfn : ∀ s k, fn s k ≤ 99) (m s k left : Nat) (hms : s + m = ti) (hfs : fr ≤ s) (hk1 : 1 ≤ k) (hk2 : k ≤ 12) (hl : left ≤ 12) (hc : I 40 k = nI (cm s k)) (hf : I 41 k = nI (fnK cm fn s k)) (hnx : ∀ j q, 1 ≤ j → j ≤ 12 → q ≤ 12 → L 43 (13 * j + q) = lN (10 ^ (11 - ti) * (rD coin per fr ti fl wn cm (fnK cm fn) nSb m j q))) (hd : 2 ≤ d) : ∀ (j n : Nat), n + j = 12 → GL l K m3_choose d 0 0 16 [(0, .ref 39), (1, .int (nI s)), (2, .int (nI k)), (3, .int (nI left)), (4, .long (lN (10 ^ (11 - ti) * (10 * 10 ^ m)))), (6, .long (lN (10 ^ (11 - ti) * (fa (rc1 coin per fr fl wn (10 ^ m) (cm s k) (fnK cm fn s k) (nSb s k) (rD coin per fr ti fl wn cm (fnK cm fn) nSb m) s k left) (n)).1))), (8, .int (nI (n + 1)))] [] (hp (uI I 39 7 (nI (fa (rc1 coin per fr fl wn (10 ^ m) (cm s k) (fnK cm fn s k) (nSb s k) (rD coin per fr ti fl wn cm (fnK cm fn) nSb m) s k left) (n)).2.1)) L R dy) (fun r h => r = some (.long (lN (10 ^ (11 - ti) * (fa (rc1 coin per fr fl wn (10 ^ m) (cm s k) (fnK cm fn s k) (nSb s k) (rD coin per fr ti fl wn cm (fnK cm fn) nSb m) s k left) 12).1))) ∧ h = hp (uI I 39 7 (nI (fa (rc1 coin per fr fl wn (10 ^ m) (cm s k) (fnK cm fn s k) (nSb s k) (rD coin per fr ti fl wn cm (fnK cm fn) nSb m) s k left) (12)).2.1)) L R dy) := by
  obtain ⟨u0, u1, u2, u3, u4, u5, u6, u7, u8, u9, u10, u11, u12, u13, u14, u15⟩ := id hS
  have hE : 0 < 10 ^ (11 - ti) := Nat.pow_pos (by decide)
  have hEw : 10 ^ (11 - s) = 10 ^ (11 - ti) * 10 ^ m := by rw [← Nat.pow_add]; congr 1; omega
  have hE12 : 10 ^ (12 - s) = 10 ^ (11 - ti) * (10 * 10 ^ m) := by rw [Nat.mul_comm 10, ← Nat.pow_succ, ← Nat.pow_add]; congr 1; omega
  have hEw9 : 10 ^ (11 - ti) * 10 ^ m ≤ 1000000000000 := by rw [← hEw]; exact pw12 (by omega)
  have hfK := fnK_le (cm := cm) hfn
  have hB : ∀ j q, 10 ^ (11 - ti) * (rD coin per fr ti fl wn cm (fnK cm fn) nSb m j q) ≤ 2000000000000000 := fun j q => by
    have z := rD_le coin per fr ti fl wn cm (fnK cm fn) nSb hcm hfK m j q
    have z2 := Nat.mul_le_mul_left (10 ^ (11 - ti)) z
    have z3 : 10 ^ (11 - ti) * (m * 99 * 10 ^ m) = m * 99 * (10 ^ (11 - ti) * 10 ^ m) := by rw [Nat.mul_left_comm]
    rw [z3] at z2
    have z4 : m * 99 * (10 ^ (11 - ti) * 10 ^ m) ≤ 1089 * 1000000000000 := Nat.mul_le_mul (by omega) hEw9
    omega
  have hvl : ∀ n, n ≤ 12 → 10 ^ (11 - ti) * (rc1 coin per fr fl wn (10 ^ m) (cm s k) (fnK cm fn s k) (nSb s k) (rD coin per fr ti fl wn cm (fnK cm fn) nSb m) s k left) n < 4000000000000000000 := fun n h => by
    have z := rc1_le (coin := coin) (per := per) (fr := fr) (fl := fl) (wn := wn) (w := 10 ^ m) (c := cm s k) (f := fnK cm fn s k) (sb := nSb s k) (nx := (rD coin per fr ti fl wn cm (fnK cm fn) nSb m)) (B := m * 99 * 10 ^ m) (hfK s k) (hcm s k) (fun j q => rD_le coin per fr ti fl wn cm (fnK cm fn) nSb hcm hfK m j q) s k left n
    have hp := prc_le (fr := fr) (s := s) u13 u12 h
    have z1 : 10 * 10 ^ m * prc coin fr fl s n ≤ 1170 * 10 ^ m := by rw [Nat.mul_assoc, Nat.mul_left_comm, Nat.mul_comm (1170)]; exact Nat.mul_le_mul_left _ (by omega)
    have z5 : m * 99 * 10 ^ m ≤ 1089 * 10 ^ m := Nat.mul_le_mul_right _ (by omega)
    have z2 := Nat.mul_le_mul_left (10 ^ (11 - ti)) (show (rc1 coin per fr fl wn (10 ^ m) (cm s k) (fnK cm fn s k) (nSb s k) (rD coin per fr ti fl wn cm (fnK cm fn) nSb m) s k left) n ≤ 13050 * 10 ^ m by omega)
    rw [Nat.mul_left_comm] at z2
    have z4 : 13050 * (10 ^ (11 - ti) * 10 ^ m) ≤ 13050 * 1000000000000 := Nat.mul_le_mul_left _ hEw9
    omega
  intro j
  induction j with
  | zero =>
    intro n hn
    obtain rfl : n = 12 := by omega
    refine g_iload d3_choose_16 rfl ?_
    refine g_bipushv (nI 12) d3_choose_18 rfl ?_
    refine g_ic_gt (13) (12) 105 (by decide) (by decide) d3_choose_20 rfl (fun _ => ?_) (fun c20 => absurd c20 (by decide))
    refine g_lload d3_choose_105 rfl ?_
    exact g_lret rfl d3_choose_107 (⟨rfl, rfl⟩)
  | succ j ih =>
    intro n hn
    have ih := ih (n + 1) (by omega)
    have hpb := pdb_le per left (n + 1)
    have hpr := prc_le (fr := fr) (s := s) (n := n + 1) u13 u12 (by omega)
    have hS2 : STA (uI I 39 7 (nI (fa (rc1 coin per fr fl wn (10 ^ m) (cm s k) (fnK cm fn s k) (nSb s k) (rD coin per fr ti fl wn cm (fnK cm fn) nSb m) s k left) n).2.1)) c0 fr ti se fl coin per fine := hS.of (uI_n (by decide))
    have b1 := hvl (n + 1) (by omega)
    have hat := (fa_at (rc1 coin per fr fl wn (10 ^ m) (cm s k) (fnK cm fn s k) (nSb s k) (rD coin per fr ti fl wn cm (fnK cm fn) nSb m) s k left) n).1
    have hle := (fa_le (rc1 coin per fr fl wn (10 ^ m) (cm s k) (fnK cm fn s k) (nSb s k) (rD coin per fr ti fl wn cm (fnK cm fn) nSb m) s k left) n).2.1
    have b2 : 10 ^ (11 - ti) * (fa (rc1 coin per fr fl wn (10 ^ m) (cm s k) (fnK cm fn s k) (nSb s k) (rD coin per fr ti fl wn cm (fnK cm fn) nSb m) s k left) n).1 < 4000000000000000000 := by rw [← hat]; exact hvl _ (by omega)
    have hE1 := r3_chE (l := l) (K := K) (d := d) (I := I) (L := L) (R := R) (dy := dy) c0 fr ti se fl coin per fine hS hp1 hc1 wn hwn cm fn hcm hfn m s k left hms hfs hk1 hk2 hl hc hf hnx (n + 1) (by omega) hd (fun _ => ih)
    have hfa : fa (rc1 coin per fr fl wn (10 ^ m) (cm s k) (fnK cm fn s k) (nSb s k) (rD coin per fr ti fl wn cm (fnK cm fn) nSb m) s k left) (n + 1) = if (rc1 coin per fr fl wn (10 ^ m) (cm s k) (fnK cm fn s k) (nSb s k) (rD coin per fr ti fl wn cm (fnK cm fn) nSb m) s k left) (n + 1) < (fa (rc1 coin per fr fl wn (10 ^ m) (cm s k) (fnK cm fn s k) (nSb s k) (rD coin per fr ti fl wn cm (fnK cm fn) nSb m) s k left) n).1 then ((rc1 coin per fr fl wn (10 ^ m) (cm s k) (fnK cm fn s k) (nSb s k) (rD coin per fr ti fl wn cm (fnK cm fn) nSb m) s k left) (n + 1), n + 1, 1) else if (rc1 coin per fr fl wn (10 ^ m) (cm s k) (fnK cm fn s k) (nSb s k) (rD coin per fr ti fl wn cm (fnK cm fn) nSb m) s k left) (n + 1) = (fa (rc1 coin per fr fl wn (10 ^ m) (cm s k) (fnK cm fn s k) (nSb s k) (rD coin per fr ti fl wn cm (fnK cm fn) nSb m) s k left) n).1 then ((fa (rc1 coin per fr fl wn (10 ^ m) (cm s k) (fnK cm fn s k) (nSb s k) (rD coin per fr ti fl wn cm (fnK cm fn) nSb m) s k left) n).1, (fa (rc1 coin per fr fl wn (10 ^ m) (cm s k) (fnK cm fn s k) (nSb s k) (rD coin per fr ti fl wn cm (fnK cm fn) nSb m) s k left) n).2.1, (fa (rc1 coin per fr fl wn (10 ^ m) (cm s k) (fnK cm fn s k) (nSb s k) (rD coin per fr ti fl wn cm (fnK cm fn) nSb m) s k left) n).2.2 + 1) else fa (rc1 coin per fr fl wn (10 ^ m) (cm s k) (fnK cm fn s k) (nSb s k) (rD coin per fr ti fl wn cm (fnK cm fn) nSb m) s k left) n := rfl
    have hll : 10 ^ (11 - ti) * (rc1 coin per fr fl wn (10 ^ m) (cm s k) (fnK cm fn s k) (nSb s k) (rD coin per fr ti fl wn cm (fnK cm fn) nSb m) s k left) (n + 1) < 10 ^ (11 - ti) * (fa (rc1 coin per fr fl wn (10 ^ m) (cm s k) (fnK cm fn s k) (nSb s k) (rD coin per fr ti fl wn cm (fnK cm fn) nSb m) s k left) n).1 ↔ (rc1 coin per fr fl wn (10 ^ m) (cm s k) (fnK cm fn s k) (nSb s k) (rD coin per fr ti fl wn cm (fnK cm fn) nSb m) s k left) (n + 1) < (fa (rc1 coin per fr fl wn (10 ^ m) (cm s k) (fnK cm fn s k) (nSb s k) (rD coin per fr ti fl wn cm (fnK cm fn) nSb m) s k left) n).1 := Nat.mul_lt_mul_left hE
    by_cases hlt : 10 ^ (11 - ti) * (rc1 coin per fr fl wn (10 ^ m) (cm s k) (fnK cm fn s k) (nSb s k) (rD coin per fr ti fl wn cm (fnK cm fn) nSb m) s k left) (n + 1) < 10 ^ (11 - ti) * (fa (rc1 coin per fr fl wn (10 ^ m) (cm s k) (fnK cm fn s k) (nSb s k) (rD coin per fr ti fl wn cm (fnK cm fn) nSb m) s k left) n).1
    · rw [if_pos (hll.1 hlt)] at hfa
      rw [hfa] at hE1
      refine g_iload d3_choose_16 rfl ?_
      refine g_bipushv (nI 12) d3_choose_18 rfl ?_
      refine g_ic_gt (((n + 1) : Nat) : Int) (12) 105 (nI_ti (by omega)) (by decide) d3_choose_20 rfl (fun c20 => absurd c20 (by omega)) (fun _ => ?_)
      refine g_aload_n d3_choose_23 rfl ?_
      refine g_get fl3_29 d3_choose_24 f_39_1 ?_
      refine g_iload_n d3_choose_27 rfl ?_
      refine g_iload d3_choose_28 rfl ?_
      refine g_EV2 vm7_paidWith ml3_89 c_28 (r7_paid (I := (uI I 39 7 (nI (fa (rc1 coin per fr fl wn (10 ^ m) (cm s k) (fnK cm fn s k) (nSb s k) (rD coin per fr ti fl wn cm (fnK cm fn) nSb m) s k left) n).2.1))) (L := L) c0 fr ti se fl coin per fine hS2 left (n + 1) hl (by omega) (Nat.le_refl 1)) (by omega) (Nat.le_of_ble_eq_true rfl) d3_choose_30 ?_
      refine g_istore d3_choose_33 (by decide) ?_
      refine g_lload d3_choose_35 rfl ?_
      refine g_aload_n d3_choose_37 rfl ?_
      refine g_get fl3_29 d3_choose_38 f_39_1 ?_
      refine g_iload d3_choose_41 rfl ?_
      refine g_iload_n d3_choose_43 rfl ?_
      refine g_EV2 vm7_price ml3_92 c_28 (r7_price (I := (uI I 39 7 (nI (fa (rc1 coin per fr fl wn (10 ^ m) (cm s k) (fnK cm fn s k) (nSb s k) (rD coin per fr ti fl wn cm (fnK cm fn) nSb m) s k left) n).2.1))) (L := L) c0 fr ti se fl coin per fine hS2 (n + 1) s (by omega) (by omega) (Nat.le_refl 0)) (by omega) (Nat.le_of_ble_eq_true rfl) d3_choose_44 ?_
      refine g_i2lN (by omega) d3_choose_47 ?_
      refine g_lmul d3_choose_48 ?_
      refine g_topL (lN ((10 ^ (11 - ti) * (10 * 10 ^ m)) * (prc coin fr fl s (n + 1)))) (lN_mul _ _) ?_
      refine g_aload_n d3_choose_49 rfl ?_
      refine g_iload_n d3_choose_50 rfl ?_
      refine g_iload_n d3_choose_51 rfl ?_
      refine g_iload d3_choose_52 rfl ?_
      refine g_EV3 vm3_meanBehind ml3_95 c_39 (r3_mean (I := (uI I 39 7 (nI (fa (rc1 coin per fr fl wn (10 ^ m) (cm s k) (fnK cm fn s k) (nSb s k) (rD coin per fr ti fl wn cm (fnK cm fn) nSb m) s k left) n).2.1))) (L := L) c0 fr ti se fl coin per fine hS2 hp1 wn (by rw [uI_sn (by decide)]; exact hwn) (10 ^ (11 - ti)) (10 ^ m) (cm s k) (fnK cm fn s k) (rD coin per fr ti fl wn cm (fnK cm fn) nSb m) hE hEw9 s k (by omega) hEw hk1 hk2 (by rw [uI_n (by decide)]; exact hc) (hcm s k) (by rw [uI_n (by decide)]; exact hf) (hfK s k) hnx hB (pdb per left (n + 1)) hpb (Nat.le_refl 1)) (by omega) (Nat.le_of_ble_eq_true rfl) d3_choose_54 ?_
      refine g_ladd d3_choose_57 ?_
      refine g_topL (lN ((10 ^ (11 - ti) * (rc1 coin per fr fl wn (10 ^ m) (cm s k) (fnK cm fn s k) (nSb s k) (rD coin per fr ti fl wn cm (fnK cm fn) nSb m) s k left) (n + 1)))) (by rw [lN_add]; exact congrArg lN (rc1_E (10 ^ (11 - ti)) (10 ^ m) (prc coin fr fl s (n + 1)) _ _)) ?_
      refine g_lstore d3_choose_58 (by decide) ?_
      refine g_iload d3_choose_60 rfl ?_
      refine g_iz_eq (((n + 1) : Nat) : Int) 73 (nI_ti (by omega)) d3_choose_62 rfl (fun c62 => absurd c62 (by omega)) (fun _ => ?_)
      refine g_lload d3_choose_65 rfl ?_
      refine g_lload d3_choose_67 rfl ?_
      refine g_lx_ge (((10 ^ (11 - ti) * (rc1 coin per fr fl wn (10 ^ m) (cm s k) (fnK cm fn s k) (nSb s k) (rD coin per fr ti fl wn cm (fnK cm fn) nSb m) s k left) (n + 1)) : Nat) : Int) (((10 ^ (11 - ti) * (fa (rc1 coin per fr fl wn (10 ^ m) (cm s k) (fnK cm fn s k) (nSb s k) (rD coin per fr ti fl wn cm (fnK cm fn) nSb m) s k left) n).1) : Nat) : Int) 83 (pk_lT (by omega)) (pk_lT (by omega)) d3_choose_69 d3_choose_70 rfl (fun c69 => absurd c69 (by omega)) (fun _ => ?_)
      refine g_lload d3_choose_73 rfl ?_
      refine g_lstore d3_choose_75 (by decide) ?_
      refine g_aload_n d3_choose_77 rfl ?_
      refine g_iload d3_choose_78 rfl ?_
      refine g_putIh _ fl3_60 d3_choose_80 f_39_7 s_39_7 ?_
      rw [uI_uI]
      refine g_lo [(0, .ref 39), (1, .int (nI s)), (2, .int (nI k)), (3, .int (nI left)), (4, .long (lN (10 ^ (11 - ti) * (10 * 10 ^ m)))), (6, .long (lN (10 ^ (11 - ti) * (rc1 coin per fr fl wn (10 ^ m) (cm s k) (fnK cm fn s k) (nSb s k) (rD coin per fr ti fl wn cm (fnK cm fn) nSb m) s k left) (n + 1)))), (8, .int (nI (n + 1))), (9, .int (nI (pdb per left (n + 1))))] ⟨rfl, rfl, rfl, rfl, rfl, rfl, rfl, rfl, trivial⟩ ?_
      exact hE1
    · have e1 : (fa (rc1 coin per fr fl wn (10 ^ m) (cm s k) (fnK cm fn s k) (nSb s k) (rD coin per fr ti fl wn cm (fnK cm fn) nSb m) s k left) (n + 1)).1 = (fa (rc1 coin per fr fl wn (10 ^ m) (cm s k) (fnK cm fn s k) (nSb s k) (rD coin per fr ti fl wn cm (fnK cm fn) nSb m) s k left) n).1 ∧ (fa (rc1 coin per fr fl wn (10 ^ m) (cm s k) (fnK cm fn s k) (nSb s k) (rD coin per fr ti fl wn cm (fnK cm fn) nSb m) s k left) (n + 1)).2.1 = (fa (rc1 coin per fr fl wn (10 ^ m) (cm s k) (fnK cm fn s k) (nSb s k) (rD coin per fr ti fl wn cm (fnK cm fn) nSb m) s k left) n).2.1 := by
        rw [if_neg (fun z => hlt (hll.2 z))] at hfa
        split at hfa <;> (rw [hfa]; exact ⟨rfl, rfl⟩)
      rw [e1.1, e1.2] at hE1
      refine g_iload d3_choose_16 rfl ?_
      refine g_bipushv (nI 12) d3_choose_18 rfl ?_
      refine g_ic_gt (((n + 1) : Nat) : Int) (12) 105 (nI_ti (by omega)) (by decide) d3_choose_20 rfl (fun c20 => absurd c20 (by omega)) (fun _ => ?_)
      refine g_aload_n d3_choose_23 rfl ?_
      refine g_get fl3_29 d3_choose_24 f_39_1 ?_
      refine g_iload_n d3_choose_27 rfl ?_
      refine g_iload d3_choose_28 rfl ?_
      refine g_EV2 vm7_paidWith ml3_89 c_28 (r7_paid (I := (uI I 39 7 (nI (fa (rc1 coin per fr fl wn (10 ^ m) (cm s k) (fnK cm fn s k) (nSb s k) (rD coin per fr ti fl wn cm (fnK cm fn) nSb m) s k left) n).2.1))) (L := L) c0 fr ti se fl coin per fine hS2 left (n + 1) hl (by omega) (Nat.le_refl 1)) (by omega) (Nat.le_of_ble_eq_true rfl) d3_choose_30 ?_
      refine g_istore d3_choose_33 (by decide) ?_
      refine g_lload d3_choose_35 rfl ?_
      refine g_aload_n d3_choose_37 rfl ?_
      refine g_get fl3_29 d3_choose_38 f_39_1 ?_
      refine g_iload d3_choose_41 rfl ?_
      refine g_iload_n d3_choose_43 rfl ?_
      refine g_EV2 vm7_price ml3_92 c_28 (r7_price (I := (uI I 39 7 (nI (fa (rc1 coin per fr fl wn (10 ^ m) (cm s k) (fnK cm fn s k) (nSb s k) (rD coin per fr ti fl wn cm (fnK cm fn) nSb m) s k left) n).2.1))) (L := L) c0 fr ti se fl coin per fine hS2 (n + 1) s (by omega) (by omega) (Nat.le_refl 0)) (by omega) (Nat.le_of_ble_eq_true rfl) d3_choose_44 ?_
      refine g_i2lN (by omega) d3_choose_47 ?_
      refine g_lmul d3_choose_48 ?_
      refine g_topL (lN ((10 ^ (11 - ti) * (10 * 10 ^ m)) * (prc coin fr fl s (n + 1)))) (lN_mul _ _) ?_
      refine g_aload_n d3_choose_49 rfl ?_
      refine g_iload_n d3_choose_50 rfl ?_
      refine g_iload_n d3_choose_51 rfl ?_
      refine g_iload d3_choose_52 rfl ?_
      refine g_EV3 vm3_meanBehind ml3_95 c_39 (r3_mean (I := (uI I 39 7 (nI (fa (rc1 coin per fr fl wn (10 ^ m) (cm s k) (fnK cm fn s k) (nSb s k) (rD coin per fr ti fl wn cm (fnK cm fn) nSb m) s k left) n).2.1))) (L := L) c0 fr ti se fl coin per fine hS2 hp1 wn (by rw [uI_sn (by decide)]; exact hwn) (10 ^ (11 - ti)) (10 ^ m) (cm s k) (fnK cm fn s k) (rD coin per fr ti fl wn cm (fnK cm fn) nSb m) hE hEw9 s k (by omega) hEw hk1 hk2 (by rw [uI_n (by decide)]; exact hc) (hcm s k) (by rw [uI_n (by decide)]; exact hf) (hfK s k) hnx hB (pdb per left (n + 1)) hpb (Nat.le_refl 1)) (by omega) (Nat.le_of_ble_eq_true rfl) d3_choose_54 ?_
      refine g_ladd d3_choose_57 ?_
      refine g_topL (lN ((10 ^ (11 - ti) * (rc1 coin per fr fl wn (10 ^ m) (cm s k) (fnK cm fn s k) (nSb s k) (rD coin per fr ti fl wn cm (fnK cm fn) nSb m) s k left) (n + 1)))) (by rw [lN_add]; exact congrArg lN (rc1_E (10 ^ (11 - ti)) (10 ^ m) (prc coin fr fl s (n + 1)) _ _)) ?_
      refine g_lstore d3_choose_58 (by decide) ?_
      refine g_iload d3_choose_60 rfl ?_
      refine g_iz_eq (((n + 1) : Nat) : Int) 73 (nI_ti (by omega)) d3_choose_62 rfl (fun c62 => absurd c62 (by omega)) (fun _ => ?_)
      refine g_lload d3_choose_65 rfl ?_
      refine g_lload d3_choose_67 rfl ?_
      refine g_lx_ge (((10 ^ (11 - ti) * (rc1 coin per fr fl wn (10 ^ m) (cm s k) (fnK cm fn s k) (nSb s k) (rD coin per fr ti fl wn cm (fnK cm fn) nSb m) s k left) (n + 1)) : Nat) : Int) (((10 ^ (11 - ti) * (fa (rc1 coin per fr fl wn (10 ^ m) (cm s k) (fnK cm fn s k) (nSb s k) (rD coin per fr ti fl wn cm (fnK cm fn) nSb m) s k left) n).1) : Nat) : Int) 83 (pk_lT (by omega)) (pk_lT (by omega)) d3_choose_69 d3_choose_70 rfl (fun _ => ?_) (fun c69 => absurd c69 (by omega))
      refine g_lo [(0, .ref 39), (1, .int (nI s)), (2, .int (nI k)), (3, .int (nI left)), (4, .long (lN (10 ^ (11 - ti) * (10 * 10 ^ m)))), (6, .long (lN (10 ^ (11 - ti) * (fa (rc1 coin per fr fl wn (10 ^ m) (cm s k) (fnK cm fn s k) (nSb s k) (rD coin per fr ti fl wn cm (fnK cm fn) nSb m) s k left) n).1))), (8, .int (nI (n + 1))), (9, .int (nI (pdb per left (n + 1))))] ⟨rfl, rfl, rfl, rfl, rfl, rfl, rfl, rfl, trivial⟩ ?_
      exact hE1
set_option maxHeartbeats 1000000 in
theorem r3_choose {l : Launch} {K : cK} {d : Nat} {I : wI} {L : wL} {R : wR} {dy : cH} (c0 fr ti se fl coin per fine : Nat) (hS : STA I c0 fr ti se fl coin per fine) (hp1 : 1 ≤ per) (hc1 : 1 ≤ coin) (wn : Bool) (hwn : I 39 6 = if wn = true then 1 else 0) (cm fn : Nat → Nat → Nat) (hcm : ∀ s k, cm s k ≤ 10) (hfn : ∀ s k, fn s k ≤ 99) (m s k left : Nat) (hms : s + m = ti) (hfs : fr ≤ s) (hk1 : 1 ≤ k) (hk2 : k ≤ 12) (hl : left ≤ 12) (hc : I 40 k = nI (cm s k)) (hf : I 41 k = nI (fnK cm fn s k)) (hnx : ∀ j q, 1 ≤ j → j ≤ 12 → q ≤ 12 → L 43 (13 * j + q) = lN (10 ^ (11 - ti) * (rD coin per fr ti fl wn cm (fnK cm fn) nSb m j q))) (hd : 3 ≤ d) : CE l K m3_choose d [.ref 39, .int (nI s), .int (nI k), .int (nI left)] (hp I L R dy) (.long (lN (10 ^ (11 - ti) * (rD coin per fr ti fl wn cm (fnK cm fn) nSb (m + 1) k left)))) (hp (uI I 39 7 (nI (rB2 coin per fr ti fl wn cm (fnK cm fn) nSb m k left))) L R dy) := by
  obtain ⟨u0, u1, u2, u3, u4, u5, u6, u7, u8, u9, u10, u11, u12, u13, u14, u15⟩ := id hS
  have hE : 0 < 10 ^ (11 - ti) := Nat.pow_pos (by decide)
  have hEw : 10 ^ (11 - s) = 10 ^ (11 - ti) * 10 ^ m := by rw [← Nat.pow_add]; congr 1; omega
  have hE12 : 10 ^ (12 - s) = 10 ^ (11 - ti) * (10 * 10 ^ m) := by rw [Nat.mul_comm 10, ← Nat.pow_succ, ← Nat.pow_add]; congr 1; omega
  have hEw9 : 10 ^ (11 - ti) * 10 ^ m ≤ 1000000000000 := by rw [← hEw]; exact pw12 (by omega)
  have hfK := fnK_le (cm := cm) hfn
  have hB : ∀ j q, 10 ^ (11 - ti) * (rD coin per fr ti fl wn cm (fnK cm fn) nSb m j q) ≤ 2000000000000000 := fun j q => by
    have z := rD_le coin per fr ti fl wn cm (fnK cm fn) nSb hcm hfK m j q
    have z2 := Nat.mul_le_mul_left (10 ^ (11 - ti)) z
    have z3 : 10 ^ (11 - ti) * (m * 99 * 10 ^ m) = m * 99 * (10 ^ (11 - ti) * 10 ^ m) := by rw [Nat.mul_left_comm]
    rw [z3] at z2
    have z4 : m * 99 * (10 ^ (11 - ti) * 10 ^ m) ≤ 1089 * 1000000000000 := Nat.mul_le_mul (by omega) hEw9
    omega
  have hvl : ∀ n, n ≤ 12 → 10 ^ (11 - ti) * (rc1 coin per fr fl wn (10 ^ m) (cm s k) (fnK cm fn s k) (nSb s k) (rD coin per fr ti fl wn cm (fnK cm fn) nSb m) s k left) n < 4000000000000000000 := fun n h => by
    have z := rc1_le (coin := coin) (per := per) (fr := fr) (fl := fl) (wn := wn) (w := 10 ^ m) (c := cm s k) (f := fnK cm fn s k) (sb := nSb s k) (nx := (rD coin per fr ti fl wn cm (fnK cm fn) nSb m)) (B := m * 99 * 10 ^ m) (hfK s k) (hcm s k) (fun j q => rD_le coin per fr ti fl wn cm (fnK cm fn) nSb hcm hfK m j q) s k left n
    have hp := prc_le (fr := fr) (s := s) u13 u12 h
    have z1 : 10 * 10 ^ m * prc coin fr fl s n ≤ 1170 * 10 ^ m := by rw [Nat.mul_assoc, Nat.mul_left_comm, Nat.mul_comm (1170)]; exact Nat.mul_le_mul_left _ (by omega)
    have z5 : m * 99 * 10 ^ m ≤ 1089 * 10 ^ m := Nat.mul_le_mul_right _ (by omega)
    have z2 := Nat.mul_le_mul_left (10 ^ (11 - ti)) (show (rc1 coin per fr fl wn (10 ^ m) (cm s k) (fnK cm fn s k) (nSb s k) (rD coin per fr ti fl wn cm (fnK cm fn) nSb m) s k left) n ≤ 13050 * 10 ^ m by omega)
    rw [Nat.mul_left_comm] at z2
    have z4 : 13050 * (10 ^ (11 - ti) * 10 ^ m) ≤ 13050 * 1000000000000 := Nat.mul_le_mul_left _ hEw9
    omega
  have hpb := pdb_le per left 0
  have hpr := prc_le (fr := fr) (s := s) (n := 0) u13 u12 (by omega)
  have es : ti - m = s := by omega
  have eB : rB2 coin per fr ti fl wn cm (fnK cm fn) nSb m k left = (fa (rc1 coin per fr fl wn (10 ^ m) (cm s k) (fnK cm fn s k) (nSb s k) (rD coin per fr ti fl wn cm (fnK cm fn) nSb m) s k left) 12).2.1 := by unfold rB2; rw [es]
  have eD : (rD coin per fr ti fl wn cm (fnK cm fn) nSb (m + 1) k left) = (fa (rc1 coin per fr fl wn (10 ^ m) (cm s k) (fnK cm fn s k) (nSb s k) (rD coin per fr ti fl wn cm (fnK cm fn) nSb m) s k left) 12).1 := by show (fa (rc1 coin per fr fl wn (10 ^ m) (cm (ti - m) k) (fnK cm fn (ti - m) k) (nSb (ti - m) k) (rD coin per fr ti fl wn cm (fnK cm fn) nSb m) (ti - m) k left) 12).1 = _; rw [es]
  rw [eB, eD]
  refine CC.of ok3_choose (Nat.le_of_ble_eq_true rfl) ?_
  refine g_getsN (j := 0) rfl (by decide +kernel) d3_choose_0 ?_
  refine g_bipushv (nI 12) d3_choose_3 rfl ?_
  refine g_iload_n d3_choose_5 rfl ?_
  refine g_isubN (by omega) d3_choose_6 ?_
  refine g_laSN ((12 - s)) rfl (rfl) (by omega) (by decide) d3_choose_7 ?_
  refine g_topL (lN ((10 ^ (11 - ti) * (10 * 10 ^ m)))) (by rw [tens_v _ (by omega)]; exact congrArg lN hE12) ?_
  refine g_lstore d3_choose_8 (by decide) ?_
  refine g_lconstv (0) d3_choose_10 rfl ?_
  refine g_lstore d3_choose_11 (by decide) ?_
  refine g_iconstv (nI 0) d3_choose_13 rfl ?_
  refine g_istore d3_choose_14 (by decide) ?_
  refine g_iload d3_choose_16 rfl ?_
  refine g_bipushv (nI 12) d3_choose_18 rfl ?_
  refine g_ic_gt (0) (12) 105 (by decide) (by decide) d3_choose_20 rfl (fun c20 => absurd c20 (by omega)) (fun _ => ?_)
  refine g_aload_n d3_choose_23 rfl ?_
  refine g_get fl3_29 d3_choose_24 f_39_1 ?_
  refine g_iload_n d3_choose_27 rfl ?_
  refine g_iload d3_choose_28 rfl ?_
  refine g_EV2 vm7_paidWith ml3_89 c_28 (r7_paid (I := I) (L := L) c0 fr ti se fl coin per fine hS left (0) hl (by omega) (Nat.le_refl 1)) (by omega) (Nat.le_of_ble_eq_true rfl) d3_choose_30 ?_
  refine g_istore d3_choose_33 (by decide) ?_
  refine g_lload d3_choose_35 rfl ?_
  refine g_aload_n d3_choose_37 rfl ?_
  refine g_get fl3_29 d3_choose_38 f_39_1 ?_
  refine g_iload d3_choose_41 rfl ?_
  refine g_iload_n d3_choose_43 rfl ?_
  refine g_EV2 vm7_price ml3_92 c_28 (r7_price (I := I) (L := L) c0 fr ti se fl coin per fine hS (0) s (by omega) (by omega) (Nat.le_refl 0)) (by omega) (Nat.le_of_ble_eq_true rfl) d3_choose_44 ?_
  refine g_i2lN (by omega) d3_choose_47 ?_
  refine g_lmul d3_choose_48 ?_
  refine g_topL (lN ((10 ^ (11 - ti) * (10 * 10 ^ m)) * (prc coin fr fl s (0)))) (lN_mul _ _) ?_
  refine g_aload_n d3_choose_49 rfl ?_
  refine g_iload_n d3_choose_50 rfl ?_
  refine g_iload_n d3_choose_51 rfl ?_
  refine g_iload d3_choose_52 rfl ?_
  refine g_EV3 vm3_meanBehind ml3_95 c_39 (r3_mean (I := I) (L := L) c0 fr ti se fl coin per fine hS hp1 wn hwn (10 ^ (11 - ti)) (10 ^ m) (cm s k) (fnK cm fn s k) (rD coin per fr ti fl wn cm (fnK cm fn) nSb m) hE hEw9 s k (by omega) hEw hk1 hk2 hc (hcm s k) hf (hfK s k) hnx hB (pdb per left (0)) hpb (Nat.le_refl 1)) (by omega) (Nat.le_of_ble_eq_true rfl) d3_choose_54 ?_
  refine g_ladd d3_choose_57 ?_
  refine g_topL (lN ((10 ^ (11 - ti) * (rc1 coin per fr fl wn (10 ^ m) (cm s k) (fnK cm fn s k) (nSb s k) (rD coin per fr ti fl wn cm (fnK cm fn) nSb m) s k left) (0)))) (by rw [lN_add]; exact congrArg lN (rc1_E (10 ^ (11 - ti)) (10 ^ m) (prc coin fr fl s (0)) _ _)) ?_
  refine g_lstore d3_choose_58 (by decide) ?_
  refine g_iload d3_choose_60 rfl ?_
  refine g_iz_eq (0) 73 (by decide) d3_choose_62 rfl (fun _ => ?_) (fun c62 => absurd c62 (by decide))
  refine g_lload d3_choose_73 rfl ?_
  refine g_lstore d3_choose_75 (by decide) ?_
  refine g_aload_n d3_choose_77 rfl ?_
  refine g_iload d3_choose_78 rfl ?_
  refine g_putIh _ fl3_60 d3_choose_80 f_39_7 s_39_7 ?_
  refine g_lo [(0, .ref 39), (1, .int (nI s)), (2, .int (nI k)), (3, .int (nI left)), (4, .long (lN (10 ^ (11 - ti) * (10 * 10 ^ m)))), (6, .long (lN (10 ^ (11 - ti) * (fa (rc1 coin per fr fl wn (10 ^ m) (cm s k) (fnK cm fn s k) (nSb s k) (rD coin per fr ti fl wn cm (fnK cm fn) nSb m) s k left) 0).1))), (8, .int (nI 0)), (9, .int (nI (pdb per left 0)))] ⟨rfl, rfl, rfl, rfl, rfl, rfl, rfl, rfl, trivial⟩ ?_
  exact r3_chE c0 fr ti se fl coin per fine hS hp1 hc1 wn hwn cm fn hcm hfn m s k left hms hfs hk1 hk2 hl hc hf hnx 0 (by omega) (by omega) (fun _ => r3_chL c0 fr ti se fl coin per fine hS hp1 hc1 wn hwn cm fn hcm hfn m s k left hms hfs hk1 hk2 hl hc hf hnx (by omega) 12 0 (by omega))
