set_option maxHeartbeats 200000 in
theorem r12_day_no1 {l : Launch} {K : cK} {d : Nat} {I : wI} {L : wL} {R : wR} {dy : cH} (z x : Int32) (hbad : ¬ (0 ≤ z.toInt ∧ z.toInt ≤ 1000000)) (hd : 2 ≤ d) : CE l K m12_day d [.ref 74, .int z, .int x] (hp I L R dy) (.int (-1)) (hp (uI (uI (uI I 74 0 0) 74 1 (-1)) 75 1 (I 75 1 + 1)) L R dy) := by
  refine CC.of ok12_day (Nat.le_of_ble_eq_true rfl) ?_
  refine g_aload_n d12_day_0 rfl ?_
  refine g_iconstv (nI 0) d12_day_1 rfl ?_
  refine g_putIh _ fl12_128 d12_day_2 f_74_0 s_74_0 ?_
  refine g_iload_n d12_day_5 rfl ?_
  refine g_i2l d12_day_6 ?_
  refine g_lconstv (0) d12_day_7 rfl ?_
  refine g_ldc2 d12_day_8 kl12_221 ?_
  refine g_ES3 sm12_in ml12_134 (r12_inI (ai := (0)) (bi := (1000000)) (i2l_int _) (by decide) (by decide) (Nat.le_refl 0)) (by omega) (Nat.le_of_ble_eq_true rfl) d12_day_11 ?_
  refine g_bnz 23 d12_day_14 rfl (fun c14 => ?_) (fun c14 => ?_)
  · exact absurd c14 hbad
  · refine g_aload_n d12_day_17 rfl ?_
    refine g_iconstv ((-1 : Int32)) d12_day_18 rfl ?_
    refine g_EV1 vm12_tell ml12_138 c_74 (r12_tell_no 1 (by decide) (by decide) (by decide) (by decide) (Nat.le_refl 0)) (by omega) (Nat.le_of_ble_eq_true rfl) d12_day_19 ?_
    exact g_iret rfl d12_day_22 (⟨rfl, rfl⟩)
set_option maxHeartbeats 200000 in
theorem r12_day_no2 {l : Launch} {K : cK} {d : Nat} {I : wI} {L : wL} {R : wR} {dy : cH} (nh : Nat) (hnh : I 76 2 = nI nh) (hnh6 : nh ≤ 6) (z x : Int32) (hz : 0 ≤ z.toInt ∧ z.toInt ≤ 1000000) (hbad : ¬ (x.toInt = -1 ∨ (0 ≤ x.toInt ∧ x.toInt < nh))) (hd : 2 ≤ d) : CE l K m12_day d [.ref 74, .int z, .int x] (hp I L R dy) (.int (-2)) (hp (uI (uI (uI I 74 0 0) 74 1 (-2)) 75 2 (I 75 2 + 1)) L R dy) := by
  refine CC.of ok12_day (Nat.le_of_ble_eq_true rfl) ?_
  refine g_aload_n d12_day_0 rfl ?_
  refine g_iconstv (nI 0) d12_day_1 rfl ?_
  refine g_putIh _ fl12_128 d12_day_2 f_74_0 s_74_0 ?_
  refine g_iload_n d12_day_5 rfl ?_
  refine g_i2l d12_day_6 ?_
  refine g_lconstv (0) d12_day_7 rfl ?_
  refine g_ldc2 d12_day_8 kl12_221 ?_
  refine g_ES3 sm12_in ml12_134 (r12_inI (ai := (0)) (bi := (1000000)) (i2l_int _) (by decide) (by decide) (Nat.le_refl 0)) (by omega) (Nat.le_of_ble_eq_true rfl) d12_day_11 ?_
  refine g_bnz 23 d12_day_14 rfl (fun _ => ?_) (fun c14 => absurd c14 (fun q => q hz))
  refine g_iload_n d12_day_23 rfl ?_
  refine g_iconstv ((-1 : Int32)) d12_day_24 rfl ?_
  refine g_ic_eq _ (-1) 43 (rfl) (by decide) d12_day_25 rfl (fun c25 => ?_) (fun c25 => ?_)
  · exact absurd (Or.inl c25) hbad
  · refine g_aload_n d12_day_28 rfl ?_
    refine g_iload_n d12_day_29 rfl ?_
    refine g_EV1 vm12_isHabit ml12_484 c_74 (r12_isHabitI  nh (by exact hnh) hnh6 (rfl) (Nat.le_refl 1)) (by omega) (Nat.le_of_ble_eq_true rfl) d12_day_30 ?_
    refine g_bnz 43 d12_day_33 rfl (fun c33 => ?_) (fun c33 => ?_)
    · exact absurd (Or.inr c33) hbad
    · refine g_aload_n d12_day_36 rfl ?_
      refine g_bipushv ((-2 : Int32)) d12_day_37 rfl ?_
      refine g_EV1 vm12_tell ml12_138 c_74 (r12_tell_no 2 (by decide) (by decide) (by decide) (by decide) (Nat.le_refl 0)) (by omega) (Nat.le_of_ble_eq_true rfl) d12_day_39 ?_
      exact g_iret rfl d12_day_42 (⟨rfl, rfl⟩)
theorem HO.bd {g : Nat → Int32} {x : Int32} {o : Option hbF} (h : HO g x o) : x.toInt = -1 ∨ ∃ k : Nat, x = nI k := by
  rcases h with ⟨_, rfl⟩ | ⟨k, F, _, rfl, _⟩
  · exact Or.inl rfl
  · exact Or.inr ⟨k, rfl⟩
set_option maxHeartbeats 800000 in
theorem r12_day_ok {l : Launch} {K : cK} {d : Nat} {I : wI} {L : wL} {R : wR} {dy : cH} (lf : lawF) (ha : inF I lf) (coin per fine s0 : Nat) (hT : RT I coin per fine s0) (n : Nat) (cF cT cS cL : Nat → Nat) (hCS : CS I n cF cT cS cL) (nh : Nat) (hnh : I 76 2 = nI nh) (hnh6 : nh ≤ 6) (o : Option hbF) (x : Int32) (hO : HO (I 76) x o) (hx : x.toInt = -1 ∨ (0 ≤ x.toInt ∧ x.toInt < nh)) (z0 : Nat) (hz : z0 ≤ 1000000) (hd : 8 ≤ d) : CX l K m12_day d [.ref 74, .int (nI z0), .int x] (hp I L R dy) (α := wI × wL) (fun v => FR [90, 92, 93, 101, 102, 103, 104] [0, 1, 28, 32, 35, 36, 43, 44, 57, 58] [87, 88, 89, 91, 94] [33, 34, 42, 53] I L v.1 v.2 ∧ v.1 74 1 = 0 ∧ v.1 74 57 = nI n ∧ v.1 74 58 = 1 ∧ (∀ q, q < n → DC v.1 q ((DP.mk (I 76) lf o coin per fine s0 z0 cF cT cS cL).dX q 12)) ∧ ∀ q, q < 12 → v.1 102 q = nI (if (DP.mk (I 76) lf o coin per fine s0 z0 cF cT cS cL).ca q = true then 1 else 0)) (fun _ => .int (nI ((DP.mk (I 76) lf o coin per fine s0 z0 cF cT cS cL).dn 12))) (fun v => hp v.1 v.2 R dy) := by
  obtain ⟨t1, t2, t3, t4, t5, t6, t7, t8, t9, t10, t11, t12⟩ := id hT
  obtain ⟨hn, hn6, hCs⟩ := id hCS
  have hT0 : ∀ (I2 : wI), I2 76 = I 76 → DT I2 (DP.mk (I 76) lf o coin per fine s0 z0 cF cT cS cL) n x := fun I2 e => by
    unfold DT; rw [e]; exact ⟨rfl, t1, t3, t4, t6, t7, t8, t9, t10, t11, by show z0 < 1000003; omega, hCS.of e, hO⟩
  refine CC.of ok12_day (Nat.le_of_ble_eq_true rfl) ?_
  by_cases hm1 : x.toInt = -1
  rotate_left
  obtain ⟨xk, rfl⟩ := hO.bd.resolve_left hm1
  rotate_left
  · skip
    refine g_aload_n d12_day_0 rfl ?_
    refine g_iconstv (nI 0) d12_day_1 rfl ?_
    refine g_putIh _ fl12_128 d12_day_2 f_74_0 s_74_0 ?_
    refine g_iload_n d12_day_5 rfl ?_
    refine g_i2lN (by omega) d12_day_6 ?_
    refine g_lconstv (0) d12_day_7 rfl ?_
    refine g_ldc2 d12_day_8 kl12_221 ?_
    refine g_ES3 sm12_in ml12_134 (r12_inI (vi := ((z0 : Nat) : Int)) (ai := (0)) (bi := (1000000)) (pk_lT (by omega)) (by decide) (by decide) (Nat.le_refl 0)) (by omega) (Nat.le_of_ble_eq_true rfl) d12_day_11 ?_
    refine g_bnz 23 d12_day_14 rfl (fun _ => ?_) (fun c14 => absurd c14 (fun q => q (by omega)))
    refine g_iload_n d12_day_23 rfl ?_
    refine g_iconstv ((-1 : Int32)) d12_day_24 rfl ?_
    refine g_ic_eq x.toInt (-1) 43 (rfl) (by decide) d12_day_25 rfl (fun _ => ?_) (fun c25 => absurd c25 (by omega))
    refine g_aload_n d12_day_43 rfl ?_
    refine g_VV0 vm12_askNow ml12_403 c_74 (r12_askNow (Nat.le_refl 1)) (by omega) (Nat.le_of_ble_eq_true rfl) d12_day_44 ?_
    refine g_aload_n d12_day_47 rfl ?_
    refine g_WV0 vm12_layComes ml12_421 c_74 (r12_layComes (I := (uI (uI (uI I 74 0 0) 74 35 (I 76 5)) 74 36 (I 76 11))) lf (by exact ha) (by exact t12) s0 (by exact t9) t10 t11 (Nat.le_refl 5)) (by omega) (Nat.le_of_ble_eq_true rfl) d12_day_48 (fun v hv => ?_)
    obtain ⟨I2, L2⟩ := v
    obtain ⟨hF, hLC⟩ := hv
    dsimp only at hF hLC ⊢
    have e76 : I2 76 = I 76 := hF.1 76 (by decide) (by decide)
    have e36 : I2 74 36 = I 76 11 := hF.2.1 36 (by decide)
    have e35 : I2 74 35 = I 76 5 := hF.2.1 35 (by decide)
    have e15 : I2 74 15 = 0 := (hF.2.1 15 (by decide)).trans t12
    have hF0 : FR [90, 92, 93, 101, 102, 103, 104] [0, 1, 28, 32, 35, 36, 43, 44, 57, 58] [87, 88, 89, 91, 94] [33, 34, 42, 53] I L I2 L2 := (((FR.rf.uf (j := 0) (by decide)).uf (j := 35) (by decide)).uf (j := 36) (by decide)).tr (hF.up (by decide) (by decide) (by decide) (by decide))
    refine g_aload_n d12_day_51 rfl ?_
    refine g_aload_n d12_day_52 rfl ?_
    refine g_get fl12_13 d12_day_53 f_74_3 ?_
    refine g_iconstv (nI 0) d12_day_56 rfl ?_
    refine g_ialdN (0) d12_day_57 a_76 (rfl) (by omega) (by decide) ?_
    refine g_topI (nI (n)) ((congrFun e76 0).trans hn) ?_
    refine g_putIh _ fl12_551 d12_day_58 f_74_57 s_74_57 ?_
    refine g_aload_n d12_day_61 rfl ?_
    refine g_iconstv (nI 1) d12_day_62 rfl ?_
    refine g_putZh _ fl12_554 d12_day_63 f_74_58 (by decide) s_74_58 ?_
    refine g_iconstv (nI 0) d12_day_66 rfl ?_
    refine g_istore_n d12_day_67 (by decide) ?_
    refine g_lo [(0, .ref 74), (1, .int (nI (z0))), (2, .int x), (3, .int (nI (0)))] ⟨rfl, rfl, rfl, rfl, trivial⟩ ?_
    have hask : askd (uI (uI I2 74 57 (nI n)) 74 58 1) (DP.mk (I 76) lf o coin per fine s0 z0 cF cT cS cL).lf := by show askd (uI (uI I2 74 57 (nI n)) 74 58 1) lf; unfold askd; rw [show uI (uI I2 74 57 (nI n)) 74 58 1 74 35 = I2 74 35 from rfl, show uI (uI I2 74 57 (nI n)) 74 58 1 76 = I2 76 from rfl, e35, e76]; exact ha
    refine r12_d1 (I := uI (uI I2 74 57 (nI n)) 74 58 1) (L := L2) (DP.mk (I 76) lf o coin per fine s0 z0 cF cT cS cL) n x (hT0 _ (by show I2 76 = _; exact e76)) hask (by exact e15) (by exact e36) rfl (nI z0) (by exact hLC) (by omega) (fun I3 L3 hF3 hz3 => ?_) n 0 _ L2 (by omega) FR.rf (fun q hq => by omega)
    have hF30 : FR [90, 92, 93, 101, 102, 103, 104] [0, 1, 28, 32, 35, 36, 43, 44, 57, 58] [87, 88, 89, 91, 94] [33, 34, 42, 53] I L I3 L3 := ((hF0.uf (by decide)).uf (by decide)).tr (hF3.up (by decide) (by decide) (by decide) (by decide))
    have f57 : I3 74 57 = nI n := hF3.2.1 57 (by decide)
    have f58 : I3 74 58 = 1 := hF3.2.1 58 (by decide)
    have f76 : I3 76 = I 76 := (hF3.1 76 (by decide) (by decide)).trans e76
    have f90 : I3 90 = I2 90 := hF3.1 90 (by decide) (by decide)
    have f35 : I3 74 35 = I 76 5 := (hF3.2.1 35 (by decide)).trans e35
    have f36 : I3 74 36 = I 76 11 := (hF3.2.1 36 (by decide)).trans e36
    have f15 : I3 74 15 = 0 := (hF3.2.1 15 (by decide)).trans e15
    refine g_iconstv (nI 0) d12_day_114 rfl ?_
    refine g_istore_n d12_day_115 (by decide) ?_
    refine g_lo [(0, .ref 74), (1, .int (nI (z0))), (2, .int x), (3, .int (nI (0)))] ⟨rfl, rfl, rfl, rfl, trivial⟩ ?_
    refine r12_d2 (I := I3) (L := L3) x (nI z0) (fun I4 hI4 hz4 => ?_) 18 0 I3 (by omega) (fun q _ => rfl) (fun q hq => by omega)
    refine g_aload_n d12_day_135 rfl ?_
    refine g_iload_n d12_day_136 rfl ?_
    refine g_i2lN (by omega) d12_day_137 ?_
    refine g_putLh _ fl12_542 d12_day_138 f_74_53 s_74_53 ?_
    refine g_aload_n d12_day_141 rfl ?_
    refine g_iconstv (nI 4) d12_day_142 rfl ?_
    refine g_EV1 vm12_term ml12_378 c_74 (r12_term (4) (by omega) (Nat.le_refl 0)) (by omega) (Nat.le_of_ble_eq_true rfl) d12_day_143 ?_
    refine g_topI (nI (s0)) (by rw [hI4 76 (by decide), f76]; exact t9) ?_
    refine g_istore_n d12_day_146 (by decide) ?_
    refine g_iconstv (nI 0) d12_day_147 rfl ?_
    refine g_istore d12_day_148 (by decide) ?_
    refine g_iconstv (nI 0) d12_day_150 rfl ?_
    refine g_istore d12_day_151 (by decide) ?_
    refine g_lo [(0, .ref 74), (2, .int x), (3, .int (nI ((DP.mk (I 76) lf o coin per fine s0 z0 cF cT cS cL).dk 0))), (4, .int (nI ((DP.mk (I 76) lf o coin per fine s0 z0 cF cT cS cL).dn 0))), (5, .int (nI (0)))] ⟨rfl, rfl, rfl, rfl, rfl, trivial⟩ ?_
    have hF4 : FR [90, 92, 93, 101, 102, 103, 104] [0, 1, 28, 32, 35, 36, 43, 44, 57, 58] [87, 88, 89, 91, 94] [33, 34, 42, 53] I L I4 L3 := hF30.tr ⟨fun q h1 _ => hI4 q (fun z => h1 (by simp [z])), fun j _ => by rw [hI4 74 (by decide)], fun _ _ _ => rfl, fun _ _ => rfl⟩
    have g76 : I4 76 = I 76 := (hI4 76 (by decide)).trans f76
    have g74 : I4 74 = I3 74 := hI4 74 (by decide)
    refine r12_d4 (I := I4) (L := uL L3 74 53 (lN z0)) (DP.mk (I 76) lf o coin per fine s0 z0 cF cT cS cL) n x (hT0 _ g76) (by show askd I4 lf; unfold askd; rw [g74, f35, g76]; exact ha) (by rw [g74]; exact f15) (by rw [g74]; exact f36) (by rw [g74]; exact f57) (by rw [hI4 90 (by decide), f90]; exact hLC.1) (fun q hq => by rw [hI4 104 (by decide)]; exact (hz3 q hq).1) (by omega) (fun I5 L5 hF5 hz5 hs5 => ?_) 12 0 _ _ (by omega) FR.rf uL_ss (fun q hq => ?_) (fun q hq => by omega)
    rotate_left
    · refine ⟨hz4 _ (by omega), hz4 _ (by omega), hz4 _ (by omega), ?_⟩
      rw [hI4 103 (by decide)]; exact (hz3 q hq).2
    have hF6 : FR [90, 92, 93, 101, 102, 103, 104] [0, 1, 28, 32, 35, 36, 43, 44, 57, 58] [87, 88, 89, 91, 94] [33, 34, 42, 53] I L I5 L5 := (hF4.ug (by decide)).tr (hF5.up (by decide) (by decide) (by decide) (by decide))
    have hdn9 := (DP.mk (I 76) lf o coin per fine s0 z0 cF cT cS cL).dn_le 12
    refine g_aload_n d12_day_301 rfl ?_
    refine g_iload d12_day_302 rfl ?_
    refine g_EV1 vm12_tell ml12_138 c_74 (r12_tell_ok (by rw [nI_ti (by omega)]; omega) (Nat.le_refl 0)) (by omega) (Nat.le_of_ble_eq_true rfl) d12_day_304 ?_
    exact g_iret rfl d12_day_307 (⟨(uI I5 74 1 0, L5), ⟨hF6.uf (by decide), by dsimp only; exact uI_ss, by dsimp only; rw [uI_fn (by decide), hF5.2.1 57 (by decide), g74]; exact f57, by dsimp only; rw [uI_fn (by decide), hF5.2.1 58 (by decide), g74]; exact f58, fun q hq => hz5 q hq, fun q hq => hs5 q hq⟩, rfl, rfl⟩)
  · skip
    have hxk : 0 ≤ (nI xk).toInt ∧ (nI xk).toInt < nh := hx.resolve_left hm1
    refine g_aload_n d12_day_0 rfl ?_
    refine g_iconstv (nI 0) d12_day_1 rfl ?_
    refine g_putIh _ fl12_128 d12_day_2 f_74_0 s_74_0 ?_
    refine g_iload_n d12_day_5 rfl ?_
    refine g_i2lN (by omega) d12_day_6 ?_
    refine g_lconstv (0) d12_day_7 rfl ?_
    refine g_ldc2 d12_day_8 kl12_221 ?_
    refine g_ES3 sm12_in ml12_134 (r12_inI (vi := ((z0 : Nat) : Int)) (ai := (0)) (bi := (1000000)) (pk_lT (by omega)) (by decide) (by decide) (Nat.le_refl 0)) (by omega) (Nat.le_of_ble_eq_true rfl) d12_day_11 ?_
    refine g_bnz 23 d12_day_14 rfl (fun _ => ?_) (fun c14 => absurd c14 (fun q => q (by omega)))
    refine g_iload_n d12_day_23 rfl ?_
    refine g_iconstv ((-1 : Int32)) d12_day_24 rfl ?_
    refine g_ic_eq (nI xk).toInt (-1) 43 (rfl) (by decide) d12_day_25 rfl (fun c25 => absurd c25 (by omega)) (fun _ => ?_)
    refine g_aload_n d12_day_28 rfl ?_
    refine g_iload_n d12_day_29 rfl ?_
    refine g_EV1 vm12_isHabit ml12_484 c_74 (r12_isHabitI  nh (by exact hnh) hnh6 (rfl) (Nat.le_refl 1)) (by omega) (Nat.le_of_ble_eq_true rfl) d12_day_30 ?_
    refine g_bnz 43 d12_day_33 rfl (fun _ => ?_) (fun c33 => absurd c33 (fun q => q (by omega)))
    refine g_aload_n d12_day_43 rfl ?_
    refine g_VV0 vm12_askNow ml12_403 c_74 (r12_askNow (Nat.le_refl 1)) (by omega) (Nat.le_of_ble_eq_true rfl) d12_day_44 ?_
    refine g_aload_n d12_day_47 rfl ?_
    refine g_WV0 vm12_layComes ml12_421 c_74 (r12_layComes (I := (uI (uI (uI I 74 0 0) 74 35 (I 76 5)) 74 36 (I 76 11))) lf (by exact ha) (by exact t12) s0 (by exact t9) t10 t11 (Nat.le_refl 5)) (by omega) (Nat.le_of_ble_eq_true rfl) d12_day_48 (fun v hv => ?_)
    obtain ⟨I2, L2⟩ := v
    obtain ⟨hF, hLC⟩ := hv
    dsimp only at hF hLC ⊢
    have e76 : I2 76 = I 76 := hF.1 76 (by decide) (by decide)
    have e36 : I2 74 36 = I 76 11 := hF.2.1 36 (by decide)
    have e35 : I2 74 35 = I 76 5 := hF.2.1 35 (by decide)
    have e15 : I2 74 15 = 0 := (hF.2.1 15 (by decide)).trans t12
    have hF0 : FR [90, 92, 93, 101, 102, 103, 104] [0, 1, 28, 32, 35, 36, 43, 44, 57, 58] [87, 88, 89, 91, 94] [33, 34, 42, 53] I L I2 L2 := (((FR.rf.uf (j := 0) (by decide)).uf (j := 35) (by decide)).uf (j := 36) (by decide)).tr (hF.up (by decide) (by decide) (by decide) (by decide))
    refine g_aload_n d12_day_51 rfl ?_
    refine g_aload_n d12_day_52 rfl ?_
    refine g_get fl12_13 d12_day_53 f_74_3 ?_
    refine g_iconstv (nI 0) d12_day_56 rfl ?_
    refine g_ialdN (0) d12_day_57 a_76 (rfl) (by omega) (by decide) ?_
    refine g_topI (nI (n)) ((congrFun e76 0).trans hn) ?_
    refine g_putIh _ fl12_551 d12_day_58 f_74_57 s_74_57 ?_
    refine g_aload_n d12_day_61 rfl ?_
    refine g_iconstv (nI 1) d12_day_62 rfl ?_
    refine g_putZh _ fl12_554 d12_day_63 f_74_58 (by decide) s_74_58 ?_
    refine g_iconstv (nI 0) d12_day_66 rfl ?_
    refine g_istore_n d12_day_67 (by decide) ?_
    refine g_lo [(0, .ref 74), (1, .int (nI (z0))), (2, .int (nI xk)), (3, .int (nI (0)))] ⟨rfl, rfl, rfl, rfl, trivial⟩ ?_
    have hask : askd (uI (uI I2 74 57 (nI n)) 74 58 1) (DP.mk (I 76) lf o coin per fine s0 z0 cF cT cS cL).lf := by show askd (uI (uI I2 74 57 (nI n)) 74 58 1) lf; unfold askd; rw [show uI (uI I2 74 57 (nI n)) 74 58 1 74 35 = I2 74 35 from rfl, show uI (uI I2 74 57 (nI n)) 74 58 1 76 = I2 76 from rfl, e35, e76]; exact ha
    refine r12_d1 (I := uI (uI I2 74 57 (nI n)) 74 58 1) (L := L2) (DP.mk (I 76) lf o coin per fine s0 z0 cF cT cS cL) n (nI xk) (hT0 _ (by show I2 76 = _; exact e76)) hask (by exact e15) (by exact e36) rfl (nI z0) (by exact hLC) (by omega) (fun I3 L3 hF3 hz3 => ?_) n 0 _ L2 (by omega) FR.rf (fun q hq => by omega)
    have hF30 : FR [90, 92, 93, 101, 102, 103, 104] [0, 1, 28, 32, 35, 36, 43, 44, 57, 58] [87, 88, 89, 91, 94] [33, 34, 42, 53] I L I3 L3 := ((hF0.uf (by decide)).uf (by decide)).tr (hF3.up (by decide) (by decide) (by decide) (by decide))
    have f57 : I3 74 57 = nI n := hF3.2.1 57 (by decide)
    have f58 : I3 74 58 = 1 := hF3.2.1 58 (by decide)
    have f76 : I3 76 = I 76 := (hF3.1 76 (by decide) (by decide)).trans e76
    have f90 : I3 90 = I2 90 := hF3.1 90 (by decide) (by decide)
    have f35 : I3 74 35 = I 76 5 := (hF3.2.1 35 (by decide)).trans e35
    have f36 : I3 74 36 = I 76 11 := (hF3.2.1 36 (by decide)).trans e36
    have f15 : I3 74 15 = 0 := (hF3.2.1 15 (by decide)).trans e15
    refine g_iconstv (nI 0) d12_day_114 rfl ?_
    refine g_istore_n d12_day_115 (by decide) ?_
    refine g_lo [(0, .ref 74), (1, .int (nI (z0))), (2, .int (nI xk)), (3, .int (nI (0)))] ⟨rfl, rfl, rfl, rfl, trivial⟩ ?_
    refine r12_d2 (I := I3) (L := L3) (nI xk) (nI z0) (fun I4 hI4 hz4 => ?_) 18 0 I3 (by omega) (fun q _ => rfl) (fun q hq => by omega)
    refine g_aload_n d12_day_135 rfl ?_
    refine g_iload_n d12_day_136 rfl ?_
    refine g_i2lN (by omega) d12_day_137 ?_
    refine g_putLh _ fl12_542 d12_day_138 f_74_53 s_74_53 ?_
    refine g_aload_n d12_day_141 rfl ?_
    refine g_iconstv (nI 4) d12_day_142 rfl ?_
    refine g_EV1 vm12_term ml12_378 c_74 (r12_term (4) (by omega) (Nat.le_refl 0)) (by omega) (Nat.le_of_ble_eq_true rfl) d12_day_143 ?_
    refine g_topI (nI (s0)) (by rw [hI4 76 (by decide), f76]; exact t9) ?_
    refine g_istore_n d12_day_146 (by decide) ?_
    refine g_iconstv (nI 0) d12_day_147 rfl ?_
    refine g_istore d12_day_148 (by decide) ?_
    refine g_iconstv (nI 0) d12_day_150 rfl ?_
    refine g_istore d12_day_151 (by decide) ?_
    refine g_lo [(0, .ref 74), (2, .int (nI xk)), (3, .int (nI ((DP.mk (I 76) lf o coin per fine s0 z0 cF cT cS cL).dk 0))), (4, .int (nI ((DP.mk (I 76) lf o coin per fine s0 z0 cF cT cS cL).dn 0))), (5, .int (nI (0)))] ⟨rfl, rfl, rfl, rfl, rfl, trivial⟩ ?_
    have hF4 : FR [90, 92, 93, 101, 102, 103, 104] [0, 1, 28, 32, 35, 36, 43, 44, 57, 58] [87, 88, 89, 91, 94] [33, 34, 42, 53] I L I4 L3 := hF30.tr ⟨fun q h1 _ => hI4 q (fun z => h1 (by simp [z])), fun j _ => by rw [hI4 74 (by decide)], fun _ _ _ => rfl, fun _ _ => rfl⟩
    have g76 : I4 76 = I 76 := (hI4 76 (by decide)).trans f76
    have g74 : I4 74 = I3 74 := hI4 74 (by decide)
    refine r12_d4 (I := I4) (L := uL L3 74 53 (lN z0)) (DP.mk (I 76) lf o coin per fine s0 z0 cF cT cS cL) n (nI xk) (hT0 _ g76) (by show askd I4 lf; unfold askd; rw [g74, f35, g76]; exact ha) (by rw [g74]; exact f15) (by rw [g74]; exact f36) (by rw [g74]; exact f57) (by rw [hI4 90 (by decide), f90]; exact hLC.1) (fun q hq => by rw [hI4 104 (by decide)]; exact (hz3 q hq).1) (by omega) (fun I5 L5 hF5 hz5 hs5 => ?_) 12 0 _ _ (by omega) FR.rf uL_ss (fun q hq => ?_) (fun q hq => by omega)
    rotate_left
    · refine ⟨hz4 _ (by omega), hz4 _ (by omega), hz4 _ (by omega), ?_⟩
      rw [hI4 103 (by decide)]; exact (hz3 q hq).2
    have hF6 : FR [90, 92, 93, 101, 102, 103, 104] [0, 1, 28, 32, 35, 36, 43, 44, 57, 58] [87, 88, 89, 91, 94] [33, 34, 42, 53] I L I5 L5 := (hF4.ug (by decide)).tr (hF5.up (by decide) (by decide) (by decide) (by decide))
    have hdn9 := (DP.mk (I 76) lf o coin per fine s0 z0 cF cT cS cL).dn_le 12
    refine g_aload_n d12_day_301 rfl ?_
    refine g_iload d12_day_302 rfl ?_
    refine g_EV1 vm12_tell ml12_138 c_74 (r12_tell_ok (by rw [nI_ti (by omega)]; omega) (Nat.le_refl 0)) (by omega) (Nat.le_of_ble_eq_true rfl) d12_day_304 ?_
    exact g_iret rfl d12_day_307 (⟨(uI I5 74 1 0, L5), ⟨hF6.uf (by decide), by dsimp only; exact uI_ss, by dsimp only; rw [uI_fn (by decide), hF5.2.1 57 (by decide), g74]; exact f57, by dsimp only; rw [uI_fn (by decide), hF5.2.1 58 (by decide), g74]; exact f58, fun q hq => hz5 q hq, fun q hq => hs5 q hq⟩, rfl, rfl⟩)
theorem lsub1_ti {n : Nat} (h : n < 1000) : (lN n - 1).toInt = (n : Int) - 1 := by
  rw [Int64.toInt_sub, pk_lT (by omega)]
  exact Int.bmod_eq_of_le (by show _ ≤ (n : Int) - 1; omega) (by show (n : Int) - 1 < _; omega)
set_option maxHeartbeats 200000 in
theorem r12_drawn_no {l : Launch} {K : cK} {d : Nat} {I : wI} {L : wL} {R : wR} {dy : cH} (dz : Bool) (hdz : I 74 58 = if dz = true then 1 else 0) (c w : Int32) (hbad : ¬ (dz = true ∧ 0 ≤ w.toInt ∧ w.toInt ≤ 3)) (hd : 2 ≤ d) : CE l K m12_drawn d [.ref 74, .int c, .int w] (hp I L R dy) (.int (-1)) (hp (uI I 74 0 0) L R dy) := by
  refine CC.of ok12_drawn (Nat.le_of_ble_eq_true rfl) ?_
  refine g_aload_n d12_drawn_0 rfl ?_
  refine g_iconstv (nI 0) d12_drawn_1 rfl ?_
  refine g_putIh _ fl12_128 d12_drawn_2 f_74_0 s_74_0 ?_
  refine g_aload_n d12_drawn_5 rfl ?_
  refine g_get fl12_554 d12_drawn_6 f_74_58 ?_
  refine g_topI ((if dz = true then 1 else 0)) (hdz) ?_
  refine g_bz 24 d12_drawn_9 rfl (fun c9 => ?_) (fun c9 => ?_)
  · refine g_iconstv ((-1 : Int32)) d12_drawn_24 rfl ?_
    exact g_iret rfl d12_drawn_25 (⟨rfl, rfl⟩)
  · refine g_iload_n d12_drawn_12 rfl ?_
    refine g_i2l d12_drawn_13 ?_
    refine g_lconstv (0) d12_drawn_14 rfl ?_
    refine g_ldc2 d12_drawn_15 kl12_165 ?_
    refine g_ES3 sm12_in ml12_134 (r12_inI (ai := (0)) (bi := (3)) (i2l_int _) (by decide) (by decide) (Nat.le_refl 0)) (by omega) (Nat.le_of_ble_eq_true rfl) d12_drawn_18 ?_
    refine g_bnz 26 d12_drawn_21 rfl (fun c21 => ?_) (fun c21 => ?_)
    · exact absurd ⟨c9, c21⟩ hbad
    · refine g_iconstv ((-1 : Int32)) d12_drawn_24 rfl ?_
      exact g_iret rfl d12_drawn_25 (⟨rfl, rfl⟩)
set_option maxHeartbeats 200000 in
theorem r12_drawn_s {l : Launch} {K : cK} {d : Nat} {I : wI} {L : wL} {R : wR} {dy : cH} (h58 : I 74 58 = 1) (j : Nat) (hj : j < 12) (hd : 2 ≤ d) : CE l K m12_drawn d [.ref 74, .int (nI j), .int (nI 3)] (hp I L R dy) (.int (I 102 j)) (hp (uI I 74 0 0) L R dy) := by
  refine CC.of ok12_drawn (Nat.le_of_ble_eq_true rfl) ?_
  refine g_aload_n d12_drawn_0 rfl ?_
  refine g_iconstv (nI 0) d12_drawn_1 rfl ?_
  refine g_putIh _ fl12_128 d12_drawn_2 f_74_0 s_74_0 ?_
  refine g_aload_n d12_drawn_5 rfl ?_
  refine g_get fl12_554 d12_drawn_6 f_74_58 ?_
  refine g_topI ((1 : Int32)) (h58) ?_
  refine g_iz_eq (1) 24 (by decide) d12_drawn_9 rfl (fun c9 => absurd c9 (by decide)) (fun _ => ?_)
  refine g_iload_n d12_drawn_12 rfl ?_
  refine g_i2lN (by omega) d12_drawn_13 ?_
  refine g_lconstv (0) d12_drawn_14 rfl ?_
  refine g_ldc2 d12_drawn_15 kl12_165 ?_
  refine g_ES3 sm12_in ml12_134 (r12_inI (vi := ((3 : Nat) : Int)) (ai := (0)) (bi := (3)) (pk_lT (by omega)) (by decide) (by decide) (Nat.le_refl 0)) (by omega) (Nat.le_of_ble_eq_true rfl) d12_drawn_18 ?_
  refine g_bnz 26 d12_drawn_21 rfl (fun _ => ?_) (fun c21 => absurd c21 (fun q => q (by omega)))
  refine g_iload_n d12_drawn_26 rfl ?_
  refine g_iconstv (nI 3) d12_drawn_27 rfl ?_
  refine g_ic_ne (3) (3) 49 (by decide) (by decide) d12_drawn_28 rfl (fun c28 => absurd c28 (by decide)) (fun _ => ?_)
  refine g_iload_n d12_drawn_31 rfl ?_
  refine g_ES1 sm12_isSlot ml12_144 (r12_isSlotI (xi := ((j : Nat) : Int)) (nI_ti (by omega)) (Nat.le_refl 1)) (by omega) (Nat.le_of_ble_eq_true rfl) d12_drawn_32 ?_
  refine g_bz 47 d12_drawn_35 rfl (fun c35 => absurd c35 (fun q => q (by omega))) (fun _ => ?_)
  refine g_aload_n d12_drawn_38 rfl ?_
  refine g_get fl12_119 d12_drawn_39 f_74_55 ?_
  refine g_iload_n d12_drawn_42 rfl ?_
  refine g_ialdN (j) d12_drawn_43 a_102 (rfl) (by omega) (by decide) ?_
  refine g_topI (I 102 (j)) rfl ?_
  refine g_goto 48 d12_drawn_44 rfl ?_
  exact g_iret rfl d12_drawn_48 (⟨rfl, rfl⟩)
set_option maxHeartbeats 200000 in
theorem r12_drawn_sn {l : Launch} {K : cK} {d : Nat} {I : wI} {L : wL} {R : wR} {dy : cH} (h58 : I 74 58 = 1) (x : Int32) (hx : ¬ (0 ≤ x.toInt ∧ x.toInt < 12)) (hd : 2 ≤ d) : CE l K m12_drawn d [.ref 74, .int x, .int (nI 3)] (hp I L R dy) (.int (-1)) (hp (uI I 74 0 0) L R dy) := by
  refine CC.of ok12_drawn (Nat.le_of_ble_eq_true rfl) ?_
  refine g_aload_n d12_drawn_0 rfl ?_
  refine g_iconstv (nI 0) d12_drawn_1 rfl ?_
  refine g_putIh _ fl12_128 d12_drawn_2 f_74_0 s_74_0 ?_
  refine g_aload_n d12_drawn_5 rfl ?_
  refine g_get fl12_554 d12_drawn_6 f_74_58 ?_
  refine g_topI ((1 : Int32)) (h58) ?_
  refine g_iz_eq (1) 24 (by decide) d12_drawn_9 rfl (fun c9 => absurd c9 (by decide)) (fun _ => ?_)
  refine g_iload_n d12_drawn_12 rfl ?_
  refine g_i2lN (by omega) d12_drawn_13 ?_
  refine g_lconstv (0) d12_drawn_14 rfl ?_
  refine g_ldc2 d12_drawn_15 kl12_165 ?_
  refine g_ES3 sm12_in ml12_134 (r12_inI (vi := ((3 : Nat) : Int)) (ai := (0)) (bi := (3)) (pk_lT (by omega)) (by decide) (by decide) (Nat.le_refl 0)) (by omega) (Nat.le_of_ble_eq_true rfl) d12_drawn_18 ?_
  refine g_bnz 26 d12_drawn_21 rfl (fun _ => ?_) (fun c21 => absurd c21 (fun q => q (by omega)))
  refine g_iload_n d12_drawn_26 rfl ?_
  refine g_iconstv (nI 3) d12_drawn_27 rfl ?_
  refine g_ic_ne (3) (3) 49 (by decide) (by decide) d12_drawn_28 rfl (fun c28 => absurd c28 (by decide)) (fun _ => ?_)
  refine g_iload_n d12_drawn_31 rfl ?_
  refine g_ES1 sm12_isSlot ml12_144 (r12_isSlotI  (rfl) (Nat.le_refl 1)) (by omega) (Nat.le_of_ble_eq_true rfl) d12_drawn_32 ?_
  refine g_bz 47 d12_drawn_35 rfl (fun c35 => ?_) (fun c35 => ?_)
  · refine g_iconstv ((-1 : Int32)) d12_drawn_47 rfl ?_
    exact g_iret rfl d12_drawn_48 (⟨rfl, rfl⟩)
  · exact absurd (by omega) hx
set_option maxHeartbeats 200000 in
theorem r12_drawn_c {l : Launch} {K : cK} {d : Nat} {I : wI} {L : wL} {R : wR} {dy : cH} (h58 : I 74 58 = 1) (n : Nat) (h57 : I 74 57 = nI n) (hn : n ≤ 6) (c : Nat) (hc : c < n) (w : Nat) (hw : w < 3) (hd : 2 ≤ d) : CE l K m12_drawn d [.ref 74, .int (nI c), .int (nI w)] (hp I L R dy) (.int (I 101 (3 * c + w))) (hp (uI I 74 0 0) L R dy) := by
  refine CC.of ok12_drawn (Nat.le_of_ble_eq_true rfl) ?_
  refine g_aload_n d12_drawn_0 rfl ?_
  refine g_iconstv (nI 0) d12_drawn_1 rfl ?_
  refine g_putIh _ fl12_128 d12_drawn_2 f_74_0 s_74_0 ?_
  refine g_aload_n d12_drawn_5 rfl ?_
  refine g_get fl12_554 d12_drawn_6 f_74_58 ?_
  refine g_topI ((1 : Int32)) (h58) ?_
  refine g_iz_eq (1) 24 (by decide) d12_drawn_9 rfl (fun c9 => absurd c9 (by decide)) (fun _ => ?_)
  refine g_iload_n d12_drawn_12 rfl ?_
  refine g_i2lN (by omega) d12_drawn_13 ?_
  refine g_lconstv (0) d12_drawn_14 rfl ?_
  refine g_ldc2 d12_drawn_15 kl12_165 ?_
  refine g_ES3 sm12_in ml12_134 (r12_inI (vi := ((w : Nat) : Int)) (ai := (0)) (bi := (3)) (pk_lT (by omega)) (by decide) (by decide) (Nat.le_refl 0)) (by omega) (Nat.le_of_ble_eq_true rfl) d12_drawn_18 ?_
  refine g_bnz 26 d12_drawn_21 rfl (fun _ => ?_) (fun c21 => absurd c21 (fun q => q (by omega)))
  refine g_iload_n d12_drawn_26 rfl ?_
  refine g_iconstv (nI 3) d12_drawn_27 rfl ?_
  refine g_ic_ne ((w : Nat) : Int) (3) 49 (nI_ti (by omega)) (by decide) d12_drawn_28 rfl (fun _ => ?_) (fun c28 => absurd c28 (by omega))
  refine g_iload_n d12_drawn_49 rfl ?_
  refine g_i2lN (by omega) d12_drawn_50 ?_
  refine g_lconstv (0) d12_drawn_51 rfl ?_
  refine g_aload_n d12_drawn_52 rfl ?_
  refine g_get fl12_551 d12_drawn_53 f_74_57 ?_
  refine g_topI (nI (n)) (h57) ?_
  refine g_i2lN (by omega) d12_drawn_56 ?_
  refine g_lconstv (1) d12_drawn_57 rfl ?_
  refine g_lsub d12_drawn_58 ?_
  refine g_topL (lN (n - 1)) (lN_sub (a := n) (b := 1) (by omega)) ?_
  refine g_ES3 sm12_in ml12_134 (r12_inI (vi := ((c : Nat) : Int)) (ai := (0)) (bi := ((n - 1 : Nat) : Int)) (pk_lT (by omega)) (by decide) (pk_lT (by omega)) (Nat.le_refl 0)) (by omega) (Nat.le_of_ble_eq_true rfl) d12_drawn_59 ?_
  refine g_bz 78 d12_drawn_62 rfl (fun c62 => absurd c62 (fun q => q (by omega))) (fun _ => ?_)
  refine g_aload_n d12_drawn_65 rfl ?_
  refine g_get fl12_116 d12_drawn_66 f_74_54 ?_
  refine g_iconstv (nI 3) d12_drawn_69 rfl ?_
  refine g_iload_n d12_drawn_70 rfl ?_
  refine g_imulN d12_drawn_71 ?_
  refine g_iload_n d12_drawn_72 rfl ?_
  refine g_iaddN d12_drawn_73 ?_
  refine g_ialdN (((3 * c) + w)) d12_drawn_74 a_101 (rfl) (by omega) (by decide) ?_
  refine g_topI (I 101 (((3 * c) + w))) rfl ?_
  refine g_goto 79 d12_drawn_75 rfl ?_
  exact g_iret rfl d12_drawn_79 (⟨rfl, rfl⟩)
set_option maxHeartbeats 200000 in
theorem r12_drawn_cn {l : Launch} {K : cK} {d : Nat} {I : wI} {L : wL} {R : wR} {dy : cH} (h58 : I 74 58 = 1) (n : Nat) (h57 : I 74 57 = nI n) (hn : n ≤ 6) (x : Int32) (hx : ¬ (0 ≤ x.toInt ∧ x.toInt < n)) (w : Nat) (hw : w < 3) (hd : 2 ≤ d) : CE l K m12_drawn d [.ref 74, .int x, .int (nI w)] (hp I L R dy) (.int (-1)) (hp (uI I 74 0 0) L R dy) := by
  refine CC.of ok12_drawn (Nat.le_of_ble_eq_true rfl) ?_
  refine g_aload_n d12_drawn_0 rfl ?_
  refine g_iconstv (nI 0) d12_drawn_1 rfl ?_
  refine g_putIh _ fl12_128 d12_drawn_2 f_74_0 s_74_0 ?_
  refine g_aload_n d12_drawn_5 rfl ?_
  refine g_get fl12_554 d12_drawn_6 f_74_58 ?_
  refine g_topI ((1 : Int32)) (h58) ?_
  refine g_iz_eq (1) 24 (by decide) d12_drawn_9 rfl (fun c9 => absurd c9 (by decide)) (fun _ => ?_)
  refine g_iload_n d12_drawn_12 rfl ?_
  refine g_i2lN (by omega) d12_drawn_13 ?_
  refine g_lconstv (0) d12_drawn_14 rfl ?_
  refine g_ldc2 d12_drawn_15 kl12_165 ?_
  refine g_ES3 sm12_in ml12_134 (r12_inI (vi := ((w : Nat) : Int)) (ai := (0)) (bi := (3)) (pk_lT (by omega)) (by decide) (by decide) (Nat.le_refl 0)) (by omega) (Nat.le_of_ble_eq_true rfl) d12_drawn_18 ?_
  refine g_bnz 26 d12_drawn_21 rfl (fun _ => ?_) (fun c21 => absurd c21 (fun q => q (by omega)))
  refine g_iload_n d12_drawn_26 rfl ?_
  refine g_iconstv (nI 3) d12_drawn_27 rfl ?_
  refine g_ic_ne ((w : Nat) : Int) (3) 49 (nI_ti (by omega)) (by decide) d12_drawn_28 rfl (fun _ => ?_) (fun c28 => absurd c28 (by omega))
  refine g_iload_n d12_drawn_49 rfl ?_
  refine g_i2l d12_drawn_50 ?_
  refine g_lconstv (0) d12_drawn_51 rfl ?_
  refine g_aload_n d12_drawn_52 rfl ?_
  refine g_get fl12_551 d12_drawn_53 f_74_57 ?_
  refine g_topI (nI (n)) (h57) ?_
  refine g_i2lN (by omega) d12_drawn_56 ?_
  refine g_lconstv (1) d12_drawn_57 rfl ?_
  refine g_lsub d12_drawn_58 ?_
  refine g_ES3 sm12_in ml12_134 (r12_inI (ai := (0)) (bi := ((n : Nat) : Int) - 1) (i2l_int _) (by decide) (lsub1_ti (by omega)) (Nat.le_refl 0)) (by omega) (Nat.le_of_ble_eq_true rfl) d12_drawn_59 ?_
  refine g_bz 78 d12_drawn_62 rfl (fun c62 => ?_) (fun c62 => ?_)
  · refine g_iconstv ((-1 : Int32)) d12_drawn_78 rfl ?_
    exact g_iret rfl d12_drawn_79 (⟨rfl, rfl⟩)
  · exact absurd (by omega) hx
/-- four bytes can be a car -/
abbrev cOK (a b c e : Int32) : Prop := 0 ≤ a.toInt ∧ a.toInt ≤ b.toInt ∧ b.toInt ≤ 11 ∧ 0 ≤ c.toInt ∧ c.toInt ≤ 1 ∧ 0 ≤ e.toInt ∧ e.toInt ≤ 9
abbrev rwT : Type := Nat × (Nat → Int32) × Nat × Nat
def rst (tp : Nat → Int32) (had k : Nat) (x : rwT) : rwT :=
  if k + 3 < had ∧ x.1 < 6 ∧ cOK (tp k) (tp (k + 1)) (tp (k + 2)) (tp (k + 3)) then
    (x.1 + 1, upd (upd (upd (upd x.2.1 (4 * x.1) (tp k)) (4 * x.1 + 1) (tp (k + 1))) (4 * x.1 + 2) (tp (k + 2))) (4 * x.1 + 3) (tp (k + 3)), x.2.2.1 + 1, x.2.2.2)
  else (x.1, x.2.1, x.2.2.1, x.2.2.2 + 1)
def rs (tp : Nat → Int32) (had n : Nat) (F : Nat → Int32) : Nat → rwT
  | 0 => (n, F, 0, 0)
  | m + 1 => rst tp had (4 * m) (rs tp had n F m)
theorem rs_le (tp : Nat → Int32) (had n : Nat) (F : Nat → Int32) (hn : n ≤ 6) : ∀ m, (rs tp had n F m).1 ≤ 6 ∧ (rs tp had n F m).2.2.1 ≤ m ∧ (rs tp had n F m).2.2.2 ≤ m
  | 0 => ⟨hn, Nat.le_refl _, Nat.le_refl _⟩
  | m + 1 => by
    obtain ⟨a, b, c⟩ := rs_le tp had n F hn m
    show (rst tp had (4 * m) _).1 ≤ 6 ∧ (rst tp had (4 * m) _).2.2.1 ≤ _ ∧ (rst tp had (4 * m) _).2.2.2 ≤ _
    unfold rst
    split
    · next h => exact ⟨h.2.1, Nat.succ_le_succ b, Nat.le_succ_of_le c⟩
    · exact ⟨a, Nat.le_succ_of_le b, Nat.succ_le_succ c⟩
set_option maxHeartbeats 1600000 in
theorem r12_rwL {l : Launch} {K : cK} {d : Nat} {I : wI} {L : wL} {R : wR} {dy : cH} {Q : Option Value → cH → Prop} (n had : Nat) (hn6 : n ≤ 6) (hhad : had ≤ 400) (tp : Nat → Int32) (htp : ∀ j, j < 400 → I 79 j = tp j) (F : Nat → Int32) (M : Nat) (hM1 : had ≤ 4 * M) (hM2 : M = 0 ∨ 4 * M < had + 4) (hd : 3 ≤ d)
    (kk : ∀ (I3 : wI), (∀ q, q ≠ 74 → q ≠ 76 → I3 q = I q) → (∀ j, j ≠ 6 → I3 74 j = I 74 j) → (∀ j, j ≠ 0 → (j < 14 ∨ 38 ≤ j) → I3 76 j = I 76 j) → (I3 76 0 = nI (rs tp had n F (M)).1 ∧ (∀ j, j < 24 → I3 76 (14 + j) = (rs tp had n F (M)).2.1 j) ∧ I3 74 6 = nI (rs tp had n F (M)).2.2.2) → GL l K m12_row d 0 0 106 [(0, .ref 74), (1, .int (nI (had))), (2, .int (nI ((rs tp had n F (M)).2.2.1)))] [] (hp I3 L R dy) Q) :
    ∀ (zn m : Nat) (I2 : wI), m + zn = M → (∀ q, q ≠ 74 → q ≠ 76 → I2 q = I q) → (∀ j, j ≠ 6 → I2 74 j = I 74 j) → (∀ j, j ≠ 0 → (j < 14 ∨ 38 ≤ j) → I2 76 j = I 76 j) → (I2 76 0 = nI (rs tp had n F (m)).1 ∧ (∀ j, j < 24 → I2 76 (14 + j) = (rs tp had n F (m)).2.1 j) ∧ I2 74 6 = nI (rs tp had n F (m)).2.2.2) → GL l K m12_row d 0 0 35 [(0, .ref 74), (1, .int (nI (had))), (2, .int (nI ((rs tp had n F (m)).2.2.1))), (3, .int (nI (4 * m)))] [] (hp I2 L R dy) Q := by
  intro zn
  induction zn with
  | zero =>
    intro m I2 hin hI hJ hG hN
    obtain rfl : M = m := by omega
    refine g_iload_n d12_row_35 rfl ?_
    refine g_iload_n d12_row_36 rfl ?_
    refine g_ic_ge (((4 * M) : Nat) : Int) ((had : Nat) : Int) 106 (nI_ti (by omega)) (nI_ti (by omega)) d12_row_37 rfl (fun _ => ?_) (fun c37 => absurd c37 (by omega))
    refine g_lo [(0, .ref 74), (1, .int (nI (had))), (2, .int (nI ((rs tp had n F (M)).2.2.1)))] ⟨rfl, rfl, rfl, trivial⟩ ?_
    exact kk I2 hI hJ hG hN
  | succ zn ih =>
    intro m I2 hin hI hJ hG hN
    obtain ⟨n1, n2, n3⟩ := hN
    obtain ⟨r1, r2, r3⟩ := rs_le tp had n F hn6 m
    have h4 : ¬ 4 * m + 3 < had ∨ (4 * m + 3 < had ∧ ¬ cOK (tp (4 * m)) (tp (4 * m + 1)) (tp (4 * m + 2)) (tp (4 * m + 3))) ∨ (4 * m + 3 < had ∧ cOK (tp (4 * m)) (tp (4 * m + 1)) (tp (4 * m + 2)) (tp (4 * m + 3)) ∧ ¬ (rs tp had n F (m)).1 < 6) ∨ (4 * m + 3 < had ∧ cOK (tp (4 * m)) (tp (4 * m + 1)) (tp (4 * m + 2)) (tp (4 * m + 3)) ∧ (rs tp had n F (m)).1 < 6) := by
      by_cases a : 4 * m + 3 < had
      · by_cases b : cOK (tp (4 * m)) (tp (4 * m + 1)) (tp (4 * m + 2)) (tp (4 * m + 3))
        · by_cases c : (rs tp had n F (m)).1 < 6
          · exact Or.inr (Or.inr (Or.inr ⟨a, b, c⟩))
          · exact Or.inr (Or.inr (Or.inl ⟨a, b, c⟩))
        · exact Or.inr (Or.inl ⟨a, b⟩)
      · exact Or.inl a
    rcases h4 with h3 | ⟨h3, hok⟩ | ⟨h3, hok, h6⟩ | ⟨h3, hok, h6⟩
    · have hno : ¬ (4 * m + 3 < had ∧ (rs tp had n F (m)).1 < 6 ∧ cOK (tp (4 * m)) (tp (4 * m + 1)) (tp (4 * m + 2)) (tp (4 * m + 3))) := fun z => h3 z.1
      have hst : rst tp had (4 * m) (rs tp had n F (m)) = ((rs tp had n F (m)).1, (rs tp had n F (m)).2.1, (rs tp had n F (m)).2.2.1, (rs tp had n F (m)).2.2.2 + 1) := by unfold rst; exact if_neg hno
      refine g_iload_n d12_row_35 rfl ?_
      refine g_iload_n d12_row_36 rfl ?_
      refine g_ic_ge (((4 * m) : Nat) : Int) ((had : Nat) : Int) 106 (nI_ti (by omega)) (nI_ti (by omega)) d12_row_37 rfl (fun c37 => absurd c37 (by omega)) (fun _ => ?_)
      refine g_iload_n d12_row_40 rfl ?_
      refine g_iconstv (nI 3) d12_row_41 rfl ?_
      refine g_iaddN d12_row_42 ?_
      refine g_iload_n d12_row_43 rfl ?_
      refine g_ic_ge ((((4 * m) + 3) : Nat) : Int) ((had : Nat) : Int) 90 (nI_ti (by omega)) (nI_ti (by omega)) d12_row_44 rfl (fun _ => ?_) (fun c44 => absurd c44 (by omega))
      refine g_aload_n d12_row_90 rfl ?_
      refine g_dup d12_row_91 rfl ?_
      refine g_get fl12_182 d12_row_92 f_74_6 ?_
      refine g_topI (nI ((rs tp had n F (m)).2.2.2)) (n3) ?_
      refine g_iconstv (nI 1) d12_row_95 rfl ?_
      refine g_iaddN d12_row_96 ?_
      refine g_putIh _ fl12_182 d12_row_97 f_74_6 s_74_6 ?_
      refine g_iinc (nI (4 * (m + 1))) d12_row_100 rfl ((nI_add (4 * m) 4).trans (by congr 1)) (by decide) ?_
      refine g_goto 35 d12_row_103 rfl ?_
      refine g_lo [(0, .ref 74), (1, .int (nI (had))), (2, .int (nI ((rs tp had n F (m + 1)).2.2.1))), (3, .int (nI (4 * (m + 1))))] ⟨rfl, rfl, by show _ = some (Value.int (nI (rst tp had (4 * m) (rs tp had n F (m))).2.2.1)); rw [hst]; rfl, congrArg (fun z => some (Value.int (nI z))) (by omega), trivial⟩ ?_
      refine ih (m + 1) _ (by omega) (fun q h1 h2 => by rw [uI_n h1]; exact hI q h1 h2) (fun j h1 => by rw [uI_fn h1]; exact hJ j h1) (fun j h1 h2 => hG j h1 h2) ?_
      show I2 76 0 = nI (rst tp had (4 * m) (rs tp had n F (m))).1 ∧ (∀ j, j < 24 → I2 76 (14 + j) = (rst tp had (4 * m) (rs tp had n F (m))).2.1 j) ∧ _ = nI (rst tp had (4 * m) (rs tp had n F (m))).2.2.2
      rw [hst]
      exact ⟨n1, n2, uI_ss⟩
    · have hno : ¬ (4 * m + 3 < had ∧ (rs tp had n F (m)).1 < 6 ∧ cOK (tp (4 * m)) (tp (4 * m + 1)) (tp (4 * m + 2)) (tp (4 * m + 3))) := fun z => hok z.2.2
      have hst : rst tp had (4 * m) (rs tp had n F (m)) = ((rs tp had n F (m)).1, (rs tp had n F (m)).2.1, (rs tp had n F (m)).2.2.1, (rs tp had n F (m)).2.2.2 + 1) := by unfold rst; exact if_neg hno
      refine g_iload_n d12_row_35 rfl ?_
      refine g_iload_n d12_row_36 rfl ?_
      refine g_ic_ge (((4 * m) : Nat) : Int) ((had : Nat) : Int) 106 (nI_ti (by omega)) (nI_ti (by omega)) d12_row_37 rfl (fun c37 => absurd c37 (by omega)) (fun _ => ?_)
      refine g_iload_n d12_row_40 rfl ?_
      refine g_iconstv (nI 3) d12_row_41 rfl ?_
      refine g_iaddN d12_row_42 ?_
      refine g_iload_n d12_row_43 rfl ?_
      refine g_ic_ge ((((4 * m) + 3) : Nat) : Int) ((had : Nat) : Int) 90 (nI_ti (by omega)) (nI_ti (by omega)) d12_row_44 rfl (fun c44 => absurd c44 (by omega)) (fun _ => ?_)
      refine g_aload_n d12_row_47 rfl ?_
      refine g_aload_n d12_row_48 rfl ?_
      refine g_get fl12_23 d12_row_49 f_74_7 ?_
      refine g_iload_n d12_row_52 rfl ?_
      refine g_ialdN ((4 * m)) d12_row_53 a_79 (rfl) (by omega) (by decide) ?_
      refine g_topI (tp (4 * m)) (by rw [hI 79 (by decide) (by decide)]; exact htp _ (by omega)) ?_
      refine g_aload_n d12_row_54 rfl ?_
      refine g_get fl12_23 d12_row_55 f_74_7 ?_
      refine g_iload_n d12_row_58 rfl ?_
      refine g_iconstv (nI 1) d12_row_59 rfl ?_
      refine g_iaddN d12_row_60 ?_
      refine g_ialdN (((4 * m) + 1)) d12_row_61 a_79 (rfl) (by omega) (by decide) ?_
      refine g_topI (tp (4 * m + 1)) (by rw [hI 79 (by decide) (by decide)]; exact htp _ (by omega)) ?_
      refine g_aload_n d12_row_62 rfl ?_
      refine g_get fl12_23 d12_row_63 f_74_7 ?_
      refine g_iload_n d12_row_66 rfl ?_
      refine g_iconstv (nI 2) d12_row_67 rfl ?_
      refine g_iaddN d12_row_68 ?_
      refine g_ialdN (((4 * m) + 2)) d12_row_69 a_79 (rfl) (by omega) (by decide) ?_
      refine g_topI (tp (4 * m + 2)) (by rw [hI 79 (by decide) (by decide)]; exact htp _ (by omega)) ?_
      refine g_aload_n d12_row_70 rfl ?_
      refine g_get fl12_23 d12_row_71 f_74_7 ?_
      refine g_iload_n d12_row_74 rfl ?_
      refine g_iconstv (nI 3) d12_row_75 rfl ?_
      refine g_iaddN d12_row_76 ?_
      refine g_ialdN (((4 * m) + 3)) d12_row_77 a_79 (rfl) (by omega) (by decide) ?_
      refine g_topI (tp (4 * m + 3)) (by rw [hI 79 (by decide) (by decide)]; exact htp _ (by omega)) ?_
      refine g_EV4 vm12_car1 ml12_150 c_74 (r12_car1_bad (tp (4 * m)) (tp (4 * m + 1)) (tp (4 * m + 2)) (tp (4 * m + 3)) hok (Nat.le_refl 2)) (by omega) (Nat.le_of_ble_eq_true rfl) d12_row_78 ?_
      refine g_iz_lt (-1) 90 (by decide) d12_row_81 rfl (fun _ => ?_) (fun c81 => absurd c81 (by decide))
      refine g_aload_n d12_row_90 rfl ?_
      refine g_dup d12_row_91 rfl ?_
      refine g_get fl12_182 d12_row_92 f_74_6 ?_
      refine g_topI (nI ((rs tp had n F (m)).2.2.2)) (n3) ?_
      refine g_iconstv (nI 1) d12_row_95 rfl ?_
      refine g_iaddN d12_row_96 ?_
      refine g_putIh _ fl12_182 d12_row_97 f_74_6 s_74_6 ?_
      refine g_iinc (nI (4 * (m + 1))) d12_row_100 rfl ((nI_add (4 * m) 4).trans (by congr 1)) (by decide) ?_
      refine g_goto 35 d12_row_103 rfl ?_
      refine g_lo [(0, .ref 74), (1, .int (nI (had))), (2, .int (nI ((rs tp had n F (m + 1)).2.2.1))), (3, .int (nI (4 * (m + 1))))] ⟨rfl, rfl, by show _ = some (Value.int (nI (rst tp had (4 * m) (rs tp had n F (m))).2.2.1)); rw [hst]; rfl, congrArg (fun z => some (Value.int (nI z))) (by omega), trivial⟩ ?_
      refine ih (m + 1) _ (by omega) (fun q h1 h2 => by rw [uI_n h1]; exact hI q h1 h2) (fun j h1 => by rw [uI_fn h1]; exact hJ j h1) (fun j h1 h2 => hG j h1 h2) ?_
      show I2 76 0 = nI (rst tp had (4 * m) (rs tp had n F (m))).1 ∧ (∀ j, j < 24 → I2 76 (14 + j) = (rst tp had (4 * m) (rs tp had n F (m))).2.1 j) ∧ _ = nI (rst tp had (4 * m) (rs tp had n F (m))).2.2.2
      rw [hst]
      exact ⟨n1, n2, uI_ss⟩
    · have hno : ¬ (4 * m + 3 < had ∧ (rs tp had n F (m)).1 < 6 ∧ cOK (tp (4 * m)) (tp (4 * m + 1)) (tp (4 * m + 2)) (tp (4 * m + 3))) := fun z => h6 z.2.1
      have hst : rst tp had (4 * m) (rs tp had n F (m)) = ((rs tp had n F (m)).1, (rs tp had n F (m)).2.1, (rs tp had n F (m)).2.2.1, (rs tp had n F (m)).2.2.2 + 1) := by unfold rst; exact if_neg hno
      refine g_iload_n d12_row_35 rfl ?_
      refine g_iload_n d12_row_36 rfl ?_
      refine g_ic_ge (((4 * m) : Nat) : Int) ((had : Nat) : Int) 106 (nI_ti (by omega)) (nI_ti (by omega)) d12_row_37 rfl (fun c37 => absurd c37 (by omega)) (fun _ => ?_)
      refine g_iload_n d12_row_40 rfl ?_
      refine g_iconstv (nI 3) d12_row_41 rfl ?_
      refine g_iaddN d12_row_42 ?_
      refine g_iload_n d12_row_43 rfl ?_
      refine g_ic_ge ((((4 * m) + 3) : Nat) : Int) ((had : Nat) : Int) 90 (nI_ti (by omega)) (nI_ti (by omega)) d12_row_44 rfl (fun c44 => absurd c44 (by omega)) (fun _ => ?_)
      refine g_aload_n d12_row_47 rfl ?_
      refine g_aload_n d12_row_48 rfl ?_
      refine g_get fl12_23 d12_row_49 f_74_7 ?_
      refine g_iload_n d12_row_52 rfl ?_
      refine g_ialdN ((4 * m)) d12_row_53 a_79 (rfl) (by omega) (by decide) ?_
      refine g_topI (tp (4 * m)) (by rw [hI 79 (by decide) (by decide)]; exact htp _ (by omega)) ?_
      refine g_aload_n d12_row_54 rfl ?_
      refine g_get fl12_23 d12_row_55 f_74_7 ?_
      refine g_iload_n d12_row_58 rfl ?_
      refine g_iconstv (nI 1) d12_row_59 rfl ?_
      refine g_iaddN d12_row_60 ?_
      refine g_ialdN (((4 * m) + 1)) d12_row_61 a_79 (rfl) (by omega) (by decide) ?_
      refine g_topI (tp (4 * m + 1)) (by rw [hI 79 (by decide) (by decide)]; exact htp _ (by omega)) ?_
      refine g_aload_n d12_row_62 rfl ?_
      refine g_get fl12_23 d12_row_63 f_74_7 ?_
      refine g_iload_n d12_row_66 rfl ?_
      refine g_iconstv (nI 2) d12_row_67 rfl ?_
      refine g_iaddN d12_row_68 ?_
      refine g_ialdN (((4 * m) + 2)) d12_row_69 a_79 (rfl) (by omega) (by decide) ?_
      refine g_topI (tp (4 * m + 2)) (by rw [hI 79 (by decide) (by decide)]; exact htp _ (by omega)) ?_
      refine g_aload_n d12_row_70 rfl ?_
      refine g_get fl12_23 d12_row_71 f_74_7 ?_
      refine g_iload_n d12_row_74 rfl ?_
      refine g_iconstv (nI 3) d12_row_75 rfl ?_
      refine g_iaddN d12_row_76 ?_
      refine g_ialdN (((4 * m) + 3)) d12_row_77 a_79 (rfl) (by omega) (by decide) ?_
      refine g_topI (tp (4 * m + 3)) (by rw [hI 79 (by decide) (by decide)]; exact htp _ (by omega)) ?_
      refine g_EV4 vm12_car1 ml12_150 c_74 (r12_car1_full (tp (4 * m)) (tp (4 * m + 1)) (tp (4 * m + 2)) (tp (4 * m + 3)) hok (n1.trans (by congr 1; omega)) (Nat.le_refl 2)) (by omega) (Nat.le_of_ble_eq_true rfl) d12_row_78 ?_
      refine g_iz_lt (-5) 90 (by decide) d12_row_81 rfl (fun _ => ?_) (fun c81 => absurd c81 (by decide))
      refine g_aload_n d12_row_90 rfl ?_
      refine g_dup d12_row_91 rfl ?_
      refine g_get fl12_182 d12_row_92 f_74_6 ?_
      refine g_topI (nI ((rs tp had n F (m)).2.2.2)) (n3) ?_
      refine g_iconstv (nI 1) d12_row_95 rfl ?_
      refine g_iaddN d12_row_96 ?_
      refine g_putIh _ fl12_182 d12_row_97 f_74_6 s_74_6 ?_
      refine g_iinc (nI (4 * (m + 1))) d12_row_100 rfl ((nI_add (4 * m) 4).trans (by congr 1)) (by decide) ?_
      refine g_goto 35 d12_row_103 rfl ?_
      refine g_lo [(0, .ref 74), (1, .int (nI (had))), (2, .int (nI ((rs tp had n F (m + 1)).2.2.1))), (3, .int (nI (4 * (m + 1))))] ⟨rfl, rfl, by show _ = some (Value.int (nI (rst tp had (4 * m) (rs tp had n F (m))).2.2.1)); rw [hst]; rfl, congrArg (fun z => some (Value.int (nI z))) (by omega), trivial⟩ ?_
      refine ih (m + 1) _ (by omega) (fun q h1 h2 => by rw [uI_n h1]; exact hI q h1 h2) (fun j h1 => by rw [uI_fn h1]; exact hJ j h1) (fun j h1 h2 => hG j h1 h2) ?_
      show I2 76 0 = nI (rst tp had (4 * m) (rs tp had n F (m))).1 ∧ (∀ j, j < 24 → I2 76 (14 + j) = (rst tp had (4 * m) (rs tp had n F (m))).2.1 j) ∧ _ = nI (rst tp had (4 * m) (rs tp had n F (m))).2.2.2
      rw [hst]
      exact ⟨n1, n2, uI_ss⟩
    · have hst : rst tp had (4 * m) (rs tp had n F (m)) = ((rs tp had n F (m)).1 + 1, upd (upd (upd (upd (rs tp had n F (m)).2.1 (4 * (rs tp had n F (m)).1) (tp (4 * m))) (4 * (rs tp had n F (m)).1 + 1) (tp (4 * m + 1))) (4 * (rs tp had n F (m)).1 + 2) (tp (4 * m + 2))) (4 * (rs tp had n F (m)).1 + 3) (tp (4 * m + 3)), (rs tp had n F (m)).2.2.1 + 1, (rs tp had n F (m)).2.2.2) := by unfold rst; exact if_pos ⟨h3, h6, hok⟩
      refine g_iload_n d12_row_35 rfl ?_
      refine g_iload_n d12_row_36 rfl ?_
      refine g_ic_ge (((4 * m) : Nat) : Int) ((had : Nat) : Int) 106 (nI_ti (by omega)) (nI_ti (by omega)) d12_row_37 rfl (fun c37 => absurd c37 (by omega)) (fun _ => ?_)
      refine g_iload_n d12_row_40 rfl ?_
      refine g_iconstv (nI 3) d12_row_41 rfl ?_
      refine g_iaddN d12_row_42 ?_
      refine g_iload_n d12_row_43 rfl ?_
      refine g_ic_ge ((((4 * m) + 3) : Nat) : Int) ((had : Nat) : Int) 90 (nI_ti (by omega)) (nI_ti (by omega)) d12_row_44 rfl (fun c44 => absurd c44 (by omega)) (fun _ => ?_)
      refine g_aload_n d12_row_47 rfl ?_
      refine g_aload_n d12_row_48 rfl ?_
      refine g_get fl12_23 d12_row_49 f_74_7 ?_
      refine g_iload_n d12_row_52 rfl ?_
      refine g_ialdN ((4 * m)) d12_row_53 a_79 (rfl) (by omega) (by decide) ?_
      refine g_topI (tp (4 * m)) (by rw [hI 79 (by decide) (by decide)]; exact htp _ (by omega)) ?_
      refine g_aload_n d12_row_54 rfl ?_
      refine g_get fl12_23 d12_row_55 f_74_7 ?_
      refine g_iload_n d12_row_58 rfl ?_
      refine g_iconstv (nI 1) d12_row_59 rfl ?_
      refine g_iaddN d12_row_60 ?_
      refine g_ialdN (((4 * m) + 1)) d12_row_61 a_79 (rfl) (by omega) (by decide) ?_
      refine g_topI (tp (4 * m + 1)) (by rw [hI 79 (by decide) (by decide)]; exact htp _ (by omega)) ?_
      refine g_aload_n d12_row_62 rfl ?_
      refine g_get fl12_23 d12_row_63 f_74_7 ?_
      refine g_iload_n d12_row_66 rfl ?_
      refine g_iconstv (nI 2) d12_row_67 rfl ?_
      refine g_iaddN d12_row_68 ?_
      refine g_ialdN (((4 * m) + 2)) d12_row_69 a_79 (rfl) (by omega) (by decide) ?_
      refine g_topI (tp (4 * m + 2)) (by rw [hI 79 (by decide) (by decide)]; exact htp _ (by omega)) ?_
      refine g_aload_n d12_row_70 rfl ?_
      refine g_get fl12_23 d12_row_71 f_74_7 ?_
      refine g_iload_n d12_row_74 rfl ?_
      refine g_iconstv (nI 3) d12_row_75 rfl ?_
      refine g_iaddN d12_row_76 ?_
      refine g_ialdN (((4 * m) + 3)) d12_row_77 a_79 (rfl) (by omega) (by decide) ?_
      refine g_topI (tp (4 * m + 3)) (by rw [hI 79 (by decide) (by decide)]; exact htp _ (by omega)) ?_
      refine g_EV4 vm12_car1 ml12_150 c_74 (r12_car1_ok (tp (4 * m)) (tp (4 * m + 1)) (tp (4 * m + 2)) (tp (4 * m + 3)) hok (rs tp had n F (m)).1 n1 h6 (Nat.le_refl 2)) (by omega) (Nat.le_of_ble_eq_true rfl) d12_row_78 ?_
      refine g_iz_lt (((rs tp had n F (m)).1 : Nat) : Int) 90 (nI_ti (by omega)) d12_row_81 rfl (fun c81 => absurd c81 (by omega)) (fun _ => ?_)
      refine g_iincN d12_row_84 rfl (by decide) ?_
      refine g_goto 100 d12_row_87 rfl ?_
      refine g_iinc (nI (4 * (m + 1))) d12_row_100 rfl ((nI_add (4 * m) 4).trans (by congr 1)) (by decide) ?_
      refine g_goto 35 d12_row_103 rfl ?_
      refine g_lo [(0, .ref 74), (1, .int (nI (had))), (2, .int (nI ((rs tp had n F (m + 1)).2.2.1))), (3, .int (nI (4 * (m + 1))))] ⟨rfl, rfl, by show _ = some (Value.int (nI (rst tp had (4 * m) (rs tp had n F (m))).2.2.1)); rw [hst]; rfl, congrArg (fun z => some (Value.int (nI z))) (by omega), trivial⟩ ?_
      refine ih (m + 1) (uI (uI (uI (uI (uI I2 76 (14 + 4 * (rs tp had n F (m)).1) (tp (4 * m))) 76 (14 + 4 * (rs tp had n F (m)).1 + 1) (tp (4 * m + 1))) 76 (14 + 4 * (rs tp had n F (m)).1 + 2) (tp (4 * m + 2))) 76 (14 + 4 * (rs tp had n F (m)).1 + 3) (tp (4 * m + 3))) 76 0 (nI ((rs tp had n F (m)).1 + 1))) (by omega) (fun q h1 h2 => by rw [uI_n h2, uI_n h2, uI_n h2, uI_n h2, uI_n h2]; exact hI q h1 h2) (fun j h1 => hJ j h1) (fun j h1 h2 => by rw [uI_sn (by omega), uI_sn (by omega), uI_sn (by omega), uI_sn (by omega), uI_sn (by omega)]; exact hG j h1 h2) ?_
      show _ = nI (rst tp had (4 * m) (rs tp had n F (m))).1 ∧ (∀ j, j < 24 → _ = (rst tp had (4 * m) (rs tp had n F (m))).2.1 j) ∧ _ = nI (rst tp had (4 * m) (rs tp had n F (m))).2.2.2
      rw [hst]
      refine ⟨uI_ss, fun j hj => ?_, n3⟩
      show (uI (uI (uI (uI (uI I2 76 (14 + 4 * (rs tp had n F (m)).1) (tp (4 * m))) 76 (14 + 4 * (rs tp had n F (m)).1 + 1) (tp (4 * m + 1))) 76 (14 + 4 * (rs tp had n F (m)).1 + 2) (tp (4 * m + 2))) 76 (14 + 4 * (rs tp had n F (m)).1 + 3) (tp (4 * m + 3))) 76 0 (nI ((rs tp had n F (m)).1 + 1))) 76 (14 + j) = upd (upd (upd (upd (rs tp had n F (m)).2.1 (4 * (rs tp had n F (m)).1) (tp (4 * m))) (4 * (rs tp had n F (m)).1 + 1) (tp (4 * m + 1))) (4 * (rs tp had n F (m)).1 + 2) (tp (4 * m + 2))) (4 * (rs tp had n F (m)).1 + 3) (tp (4 * m + 3)) j
      rw [uI_sn (by omega)]
      by_cases e3 : j = 4 * (rs tp had n F (m)).1 + 3
      · subst e3; rw [show 14 + (4 * (rs tp had n F (m)).1 + 3) = 14 + 4 * (rs tp had n F (m)).1 + 3 by omega, uI_ss, pk_us]
      · rw [uI_sn (by omega), pk_un e3]
        by_cases e2 : j = 4 * (rs tp had n F (m)).1 + 2
        · subst e2; rw [show 14 + (4 * (rs tp had n F (m)).1 + 2) = 14 + 4 * (rs tp had n F (m)).1 + 2 by omega, uI_ss, pk_us]
        · rw [uI_sn (by omega), pk_un e2]
          by_cases e1 : j = 4 * (rs tp had n F (m)).1 + 1
          · subst e1; rw [show 14 + (4 * (rs tp had n F (m)).1 + 1) = 14 + 4 * (rs tp had n F (m)).1 + 1 by omega, uI_ss, pk_us]
          · rw [uI_sn (by omega), pk_un e1]
            by_cases e0 : j = 4 * (rs tp had n F (m)).1
            · subst e0; rw [uI_ss, pk_us]
            · rw [uI_sn (by omega), pk_un e0]; exact n2 j hj
set_option maxHeartbeats 200000 in
theorem r12_row_no {l : Launch} {K : cK} {d : Nat} {I : wI} {L : wL} {R : wR} {dy : cH} (h0 : I 74 8 = nI 0) (hd : 1 ≤ d) : CE l K m12_row d [.ref 74] (hp I L R dy) (.int (-6)) (hp (uI (uI (uI (uI I 74 0 0) 74 8 0) 74 1 (-6)) 75 6 (I 75 6 + 1)) L R dy) := by
  refine CC.of ok12_row (Nat.le_of_ble_eq_true rfl) ?_
  refine g_aload_n d12_row_0 rfl ?_
  refine g_iconstv (nI 0) d12_row_1 rfl ?_
  refine g_putIh _ fl12_128 d12_row_2 f_74_0 s_74_0 ?_
  refine g_aload_n d12_row_5 rfl ?_
  refine g_get fl12_179 d12_row_6 f_74_8 ?_
  refine g_topI (nI (0)) (h0) ?_
  refine g_istore_n d12_row_9 (by decide) ?_
  refine g_aload_n d12_row_10 rfl ?_
  refine g_iconstv (nI 0) d12_row_11 rfl ?_
  refine g_putIh _ fl12_179 d12_row_12 f_74_8 s_74_8 ?_
  refine g_iload_n d12_row_15 rfl ?_
  refine g_iz_ne ((0 : Nat) : Int) 26 (nI_ti (by omega)) d12_row_16 rfl (fun c16 => absurd c16 (by omega)) (fun _ => ?_)
  refine g_aload_n d12_row_19 rfl ?_
  refine g_bipushv ((-6 : Int32)) d12_row_20 rfl ?_
  refine g_EV1 vm12_tell ml12_138 c_74 (r12_tell_no 6 (by decide) (by decide) (by decide) (by decide) (Nat.le_refl 0)) (by omega) (Nat.le_of_ble_eq_true rfl) d12_row_22 ?_
  exact g_iret rfl d12_row_25 (⟨rfl, rfl⟩)
set_option maxHeartbeats 400000 in
theorem r12_row_ok {l : Launch} {K : cK} {d : Nat} {I : wI} {L : wL} {R : wR} {dy : cH} (t : Nat) (ht : I 74 8 = nI t) (ht0 : 0 < t) (ht4 : t ≤ 400) (tp : Nat → Int32) (htp : ∀ j, j < 400 → I 79 j = tp j) (n : Nat) (hn : I 76 0 = nI n) (hn6 : n ≤ 6) (F : Nat → Int32) (hF : ∀ j, j < 24 → I 76 (14 + j) = F j) (hd : 3 ≤ d) : CX l K m12_row d [.ref 74] (hp I L R dy) (α := wI) (fun x => (∀ q, q ≠ 74 → q ≠ 76 → x q = I q) ∧ (∀ j, j ≠ 0 → j ≠ 1 → j ≠ 6 → j ≠ 8 → x 74 j = I 74 j) ∧ (∀ j, j ≠ 0 → (j < 14 ∨ 38 ≤ j) → x 76 j = I 76 j) ∧ x 76 0 = nI (rs tp t n F ((t + 3) / 4)).1 ∧ (∀ j, j < 24 → x 76 (14 + j) = (rs tp t n F ((t + 3) / 4)).2.1 j) ∧ x 74 6 = nI (rs tp t n F ((t + 3) / 4)).2.2.2 ∧ x 74 8 = nI 0 ∧ x 74 1 = 0) (fun _ => .int (nI (rs tp t n F ((t + 3) / 4)).2.2.1)) (fun x => hp x L R dy) := by
  refine CC.of ok12_row (Nat.le_of_ble_eq_true rfl) ?_
  refine g_aload_n d12_row_0 rfl ?_
  refine g_iconstv (nI 0) d12_row_1 rfl ?_
  refine g_putIh _ fl12_128 d12_row_2 f_74_0 s_74_0 ?_
  refine g_aload_n d12_row_5 rfl ?_
  refine g_get fl12_179 d12_row_6 f_74_8 ?_
  refine g_topI (nI (t)) (ht) ?_
  refine g_istore_n d12_row_9 (by decide) ?_
  refine g_aload_n d12_row_10 rfl ?_
  refine g_iconstv (nI 0) d12_row_11 rfl ?_
  refine g_putIh _ fl12_179 d12_row_12 f_74_8 s_74_8 ?_
  refine g_iload_n d12_row_15 rfl ?_
  refine g_iz_ne ((t : Nat) : Int) 26 (nI_ti (by omega)) d12_row_16 rfl (fun _ => ?_) (fun c16 => absurd c16 (by omega))
  refine g_aload_n d12_row_26 rfl ?_
  refine g_iconstv (nI 0) d12_row_27 rfl ?_
  refine g_putIh _ fl12_182 d12_row_28 f_74_6 s_74_6 ?_
  refine g_iconstv (nI 0) d12_row_31 rfl ?_
  refine g_istore_n d12_row_32 (by decide) ?_
  refine g_iconstv (nI 0) d12_row_33 rfl ?_
  refine g_istore_n d12_row_34 (by decide) ?_
  refine g_lo [(0, .ref 74), (1, .int (nI (t))), (2, .int (nI ((rs tp t n F 0).2.2.1))), (3, .int (nI (4 * 0)))] ⟨rfl, rfl, rfl, rfl, trivial⟩ ?_
  refine r12_rwL (I := uI (uI (uI I 74 0 0) 74 8 0) 74 6 0) n t hn6 ht4 tp (by exact htp) F ((t + 3) / 4) (by omega) (by omega) (by omega) (fun I3 hI hJ hG hN => ?_) ((t + 3) / 4) 0 _ (by omega) (fun q _ _ => rfl) (fun j _ => rfl) (fun j _ _ => rfl) ⟨hn, hF, rfl⟩
  obtain ⟨n1, n2, n3⟩ := hN
  obtain ⟨r1, r2, r3⟩ := rs_le tp t n F hn6 ((t + 3) / 4)
  refine g_aload_n d12_row_106 rfl ?_
  refine g_iload_n d12_row_107 rfl ?_
  refine g_EV1 vm12_tell ml12_138 c_74 (r12_tell_ok (by rw [nI_ti (by omega)]; omega) (Nat.le_refl 0)) (by omega) (Nat.le_of_ble_eq_true rfl) d12_row_108 ?_
  exact g_iret rfl d12_row_111 (⟨uI I3 74 1 0, ⟨fun q h1 h2 => by rw [uI_n h1, hI q h1 h2, uI_n h1, uI_n h1, uI_n h1], fun j h1 h2 h3 h4 => by rw [uI_fn h2, hJ j h3, uI_fn h3, uI_fn h4, uI_fn h1], fun j h1 h2 => hG j h1 h2, n1, n2, by rw [uI_fn (by decide)]; exact n3, by rw [uI_fn (by decide), hJ 8 (by decide), uI_fn (by decide), uI_ss]; rfl, uI_ss⟩, rfl, rfl⟩)
