set_option maxHeartbeats 200000 in
theorem r12_in {l : Launch} {K : cK} {d : Nat} {h : cH} {v a b : Int64} (hd : 0 ≤ d) : CE l K m12_in d [.long v, .long a, .long b] h (.int (if a.toInt ≤ v.toInt ∧ v.toInt ≤ b.toInt then 1 else 0)) h := by
  refine CC.of ok12_in (Nat.le_of_ble_eq_true rfl) ?_
  refine g_lload_n d12_in_0 rfl ?_
  refine g_lload_n d12_in_1 rfl ?_
  refine g_lx_lt _ _ 17 (rfl) (rfl) d12_in_2 d12_in_3 rfl (fun c2 => ?_) (fun c2 => ?_)
  · refine g_iconstv (nI 0) d12_in_17 rfl ?_
    exact g_zret rfl (by decide) d12_in_18 (⟨by first | rw [b_f (by omega)]; rfl | rw [b_t (by omega)]; rfl, rfl⟩)
  · refine g_lload_n d12_in_6 rfl ?_
    refine g_lload d12_in_7 rfl ?_
    refine g_lx_gt _ _ 17 (rfl) (rfl) d12_in_9 d12_in_10 rfl (fun c9 => ?_) (fun c9 => ?_)
    · refine g_iconstv (nI 0) d12_in_17 rfl ?_
      exact g_zret rfl (by decide) d12_in_18 (⟨by first | rw [b_f (by omega)]; rfl | rw [b_t (by omega)]; rfl, rfl⟩)
    · refine g_iconstv (nI 1) d12_in_13 rfl ?_
      refine g_goto 18 d12_in_14 rfl ?_
      exact g_zret rfl (by decide) d12_in_18 (⟨by first | rw [b_f (by omega)]; rfl | rw [b_t (by omega)]; rfl, rfl⟩)
theorem r12_inI {l : Launch} {K : cK} {d : Nat} {h : cH} {v a b : Int64} {vi ai bi : Int} (hv : v.toInt = vi) (ha : a.toInt = ai) (hb : b.toInt = bi) (hd : 0 ≤ d) : CE l K m12_in d [.long v, .long a, .long b] h (.int (if ai ≤ vi ∧ vi ≤ bi then 1 else 0)) h := by
  subst hv; subst ha; subst hb
  exact r12_in hd
set_option maxHeartbeats 200000 in
theorem r12_isSlot {l : Launch} {K : cK} {d : Nat} {h : cH} {x : Int32} (hd : 1 ≤ d) : CE l K m12_isSlot d [.int x] h (.int (if 0 ≤ x.toInt ∧ x.toInt ≤ 11 then 1 else 0)) h := by
  refine CC.of ok12_isSlot (Nat.le_of_ble_eq_true rfl) ?_
  refine g_iload_n d12_isSlot_0 rfl ?_
  refine g_i2l d12_isSlot_1 ?_
  refine g_lconstv (0) d12_isSlot_2 rfl ?_
  refine g_ldc2 d12_isSlot_3 kl12_142 ?_
  refine g_ES3 sm12_in ml12_134 (r12_inI (ai := (0)) (bi := (11)) (i2l_int _) (by decide) (by decide) (Nat.le_refl 0)) (by omega) (by decide) d12_isSlot_6 ?_
  exact g_zret rfl (b01 _) d12_isSlot_9 (⟨rfl, rfl⟩)
theorem r12_isSlotI {l : Launch} {K : cK} {d : Nat} {h : cH} {x : Int32} {xi : Int}  (hx : x.toInt = xi) (hd : 1 ≤ d) : CE l K m12_isSlot d [.int x] h (.int (if 0 ≤ xi ∧ xi ≤ 11 then 1 else 0)) h := by
  subst hx
  exact r12_isSlot hd
set_option maxHeartbeats 200000 in
theorem r12_term {l : Launch} {K : cK} {d : Nat} {I : wI} {L : wL} {R : wR} {dy : cH} (w : Nat) (hw : w < 8) (hd : 0 ≤ d) : CE l K m12_term d [.ref 74, .int (nI w)] (hp I L R dy) (.int (I 76 (6 + w))) (hp I L R dy) := by
  refine CC.of ok12_term (Nat.le_of_ble_eq_true rfl) ?_
  refine g_aload_n d12_term_0 rfl ?_
  refine g_get fl12_13 d12_term_1 f_74_3 ?_
  refine g_bipushv (nI 6) d12_term_4 rfl ?_
  refine g_iload_n d12_term_6 rfl ?_
  refine g_iaddN d12_term_7 ?_
  refine g_ialdN ((6 + w)) d12_term_8 a_76 (rfl) (by omega) (by decide) ?_
  exact g_iret rfl d12_term_9 (⟨rfl, rfl⟩)
set_option maxHeartbeats 200000 in
theorem r12_ofCar {l : Launch} {K : cK} {d : Nat} {I : wI} {L : wL} {R : wR} {dy : cH} (c j : Nat) (hc : c < 6) (hj : j < 4) (hd : 0 ≤ d) : CE l K m12_ofCar d [.ref 74, .int (nI c), .int (nI j)] (hp I L R dy) (.int (I 76 (14 + 4 * c + j))) (hp I L R dy) := by
  refine CC.of ok12_ofCar (Nat.le_of_ble_eq_true rfl) ?_
  refine g_aload_n d12_ofCar_0 rfl ?_
  refine g_get fl12_13 d12_ofCar_1 f_74_3 ?_
  refine g_bipushv (nI 14) d12_ofCar_4 rfl ?_
  refine g_iconstv (nI 4) d12_ofCar_6 rfl ?_
  refine g_iload_n d12_ofCar_7 rfl ?_
  refine g_imulN d12_ofCar_8 ?_
  refine g_iaddN d12_ofCar_9 ?_
  refine g_iload_n d12_ofCar_10 rfl ?_
  refine g_iaddN d12_ofCar_11 ?_
  refine g_ialdN (((14 + (4 * c)) + j)) d12_ofCar_12 a_76 (rfl) (by omega) (by decide) ?_
  exact g_iret rfl d12_ofCar_13 (⟨rfl, rfl⟩)
set_option maxHeartbeats 200000 in
theorem r12_isCar {l : Launch} {K : cK} {d : Nat} {I : wI} {L : wL} {R : wR} {dy : cH} (n : Nat) (hn : I 76 0 = nI n) (hn6 : n ≤ 6) (x : Int32) (hd : 1 ≤ d) : CE l K m12_isCar d [.ref 74, .int x] (hp I L R dy) (.int (if 0 ≤ x.toInt ∧ x.toInt < n then 1 else 0)) (hp I L R dy) := by
  refine CC.of ok12_isCar (Nat.le_of_ble_eq_true rfl) ?_
  refine g_iload_n d12_isCar_0 rfl ?_
  refine g_i2l d12_isCar_1 ?_
  refine g_lconstv (0) d12_isCar_2 rfl ?_
  refine g_aload_n d12_isCar_3 rfl ?_
  refine g_get fl12_13 d12_isCar_4 f_74_3 ?_
  refine g_iconstv (nI 0) d12_isCar_7 rfl ?_
  refine g_ialdN (0) d12_isCar_8 a_76 (rfl) (by omega) (by decide) ?_
  rw [hn]
  refine g_i2lN (by omega) d12_isCar_9 ?_
  refine g_lconstv (1) d12_isCar_10 rfl ?_
  refine g_lsub d12_isCar_11 ?_
  refine g_ES3 sm12_in ml12_134 (r12_inI (ai := (0)) (bi := ((n : Int) - 1)) (i2l_int _) (by decide) (by rcases (by omega : n = 0 ∨ n = 1 ∨ n = 2 ∨ n = 3 ∨ n = 4 ∨ n = 5 ∨ n = 6) with rfl | rfl | rfl | rfl | rfl | rfl | rfl <;> rfl) (Nat.le_refl 0)) (by omega) (by decide) d12_isCar_12 ?_
  exact g_zret rfl (b01 _) d12_isCar_15 (⟨congrArg (fun z => some (Value.int z)) (b_same (by omega)), rfl⟩)
theorem r12_isCarI {l : Launch} {K : cK} {d : Nat} {I : wI} {L : wL} {R : wR} {dy : cH} {x : Int32} {xi : Int} (n : Nat) (hn : I 76 0 = nI n) (hn6 : n ≤ 6) (hx : x.toInt = xi) (hd : 1 ≤ d) : CE l K m12_isCar d [.ref 74, .int x] (hp I L R dy) (.int (if 0 ≤ xi ∧ xi < n then 1 else 0)) (hp I L R dy) := by
  subst hx
  exact r12_isCar n hn hn6 _ hd
set_option maxHeartbeats 200000 in
theorem r12_tell_ok {l : Launch} {K : cK} {d : Nat} {I : wI} {L : wL} {R : wR} {dy : cH} {v : Int32} (hv : 0 ≤ v.toInt) (hd : 0 ≤ d) : CE l K m12_tell d [.ref 74, .int v] (hp I L R dy) (.int v) (hp (uI I 74 1 0) L R dy) := by
  refine CC.of ok12_tell (Nat.le_of_ble_eq_true rfl) ?_
  refine g_aload_n d12_tell_0 rfl ?_
  refine g_iload_n d12_tell_1 rfl ?_
  refine g_iz_ge _ 9 (rfl) d12_tell_2 rfl (fun _ => ?_) (fun c2 => absurd c2 (by omega))
  refine g_iconstv (nI 0) d12_tell_9 rfl ?_
  refine g_putIh _ fl12_131 d12_tell_10 f_74_1 s_74_1 ?_
  refine g_iload_n d12_tell_13 rfl ?_
  refine g_iz_ge _ 28 (rfl) d12_tell_14 rfl (fun _ => ?_) (fun c14 => absurd c14 (by omega))
  refine g_iload_n d12_tell_28 rfl ?_
  exact g_iret rfl d12_tell_29 (⟨rfl, rfl⟩)
set_option maxHeartbeats 200000 in
theorem r12_tell_no {l : Launch} {K : cK} {d : Nat} {I : wI} {L : wL} {R : wR} {dy : cH} (k : Nat) (hk0 : 1 ≤ k) (hk : k ≤ 6) {v : Int32} (hv : v.toInt < 0) (hkv : -v = nI k) (hd : 0 ≤ d) : CE l K m12_tell d [.ref 74, .int v] (hp I L R dy) (.int v) (hp (uI (uI I 74 1 v) 75 k (I 75 k + 1)) L R dy) := by
  refine CC.of ok12_tell (Nat.le_of_ble_eq_true rfl) ?_
  refine g_aload_n d12_tell_0 rfl ?_
  refine g_iload_n d12_tell_1 rfl ?_
  refine g_iz_ge _ 9 (rfl) d12_tell_2 rfl (fun c2 => absurd c2 (by omega)) (fun _ => ?_)
  refine g_iload_n d12_tell_5 rfl ?_
  refine g_goto 10 d12_tell_6 rfl ?_
  refine g_putIh _ fl12_131 d12_tell_10 f_74_1 s_74_1 ?_
  refine g_iload_n d12_tell_13 rfl ?_
  refine g_iz_ge _ 28 (rfl) d12_tell_14 rfl (fun c14 => absurd c14 (by omega)) (fun _ => ?_)
  refine g_aload_n d12_tell_17 rfl ?_
  refine g_get fl12_7 d12_tell_18 f_74_2 ?_
  refine g_iload_n d12_tell_21 rfl ?_
  refine g_ineg d12_tell_22 ?_
  rw [hkv]
  refine g_dup2 d12_tell_23 rfl rfl ?_
  refine g_ialdN (k) d12_tell_24 a_75 (rfl) (by omega) (by decide) ?_
  refine g_topI (I 75 (k)) rfl ?_
  refine g_iconstv (nI 1) d12_tell_25 rfl ?_
  refine g_iadd d12_tell_26 ?_
  refine g_iastN (k) _ d12_tell_27 a_75 (rfl) (by omega) (by decide) t_75 ?_
  refine g_iload_n d12_tell_28 rfl ?_
  exact g_iret rfl d12_tell_29 (⟨rfl, rfl⟩)
set_option maxHeartbeats 200000 in
theorem r12_change {l : Launch} {K : cK} {d : Nat} {I : wI} {L : wL} {R : wR} {dy : cH} (a : Nat) (ha : a < 10880) {v : Int32} (hd : 0 ≤ d) : CE l K m12_change d [.ref 74, .int (nI a), .int v] (hp I L R dy) (.int (I 76 a)) (hp (uI (uI I 76 a v) 74 1 0) L R dy) := by
  refine CC.of ok12_change (Nat.le_of_ble_eq_true rfl) ?_
  refine g_aload_n d12_change_0 rfl ?_
  refine g_get fl12_13 d12_change_1 f_74_3 ?_
  refine g_iload_n d12_change_4 rfl ?_
  refine g_ialdN (a) d12_change_5 a_76 (rfl) (by omega) (by decide) ?_
  refine g_istore_n d12_change_6 (by decide) ?_
  refine g_aload_n d12_change_7 rfl ?_
  refine g_get fl12_13 d12_change_8 f_74_3 ?_
  refine g_iload_n d12_change_11 rfl ?_
  refine g_iload_n d12_change_12 rfl ?_
  refine g_iastN (a) _ d12_change_13 a_76 (rfl) (by omega) (by decide) t_76 ?_
  refine g_aload_n d12_change_14 rfl ?_
  refine g_iconstv (nI 0) d12_change_15 rfl ?_
  refine g_putIh _ fl12_131 d12_change_16 f_74_1 s_74_1 ?_
  refine g_iload_n d12_change_19 rfl ?_
  exact g_iret rfl d12_change_20 (⟨rfl, rfl⟩)
set_option maxHeartbeats 200000 in
theorem r12_canBe {l : Launch} {K : cK} {d : Nat} {h : cH} {w x : Int32} (hd : 2 ≤ d) : CE l K m12_canBe d [.int w, .int x] h (.int (if (w.toInt = 0 ∨ w.toInt = 1) ∧ 0 ≤ x.toInt ∧ x.toInt ≤ 11 ∨ w.toInt = 2 ∧ 0 ≤ x.toInt ∧ x.toInt ≤ 1 ∨ w.toInt = 3 ∧ 0 ≤ x.toInt ∧ x.toInt ≤ 9 then 1 else 0)) h := by
  refine CC.of ok12_canBe (Nat.le_of_ble_eq_true rfl) ?_
  refine g_iload_n d12_canBe_0 rfl ?_
  by_cases w0 : w.toInt = 0
  · refine g_tabIn 32 d12_canBe_1 (by omega) (by omega) (by rw [w0]; rfl) rfl ?_
    refine g_iload_n d12_canBe_32 rfl ?_
    refine g_ES1 sm12_isSlot ml12_144 (r12_isSlotI  (rfl) (Nat.le_refl 1)) (by omega) (by decide) d12_canBe_33 ?_
    exact g_zret rfl (b01 _) d12_canBe_36 (⟨congrArg (fun z => some (Value.int z)) (b_same (by omega)), rfl⟩)
  by_cases w1 : w.toInt = 1
  · refine g_tabIn 37 d12_canBe_1 (by omega) (by omega) (by rw [w1]; rfl) rfl ?_
    refine g_iload_n d12_canBe_37 rfl ?_
    refine g_ES1 sm12_isSlot ml12_144 (r12_isSlotI  (rfl) (Nat.le_refl 1)) (by omega) (by decide) d12_canBe_38 ?_
    exact g_zret rfl (b01 _) d12_canBe_41 (⟨congrArg (fun z => some (Value.int z)) (b_same (by omega)), rfl⟩)
  by_cases w2 : w.toInt = 2
  · refine g_tabIn 42 d12_canBe_1 (by omega) (by omega) (by rw [w2]; rfl) rfl ?_
    refine g_iload_n d12_canBe_42 rfl ?_
    refine g_i2l d12_canBe_43 ?_
    refine g_lconstv (0) d12_canBe_44 rfl ?_
    refine g_lconstv (1) d12_canBe_45 rfl ?_
    refine g_ES3 sm12_in ml12_134 (r12_inI (ai := (0)) (bi := (1)) (i2l_int _) (by decide) (by decide) (Nat.le_refl 0)) (by omega) (by decide) d12_canBe_46 ?_
    exact g_zret rfl (b01 _) d12_canBe_49 (⟨congrArg (fun z => some (Value.int z)) (b_same (by omega)), rfl⟩)
  by_cases w3 : w.toInt = 3
  · refine g_tabIn 50 d12_canBe_1 (by omega) (by omega) (by rw [w3]; rfl) rfl ?_
    refine g_iload_n d12_canBe_50 rfl ?_
    refine g_i2l d12_canBe_51 ?_
    refine g_lconstv (0) d12_canBe_52 rfl ?_
    refine g_ldc2 d12_canBe_53 kl12_148 ?_
    refine g_ES3 sm12_in ml12_134 (r12_inI (ai := (0)) (bi := (9)) (i2l_int _) (by decide) (by decide) (Nat.le_refl 0)) (by omega) (by decide) d12_canBe_56 ?_
    exact g_zret rfl (b01 _) d12_canBe_59 (⟨congrArg (fun z => some (Value.int z)) (b_same (by omega)), rfl⟩)
  refine g_tabOut 60 d12_canBe_1 (by omega) rfl ?_
  refine g_iconstv (nI 0) d12_canBe_60 rfl ?_
  exact g_zret rfl (by decide) d12_canBe_61 (⟨by rw [b_f (by omega)]; rfl, rfl⟩)
theorem r12_canBeI {l : Launch} {K : cK} {d : Nat} {h : cH} {w : Int32} {wi : Int} {x : Int32} {xi : Int}  (hw : w.toInt = wi) (hx : x.toInt = xi) (hd : 2 ≤ d) : CE l K m12_canBe d [.int w, .int x] h (.int (if (wi = 0 ∨ wi = 1) ∧ 0 ≤ xi ∧ xi ≤ 11 ∨ wi = 2 ∧ 0 ≤ xi ∧ xi ≤ 1 ∨ wi = 3 ∧ 0 ≤ xi ∧ xi ≤ 9 then 1 else 0)) h := by
  subst hw
  subst hx
  exact r12_canBe hd
set_option maxHeartbeats 200000 in
theorem r12_isTerm {l : Launch} {K : cK} {d : Nat} {h : cH} {w x : Int32} (hd : 1 ≤ d) : CE l K m12_isTerm d [.int w, .int x] h (.int (if w.toInt = 0 ∧ 1 ≤ x.toInt ∧ x.toInt ≤ 9 ∨ w.toInt = 1 ∧ 1 ≤ x.toInt ∧ x.toInt ≤ 4 ∨ w.toInt = 2 ∧ 0 ≤ x.toInt ∧ x.toInt ≤ 99 ∨ w.toInt = 3 ∧ 0 ≤ x.toInt ∧ x.toInt ≤ 9 ∨ w.toInt = 4 ∧ 1 ≤ x.toInt ∧ x.toInt ≤ 12 ∨ w.toInt = 5 ∧ 0 ≤ x.toInt ∧ x.toInt ≤ 3 ∨ w.toInt = 6 ∧ 0 ≤ x.toInt ∧ x.toInt ≤ 99 ∨ w.toInt = 7 ∧ 0 ≤ x.toInt ∧ x.toInt ≤ 9 then 1 else 0)) h := by
  refine CC.of ok12_isTerm (Nat.le_of_ble_eq_true rfl) ?_
  refine g_iload_n d12_isTerm_0 rfl ?_
  by_cases w0 : w.toInt = 0
  · refine g_tabIn 48 d12_isTerm_1 (by omega) (by omega) (by rw [w0]; rfl) rfl ?_
    refine g_iload_n d12_isTerm_48 rfl ?_
    refine g_i2l d12_isTerm_49 ?_
    refine g_lconstv (1) d12_isTerm_50 rfl ?_
    refine g_ldc2 d12_isTerm_51 kl12_148 ?_
    refine g_ES3 sm12_in ml12_134 (r12_inI (ai := (1)) (bi := (9)) (i2l_int _) (by decide) (by decide) (Nat.le_refl 0)) (by omega) (by decide) d12_isTerm_54 ?_
    exact g_zret rfl (b01 _) d12_isTerm_57 (⟨congrArg (fun z => some (Value.int z)) (b_same (by omega)), rfl⟩)
  by_cases w1 : w.toInt = 1
  · refine g_tabIn 58 d12_isTerm_1 (by omega) (by omega) (by rw [w1]; rfl) rfl ?_
    refine g_iload_n d12_isTerm_58 rfl ?_
    refine g_i2l d12_isTerm_59 ?_
    refine g_lconstv (1) d12_isTerm_60 rfl ?_
    refine g_ldc2 d12_isTerm_61 kl12_170 ?_
    refine g_ES3 sm12_in ml12_134 (r12_inI (ai := (1)) (bi := (4)) (i2l_int _) (by decide) (by decide) (Nat.le_refl 0)) (by omega) (by decide) d12_isTerm_64 ?_
    exact g_zret rfl (b01 _) d12_isTerm_67 (⟨congrArg (fun z => some (Value.int z)) (b_same (by omega)), rfl⟩)
  by_cases w2 : w.toInt = 2
  · refine g_tabIn 68 d12_isTerm_1 (by omega) (by omega) (by rw [w2]; rfl) rfl ?_
    refine g_iload_n d12_isTerm_68 rfl ?_
    refine g_i2l d12_isTerm_69 ?_
    refine g_lconstv (0) d12_isTerm_70 rfl ?_
    refine g_ldc2 d12_isTerm_71 kl12_172 ?_
    refine g_ES3 sm12_in ml12_134 (r12_inI (ai := (0)) (bi := (99)) (i2l_int _) (by decide) (by decide) (Nat.le_refl 0)) (by omega) (by decide) d12_isTerm_74 ?_
    exact g_zret rfl (b01 _) d12_isTerm_77 (⟨congrArg (fun z => some (Value.int z)) (b_same (by omega)), rfl⟩)
  by_cases w3 : w.toInt = 3
  · refine g_tabIn 78 d12_isTerm_1 (by omega) (by omega) (by rw [w3]; rfl) rfl ?_
    refine g_iload_n d12_isTerm_78 rfl ?_
    refine g_i2l d12_isTerm_79 ?_
    refine g_lconstv (0) d12_isTerm_80 rfl ?_
    refine g_ldc2 d12_isTerm_81 kl12_148 ?_
    refine g_ES3 sm12_in ml12_134 (r12_inI (ai := (0)) (bi := (9)) (i2l_int _) (by decide) (by decide) (Nat.le_refl 0)) (by omega) (by decide) d12_isTerm_84 ?_
    exact g_zret rfl (b01 _) d12_isTerm_87 (⟨congrArg (fun z => some (Value.int z)) (b_same (by omega)), rfl⟩)
  by_cases w4 : w.toInt = 4
  · refine g_tabIn 88 d12_isTerm_1 (by omega) (by omega) (by rw [w4]; rfl) rfl ?_
    refine g_iload_n d12_isTerm_88 rfl ?_
    refine g_i2l d12_isTerm_89 ?_
    refine g_lconstv (1) d12_isTerm_90 rfl ?_
    refine g_ldc2 d12_isTerm_91 kl12_174 ?_
    refine g_ES3 sm12_in ml12_134 (r12_inI (ai := (1)) (bi := (12)) (i2l_int _) (by decide) (by decide) (Nat.le_refl 0)) (by omega) (by decide) d12_isTerm_94 ?_
    exact g_zret rfl (b01 _) d12_isTerm_97 (⟨congrArg (fun z => some (Value.int z)) (b_same (by omega)), rfl⟩)
  by_cases w5 : w.toInt = 5
  · refine g_tabIn 98 d12_isTerm_1 (by omega) (by omega) (by rw [w5]; rfl) rfl ?_
    refine g_iload_n d12_isTerm_98 rfl ?_
    refine g_i2l d12_isTerm_99 ?_
    refine g_lconstv (0) d12_isTerm_100 rfl ?_
    refine g_ldc2 d12_isTerm_101 kl12_165 ?_
    refine g_ES3 sm12_in ml12_134 (r12_inI (ai := (0)) (bi := (3)) (i2l_int _) (by decide) (by decide) (Nat.le_refl 0)) (by omega) (by decide) d12_isTerm_104 ?_
    exact g_zret rfl (b01 _) d12_isTerm_107 (⟨congrArg (fun z => some (Value.int z)) (b_same (by omega)), rfl⟩)
  by_cases w6 : w.toInt = 6
  · refine g_tabIn 108 d12_isTerm_1 (by omega) (by omega) (by rw [w6]; rfl) rfl ?_
    refine g_iload_n d12_isTerm_108 rfl ?_
    refine g_i2l d12_isTerm_109 ?_
    refine g_lconstv (0) d12_isTerm_110 rfl ?_
    refine g_ldc2 d12_isTerm_111 kl12_172 ?_
    refine g_ES3 sm12_in ml12_134 (r12_inI (ai := (0)) (bi := (99)) (i2l_int _) (by decide) (by decide) (Nat.le_refl 0)) (by omega) (by decide) d12_isTerm_114 ?_
    exact g_zret rfl (b01 _) d12_isTerm_117 (⟨congrArg (fun z => some (Value.int z)) (b_same (by omega)), rfl⟩)
  by_cases w7 : w.toInt = 7
  · refine g_tabIn 118 d12_isTerm_1 (by omega) (by omega) (by rw [w7]; rfl) rfl ?_
    refine g_iload_n d12_isTerm_118 rfl ?_
    refine g_i2l d12_isTerm_119 ?_
    refine g_lconstv (0) d12_isTerm_120 rfl ?_
    refine g_ldc2 d12_isTerm_121 kl12_148 ?_
    refine g_ES3 sm12_in ml12_134 (r12_inI (ai := (0)) (bi := (9)) (i2l_int _) (by decide) (by decide) (Nat.le_refl 0)) (by omega) (by decide) d12_isTerm_124 ?_
    exact g_zret rfl (b01 _) d12_isTerm_127 (⟨congrArg (fun z => some (Value.int z)) (b_same (by omega)), rfl⟩)
  refine g_tabOut 128 d12_isTerm_1 (by omega) rfl ?_
  refine g_iconstv (nI 0) d12_isTerm_128 rfl ?_
  exact g_zret rfl (by decide) d12_isTerm_129 (⟨by rw [b_f (by omega)]; rfl, rfl⟩)
theorem r12_isTermI {l : Launch} {K : cK} {d : Nat} {h : cH} {w : Int32} {wi : Int} {x : Int32} {xi : Int}  (hw : w.toInt = wi) (hx : x.toInt = xi) (hd : 1 ≤ d) : CE l K m12_isTerm d [.int w, .int x] h (.int (if wi = 0 ∧ 1 ≤ xi ∧ xi ≤ 9 ∨ wi = 1 ∧ 1 ≤ xi ∧ xi ≤ 4 ∨ wi = 2 ∧ 0 ≤ xi ∧ xi ≤ 99 ∨ wi = 3 ∧ 0 ≤ xi ∧ xi ≤ 9 ∨ wi = 4 ∧ 1 ≤ xi ∧ xi ≤ 12 ∨ wi = 5 ∧ 0 ≤ xi ∧ xi ≤ 3 ∨ wi = 6 ∧ 0 ≤ xi ∧ xi ≤ 99 ∨ wi = 7 ∧ 0 ≤ xi ∧ xi ≤ 9 then 1 else 0)) h := by
  subst hw
  subst hx
  exact r12_isTerm hd
set_option maxHeartbeats 200000 in
theorem r12_isLaw {l : Launch} {K : cK} {d : Nat} {I : wI} {L : wL} {R : wR} {dy : cH} (n : Nat) (hn : I 76 1 = nI n) (hn6 : n ≤ 6) (x : Int32) (hd : 1 ≤ d) : CE l K m12_isLaw d [.ref 74, .int x] (hp I L R dy) (.int (if 0 ≤ x.toInt ∧ x.toInt < n then 1 else 0)) (hp I L R dy) := by
  refine CC.of ok12_isLaw (Nat.le_of_ble_eq_true rfl) ?_
  refine g_iload_n d12_isLaw_0 rfl ?_
  refine g_i2l d12_isLaw_1 ?_
  refine g_lconstv (0) d12_isLaw_2 rfl ?_
  refine g_aload_n d12_isLaw_3 rfl ?_
  refine g_get fl12_13 d12_isLaw_4 f_74_3 ?_
  refine g_iconstv (nI 1) d12_isLaw_7 rfl ?_
  refine g_ialdN (1) d12_isLaw_8 a_76 (rfl) (by omega) (by decide) ?_
  rw [hn]
  refine g_i2lN (by omega) d12_isLaw_9 ?_
  refine g_lconstv (1) d12_isLaw_10 rfl ?_
  refine g_lsub d12_isLaw_11 ?_
  refine g_ES3 sm12_in ml12_134 (r12_inI (ai := (0)) (bi := ((n : Int) - 1)) (i2l_int _) (by decide) (by rcases (by omega : n = 0 ∨ n = 1 ∨ n = 2 ∨ n = 3 ∨ n = 4 ∨ n = 5 ∨ n = 6) with rfl | rfl | rfl | rfl | rfl | rfl | rfl <;> rfl) (Nat.le_refl 0)) (by omega) (by decide) d12_isLaw_12 ?_
  exact g_zret rfl (b01 _) d12_isLaw_15 (⟨congrArg (fun z => some (Value.int z)) (b_same (by omega)), rfl⟩)
set_option maxHeartbeats 200000 in
theorem r12_isHabit {l : Launch} {K : cK} {d : Nat} {I : wI} {L : wL} {R : wR} {dy : cH} (n : Nat) (hn : I 76 2 = nI n) (hn6 : n ≤ 6) (x : Int32) (hd : 1 ≤ d) : CE l K m12_isHabit d [.ref 74, .int x] (hp I L R dy) (.int (if 0 ≤ x.toInt ∧ x.toInt < n then 1 else 0)) (hp I L R dy) := by
  refine CC.of ok12_isHabit (Nat.le_of_ble_eq_true rfl) ?_
  refine g_iload_n d12_isHabit_0 rfl ?_
  refine g_i2l d12_isHabit_1 ?_
  refine g_lconstv (0) d12_isHabit_2 rfl ?_
  refine g_aload_n d12_isHabit_3 rfl ?_
  refine g_get fl12_13 d12_isHabit_4 f_74_3 ?_
  refine g_iconstv (nI 2) d12_isHabit_7 rfl ?_
  refine g_ialdN (2) d12_isHabit_8 a_76 (rfl) (by omega) (by decide) ?_
  rw [hn]
  refine g_i2lN (by omega) d12_isHabit_9 ?_
  refine g_lconstv (1) d12_isHabit_10 rfl ?_
  refine g_lsub d12_isHabit_11 ?_
  refine g_ES3 sm12_in ml12_134 (r12_inI (ai := (0)) (bi := ((n : Int) - 1)) (i2l_int _) (by decide) (by rcases (by omega : n = 0 ∨ n = 1 ∨ n = 2 ∨ n = 3 ∨ n = 4 ∨ n = 5 ∨ n = 6) with rfl | rfl | rfl | rfl | rfl | rfl | rfl <;> rfl) (Nat.le_refl 0)) (by omega) (by decide) d12_isHabit_12 ?_
  exact g_zret rfl (b01 _) d12_isHabit_15 (⟨congrArg (fun z => some (Value.int z)) (b_same (by omega)), rfl⟩)
theorem r12_isLawI {l : Launch} {K : cK} {d : Nat} {I : wI} {L : wL} {R : wR} {dy : cH} {x : Int32} {xi : Int} (n : Nat) (hn : I 76 1 = nI n) (hn6 : n ≤ 6) (hx : x.toInt = xi) (hd : 1 ≤ d) : CE l K m12_isLaw d [.ref 74, .int x] (hp I L R dy) (.int (if 0 ≤ xi ∧ xi < n then 1 else 0)) (hp I L R dy) := by
  subst hx
  exact r12_isLaw n hn hn6 _ hd
theorem r12_isHabitI {l : Launch} {K : cK} {d : Nat} {I : wI} {L : wL} {R : wR} {dy : cH} {x : Int32} {xi : Int} (n : Nat) (hn : I 76 2 = nI n) (hn6 : n ≤ 6) (hx : x.toInt = xi) (hd : 1 ≤ d) : CE l K m12_isHabit d [.ref 74, .int x] (hp I L R dy) (.int (if 0 ≤ xi ∧ xi < n then 1 else 0)) (hp I L R dy) := by
  subst hx
  exact r12_isHabit n hn hn6 _ hd
set_option maxHeartbeats 200000 in
theorem r12_car1_bad {l : Launch} {K : cK} {d : Nat} {I : wI} {L : wL} {R : wR} {dy : cH} (a b c e : Int32) (hbad : ¬ (0 ≤ a.toInt ∧ a.toInt ≤ b.toInt ∧ b.toInt ≤ 11 ∧ 0 ≤ c.toInt ∧ c.toInt ≤ 1 ∧ 0 ≤ e.toInt ∧ e.toInt ≤ 9)) (hd : 2 ≤ d) : CE l K m12_car1 d [.ref 74, .int a, .int b, .int c, .int e] (hp I L R dy) (.int (-1)) (hp I L R dy) := by
  refine CC.of ok12_car1 (Nat.le_of_ble_eq_true rfl) ?_
  refine g_iload_n d12_car1_0 rfl ?_
  refine g_ES1 sm12_isSlot ml12_144 (r12_isSlotI  (rfl) (Nat.le_refl 1)) (by omega) (by decide) d12_car1_1 ?_
  refine g_bz 42 d12_car1_4 rfl (fun c4 => ?_) (fun c4 => ?_)
  · refine g_iconstv ((-1 : Int32)) d12_car1_42 rfl ?_
    exact g_iret rfl d12_car1_43 (⟨rfl, rfl⟩)
  · refine g_iload_n d12_car1_7 rfl ?_
    refine g_ES1 sm12_isSlot ml12_144 (r12_isSlotI  (rfl) (Nat.le_refl 1)) (by omega) (by decide) d12_car1_8 ?_
    refine g_bz 42 d12_car1_11 rfl (fun c11 => ?_) (fun c11 => ?_)
    · refine g_iconstv ((-1 : Int32)) d12_car1_42 rfl ?_
      exact g_iret rfl d12_car1_43 (⟨rfl, rfl⟩)
    · refine g_iload_n d12_car1_14 rfl ?_
      refine g_iload_n d12_car1_15 rfl ?_
      refine g_ic_lt _ _ 42 (rfl) (rfl) d12_car1_16 rfl (fun c16 => ?_) (fun c16 => ?_)
      · refine g_iconstv ((-1 : Int32)) d12_car1_42 rfl ?_
        exact g_iret rfl d12_car1_43 (⟨rfl, rfl⟩)
      · refine g_iload_n d12_car1_19 rfl ?_
        refine g_i2l d12_car1_20 ?_
        refine g_lconstv (0) d12_car1_21 rfl ?_
        refine g_lconstv (1) d12_car1_22 rfl ?_
        refine g_ES3 sm12_in ml12_134 (r12_inI (ai := (0)) (bi := (1)) (i2l_int _) (by decide) (by decide) (Nat.le_refl 0)) (by omega) (by decide) d12_car1_23 ?_
        refine g_bz 42 d12_car1_26 rfl (fun c26 => ?_) (fun c26 => ?_)
        · refine g_iconstv ((-1 : Int32)) d12_car1_42 rfl ?_
          exact g_iret rfl d12_car1_43 (⟨rfl, rfl⟩)
        · refine g_iload d12_car1_29 rfl ?_
          refine g_i2l d12_car1_31 ?_
          refine g_lconstv (0) d12_car1_32 rfl ?_
          refine g_ldc2 d12_car1_33 kl12_148 ?_
          refine g_ES3 sm12_in ml12_134 (r12_inI (ai := (0)) (bi := (9)) (i2l_int _) (by decide) (by decide) (Nat.le_refl 0)) (by omega) (by decide) d12_car1_36 ?_
          refine g_bnz 44 d12_car1_39 rfl (fun c39 => ?_) (fun c39 => ?_)
          · exact absurd (by omega) hbad
          · refine g_iconstv ((-1 : Int32)) d12_car1_42 rfl ?_
            exact g_iret rfl d12_car1_43 (⟨rfl, rfl⟩)
set_option maxHeartbeats 200000 in
theorem r12_car1_full {l : Launch} {K : cK} {d : Nat} {I : wI} {L : wL} {R : wR} {dy : cH} (a b c e : Int32) (hok : 0 ≤ a.toInt ∧ a.toInt ≤ b.toInt ∧ b.toInt ≤ 11 ∧ 0 ≤ c.toInt ∧ c.toInt ≤ 1 ∧ 0 ≤ e.toInt ∧ e.toInt ≤ 9) (hn : I 76 0 = nI 6) (hd : 2 ≤ d) : CE l K m12_car1 d [.ref 74, .int a, .int b, .int c, .int e] (hp I L R dy) (.int (-5)) (hp I L R dy) := by
  refine CC.of ok12_car1 (Nat.le_of_ble_eq_true rfl) ?_
  refine g_iload_n d12_car1_0 rfl ?_
  refine g_ES1 sm12_isSlot ml12_144 (r12_isSlotI  (rfl) (Nat.le_refl 1)) (by omega) (by decide) d12_car1_1 ?_
  refine g_bz 42 d12_car1_4 rfl (fun c4 => absurd c4 (fun q => q (by omega))) (fun _ => ?_)
  refine g_iload_n d12_car1_7 rfl ?_
  refine g_ES1 sm12_isSlot ml12_144 (r12_isSlotI  (rfl) (Nat.le_refl 1)) (by omega) (by decide) d12_car1_8 ?_
  refine g_bz 42 d12_car1_11 rfl (fun c11 => absurd c11 (fun q => q (by omega))) (fun _ => ?_)
  refine g_iload_n d12_car1_14 rfl ?_
  refine g_iload_n d12_car1_15 rfl ?_
  refine g_ic_lt _ _ 42 (rfl) (rfl) d12_car1_16 rfl (fun c16 => absurd c16 (by omega)) (fun _ => ?_)
  refine g_iload_n d12_car1_19 rfl ?_
  refine g_i2l d12_car1_20 ?_
  refine g_lconstv (0) d12_car1_21 rfl ?_
  refine g_lconstv (1) d12_car1_22 rfl ?_
  refine g_ES3 sm12_in ml12_134 (r12_inI (ai := (0)) (bi := (1)) (i2l_int _) (by decide) (by decide) (Nat.le_refl 0)) (by omega) (by decide) d12_car1_23 ?_
  refine g_bz 42 d12_car1_26 rfl (fun c26 => absurd c26 (fun q => q (by omega))) (fun _ => ?_)
  refine g_iload d12_car1_29 rfl ?_
  refine g_i2l d12_car1_31 ?_
  refine g_lconstv (0) d12_car1_32 rfl ?_
  refine g_ldc2 d12_car1_33 kl12_148 ?_
  refine g_ES3 sm12_in ml12_134 (r12_inI (ai := (0)) (bi := (9)) (i2l_int _) (by decide) (by decide) (Nat.le_refl 0)) (by omega) (by decide) d12_car1_36 ?_
  refine g_bnz 44 d12_car1_39 rfl (fun _ => ?_) (fun c39 => absurd c39 (fun q => q (by omega)))
  refine g_aload_n d12_car1_44 rfl ?_
  refine g_get fl12_13 d12_car1_45 f_74_3 ?_
  refine g_iconstv (nI 0) d12_car1_48 rfl ?_
  refine g_ialdN (0) d12_car1_49 a_76 (rfl) (by omega) (by decide) ?_
  refine g_topI (nI 6) (hn) ?_
  refine g_istore d12_car1_50 (by decide) ?_
  refine g_iload d12_car1_52 rfl ?_
  refine g_bipushv (nI 6) d12_car1_54 rfl ?_
  refine g_ic_ne ((6 : Nat) : Int) (6) 62 (nI_ti (by omega)) (by decide) d12_car1_56 rfl (fun c56 => absurd c56 (fun q => q rfl)) (fun _ => ?_)
  refine g_bipushv ((-5 : Int32)) d12_car1_59 rfl ?_
  exact g_iret rfl d12_car1_61 (⟨rfl, rfl⟩)
set_option maxHeartbeats 200000 in
theorem r12_car1_ok {l : Launch} {K : cK} {d : Nat} {I : wI} {L : wL} {R : wR} {dy : cH} (a b c e : Int32) (hok : 0 ≤ a.toInt ∧ a.toInt ≤ b.toInt ∧ b.toInt ≤ 11 ∧ 0 ≤ c.toInt ∧ c.toInt ≤ 1 ∧ 0 ≤ e.toInt ∧ e.toInt ≤ 9) (n : Nat) (hn : I 76 0 = nI n) (hn6 : n < 6) (hd : 2 ≤ d) : CE l K m12_car1 d [.ref 74, .int a, .int b, .int c, .int e] (hp I L R dy) (.int (nI n)) (hp (uI (uI (uI (uI (uI I 76 (14 + 4 * n) a) 76 (14 + 4 * n + 1) b) 76 (14 + 4 * n + 2) c) 76 (14 + 4 * n + 3) e) 76 0 (nI (n + 1))) L R dy) := by
  have hn0 : ∀ m : Nat, m < 6 → I 76 0 = nI m → (uI (uI (uI (uI I 76 (14 + 4 * n) a) 76 (14 + 4 * n + 1) b) 76 (14 + 4 * n + 2) c) 76 (14 + 4 * n + 3) e) 76 0 = nI m := by
    intro m hm h0
    rw [uI_sn (by omega), uI_sn (by omega), uI_sn (by omega), uI_sn (by omega)]; exact h0
  refine CC.of ok12_car1 (Nat.le_of_ble_eq_true rfl) ?_
  refine g_iload_n d12_car1_0 rfl ?_
  refine g_ES1 sm12_isSlot ml12_144 (r12_isSlotI  (rfl) (Nat.le_refl 1)) (by omega) (by decide) d12_car1_1 ?_
  refine g_bz 42 d12_car1_4 rfl (fun c4 => absurd c4 (fun q => q (by omega))) (fun _ => ?_)
  refine g_iload_n d12_car1_7 rfl ?_
  refine g_ES1 sm12_isSlot ml12_144 (r12_isSlotI  (rfl) (Nat.le_refl 1)) (by omega) (by decide) d12_car1_8 ?_
  refine g_bz 42 d12_car1_11 rfl (fun c11 => absurd c11 (fun q => q (by omega))) (fun _ => ?_)
  refine g_iload_n d12_car1_14 rfl ?_
  refine g_iload_n d12_car1_15 rfl ?_
  refine g_ic_lt _ _ 42 (rfl) (rfl) d12_car1_16 rfl (fun c16 => absurd c16 (by omega)) (fun _ => ?_)
  refine g_iload_n d12_car1_19 rfl ?_
  refine g_i2l d12_car1_20 ?_
  refine g_lconstv (0) d12_car1_21 rfl ?_
  refine g_lconstv (1) d12_car1_22 rfl ?_
  refine g_ES3 sm12_in ml12_134 (r12_inI (ai := (0)) (bi := (1)) (i2l_int _) (by decide) (by decide) (Nat.le_refl 0)) (by omega) (by decide) d12_car1_23 ?_
  refine g_bz 42 d12_car1_26 rfl (fun c26 => absurd c26 (fun q => q (by omega))) (fun _ => ?_)
  refine g_iload d12_car1_29 rfl ?_
  refine g_i2l d12_car1_31 ?_
  refine g_lconstv (0) d12_car1_32 rfl ?_
  refine g_ldc2 d12_car1_33 kl12_148 ?_
  refine g_ES3 sm12_in ml12_134 (r12_inI (ai := (0)) (bi := (9)) (i2l_int _) (by decide) (by decide) (Nat.le_refl 0)) (by omega) (by decide) d12_car1_36 ?_
  refine g_bnz 44 d12_car1_39 rfl (fun _ => ?_) (fun c39 => absurd c39 (fun q => q (by omega)))
  refine g_aload_n d12_car1_44 rfl ?_
  refine g_get fl12_13 d12_car1_45 f_74_3 ?_
  refine g_iconstv (nI 0) d12_car1_48 rfl ?_
  refine g_ialdN (0) d12_car1_49 a_76 (rfl) (by omega) (by decide) ?_
  refine g_topI (nI n) (hn) ?_
  refine g_istore d12_car1_50 (by decide) ?_
  refine g_iload d12_car1_52 rfl ?_
  refine g_bipushv (nI 6) d12_car1_54 rfl ?_
  refine g_ic_ne ((n : Nat) : Int) (6) 62 (nI_ti (by omega)) (by decide) d12_car1_56 rfl (fun _ => ?_) (fun c56 => absurd c56 (by omega))
  refine g_bipushv (nI 14) d12_car1_62 rfl ?_
  refine g_iconstv (nI 4) d12_car1_64 rfl ?_
  refine g_iload d12_car1_65 rfl ?_
  refine g_imulN d12_car1_67 ?_
  refine g_iaddN d12_car1_68 ?_
  refine g_istore d12_car1_69 (by decide) ?_
  refine g_aload_n d12_car1_71 rfl ?_
  refine g_get fl12_13 d12_car1_72 f_74_3 ?_
  refine g_iload d12_car1_75 rfl ?_
  refine g_iload_n d12_car1_77 rfl ?_
  refine g_iastN ((14 + (4 * n))) _ d12_car1_78 a_76 (rfl) (by omega) (by decide) t_76 ?_
  refine g_aload_n d12_car1_79 rfl ?_
  refine g_get fl12_13 d12_car1_80 f_74_3 ?_
  refine g_iload d12_car1_83 rfl ?_
  refine g_iconstv (nI 1) d12_car1_85 rfl ?_
  refine g_iaddN d12_car1_86 ?_
  refine g_iload_n d12_car1_87 rfl ?_
  refine g_iastN (((14 + (4 * n)) + 1)) _ d12_car1_88 a_76 (rfl) (by omega) (by decide) t_76 ?_
  refine g_aload_n d12_car1_89 rfl ?_
  refine g_get fl12_13 d12_car1_90 f_74_3 ?_
  refine g_iload d12_car1_93 rfl ?_
  refine g_iconstv (nI 2) d12_car1_95 rfl ?_
  refine g_iaddN d12_car1_96 ?_
  refine g_iload_n d12_car1_97 rfl ?_
  refine g_iastN (((14 + (4 * n)) + 2)) _ d12_car1_98 a_76 (rfl) (by omega) (by decide) t_76 ?_
  refine g_aload_n d12_car1_99 rfl ?_
  refine g_get fl12_13 d12_car1_100 f_74_3 ?_
  refine g_iload d12_car1_103 rfl ?_
  refine g_iconstv (nI 3) d12_car1_105 rfl ?_
  refine g_iaddN d12_car1_106 ?_
  refine g_iload d12_car1_107 rfl ?_
  refine g_iastN (((14 + (4 * n)) + 3)) _ d12_car1_109 a_76 (rfl) (by omega) (by decide) t_76 ?_
  refine g_aload_n d12_car1_110 rfl ?_
  refine g_get fl12_13 d12_car1_111 f_74_3 ?_
  refine g_iconstv (nI 0) d12_car1_114 rfl ?_
  refine g_dup2 d12_car1_115 rfl rfl ?_
  refine g_ialdN (0) d12_car1_116 a_76 (rfl) (by omega) (by decide) ?_
  refine g_topI (nI n) (hn0 n hn6 hn) ?_
  refine g_iconstv (nI 1) d12_car1_117 rfl ?_
  refine g_iaddN d12_car1_118 ?_
  refine g_iastN (0) _ d12_car1_119 a_76 (rfl) (by omega) (by decide) t_76 ?_
  refine g_iload d12_car1_120 rfl ?_
  exact g_iret rfl d12_car1_122 (⟨rfl, rfl⟩)
set_option maxHeartbeats 200000 in
theorem r12_car_bad {l : Launch} {K : cK} {d : Nat} {I : wI} {L : wL} {R : wR} {dy : cH} (a b c e : Int32) (hbad : ¬ (0 ≤ a.toInt ∧ a.toInt ≤ b.toInt ∧ b.toInt ≤ 11 ∧ 0 ≤ c.toInt ∧ c.toInt ≤ 1 ∧ 0 ≤ e.toInt ∧ e.toInt ≤ 9)) (hd : 3 ≤ d) : CE l K m12_car d [.ref 74, .int a, .int b, .int c, .int e] (hp I L R dy) (.int (-1)) (hp (uI (uI (uI I 74 0 0) 74 1 (-1)) 75 1 (I 75 1 + 1)) L R dy) := by
  refine CC.of ok12_car (Nat.le_of_ble_eq_true rfl) ?_
  refine g_aload_n d12_car_0 rfl ?_
  refine g_iconstv (nI 0) d12_car_1 rfl ?_
  refine g_putIh _ fl12_128 d12_car_2 f_74_0 s_74_0 ?_
  refine g_aload_n d12_car_5 rfl ?_
  refine g_aload_n d12_car_6 rfl ?_
  refine g_iload_n d12_car_7 rfl ?_
  refine g_iload_n d12_car_8 rfl ?_
  refine g_iload_n d12_car_9 rfl ?_
  refine g_iload d12_car_10 rfl ?_
  refine g_EV4 vm12_car1 ml12_150 c_74 (r12_car1_bad a b c e hbad (Nat.le_refl 2)) (by omega) (by decide) d12_car_12 ?_
  refine g_EV1 vm12_tell ml12_138 c_74 (r12_tell_no 1 (by decide) (by decide) (by decide) (by decide) (Nat.le_refl 0)) (by omega) (by decide) d12_car_15 ?_
  exact g_iret rfl d12_car_18 (⟨rfl, rfl⟩)
set_option maxHeartbeats 200000 in
theorem r12_car_full {l : Launch} {K : cK} {d : Nat} {I : wI} {L : wL} {R : wR} {dy : cH} (a b c e : Int32) (hok : 0 ≤ a.toInt ∧ a.toInt ≤ b.toInt ∧ b.toInt ≤ 11 ∧ 0 ≤ c.toInt ∧ c.toInt ≤ 1 ∧ 0 ≤ e.toInt ∧ e.toInt ≤ 9) (hn : I 76 0 = nI 6) (hd : 3 ≤ d) : CE l K m12_car d [.ref 74, .int a, .int b, .int c, .int e] (hp I L R dy) (.int (-5)) (hp (uI (uI (uI I 74 0 0) 74 1 (-5)) 75 5 (I 75 5 + 1)) L R dy) := by
  refine CC.of ok12_car (Nat.le_of_ble_eq_true rfl) ?_
  refine g_aload_n d12_car_0 rfl ?_
  refine g_iconstv (nI 0) d12_car_1 rfl ?_
  refine g_putIh _ fl12_128 d12_car_2 f_74_0 s_74_0 ?_
  refine g_aload_n d12_car_5 rfl ?_
  refine g_aload_n d12_car_6 rfl ?_
  refine g_iload_n d12_car_7 rfl ?_
  refine g_iload_n d12_car_8 rfl ?_
  refine g_iload_n d12_car_9 rfl ?_
  refine g_iload d12_car_10 rfl ?_
  refine g_EV4 vm12_car1 ml12_150 c_74 (r12_car1_full a b c e hok (by exact hn) (Nat.le_refl 2)) (by omega) (by decide) d12_car_12 ?_
  refine g_EV1 vm12_tell ml12_138 c_74 (r12_tell_no 5 (by decide) (by decide) (by decide) (by decide) (Nat.le_refl 0)) (by omega) (by decide) d12_car_15 ?_
  exact g_iret rfl d12_car_18 (⟨rfl, rfl⟩)
set_option maxHeartbeats 200000 in
theorem r12_car_ok {l : Launch} {K : cK} {d : Nat} {I : wI} {L : wL} {R : wR} {dy : cH} (a b c e : Int32) (hok : 0 ≤ a.toInt ∧ a.toInt ≤ b.toInt ∧ b.toInt ≤ 11 ∧ 0 ≤ c.toInt ∧ c.toInt ≤ 1 ∧ 0 ≤ e.toInt ∧ e.toInt ≤ 9) (n : Nat) (hn : I 76 0 = nI n) (hn6 : n < 6) (hd : 3 ≤ d) : CE l K m12_car d [.ref 74, .int a, .int b, .int c, .int e] (hp I L R dy) (.int (nI n)) (hp (uI (uI (uI (uI (uI (uI (uI I 74 0 0) 76 (14 + 4 * n) a) 76 (14 + 4 * n + 1) b) 76 (14 + 4 * n + 2) c) 76 (14 + 4 * n + 3) e) 76 0 (nI (n + 1))) 74 1 0) L R dy) := by
  refine CC.of ok12_car (Nat.le_of_ble_eq_true rfl) ?_
  refine g_aload_n d12_car_0 rfl ?_
  refine g_iconstv (nI 0) d12_car_1 rfl ?_
  refine g_putIh _ fl12_128 d12_car_2 f_74_0 s_74_0 ?_
  refine g_aload_n d12_car_5 rfl ?_
  refine g_aload_n d12_car_6 rfl ?_
  refine g_iload_n d12_car_7 rfl ?_
  refine g_iload_n d12_car_8 rfl ?_
  refine g_iload_n d12_car_9 rfl ?_
  refine g_iload d12_car_10 rfl ?_
  refine g_EV4 vm12_car1 ml12_150 c_74 (r12_car1_ok a b c e hok n (by exact hn) hn6 (Nat.le_refl 2)) (by omega) (by decide) d12_car_12 ?_
  refine g_EV1 vm12_tell ml12_138 c_74 (r12_tell_ok (by rw [nI_ti (by omega)]; omega) (Nat.le_refl 0)) (by omega) (by decide) d12_car_15 ?_
  exact g_iret rfl d12_car_18 (⟨rfl, rfl⟩)
set_option maxHeartbeats 200000 in
theorem r12_put_1 {l : Launch} {K : cK} {d : Nat} {I : wI} {L : wL} {R : wR} {dy : cH} (c w x : Int32) (hbad : ¬ ((w.toInt = 0 ∨ w.toInt = 1) ∧ 0 ≤ x.toInt ∧ x.toInt ≤ 11 ∨ w.toInt = 2 ∧ 0 ≤ x.toInt ∧ x.toInt ≤ 1 ∨ w.toInt = 3 ∧ 0 ≤ x.toInt ∧ x.toInt ≤ 9)) (hd : 3 ≤ d) : CE l K m12_put d [.ref 74, .int c, .int w, .int x] (hp I L R dy) (.int (-1)) (hp (uI (uI (uI I 74 0 0) 74 1 (-1)) 75 1 (I 75 1 + 1)) L R dy) := by
  refine CC.of ok12_put (Nat.le_of_ble_eq_true rfl) ?_
  refine g_aload_n d12_put_0 rfl ?_
  refine g_iconstv (nI 0) d12_put_1 rfl ?_
  refine g_putIh _ fl12_128 d12_put_2 f_74_0 s_74_0 ?_
  refine g_iload_n d12_put_5 rfl ?_
  refine g_iload_n d12_put_6 rfl ?_
  refine g_ES2 sm12_canBe ml12_154 (r12_canBeI  (rfl) (rfl) (Nat.le_refl 2)) (by omega) (by decide) d12_put_7 ?_
  refine g_bnz 19 d12_put_10 rfl (fun c10 => absurd c10 (hbad)) (fun _ => ?_)
  refine g_aload_n d12_put_13 rfl ?_
  refine g_iconstv ((-1 : Int32)) d12_put_14 rfl ?_
  refine g_EV1 vm12_tell ml12_138 c_74 (r12_tell_no 1 (by decide) (by decide) (by decide) (by decide) (Nat.le_refl 0)) (by omega) (by decide) d12_put_15 ?_
  exact g_iret rfl d12_put_18 (⟨rfl, rfl⟩)
set_option maxHeartbeats 200000 in
theorem r12_put_2 {l : Launch} {K : cK} {d : Nat} {I : wI} {L : wL} {R : wR} {dy : cH} (c w x : Int32) (hok : (w.toInt = 0 ∨ w.toInt = 1) ∧ 0 ≤ x.toInt ∧ x.toInt ≤ 11 ∨ w.toInt = 2 ∧ 0 ≤ x.toInt ∧ x.toInt ≤ 1 ∨ w.toInt = 3 ∧ 0 ≤ x.toInt ∧ x.toInt ≤ 9) (n : Nat) (hn : I 76 0 = nI n) (hn6 : n ≤ 6) (hc : ¬ (0 ≤ c.toInt ∧ c.toInt < n)) (hd : 3 ≤ d) : CE l K m12_put d [.ref 74, .int c, .int w, .int x] (hp I L R dy) (.int (-2)) (hp (uI (uI (uI I 74 0 0) 74 1 (-2)) 75 2 (I 75 2 + 1)) L R dy) := by
  refine CC.of ok12_put (Nat.le_of_ble_eq_true rfl) ?_
  refine g_aload_n d12_put_0 rfl ?_
  refine g_iconstv (nI 0) d12_put_1 rfl ?_
  refine g_putIh _ fl12_128 d12_put_2 f_74_0 s_74_0 ?_
  refine g_iload_n d12_put_5 rfl ?_
  refine g_iload_n d12_put_6 rfl ?_
  refine g_ES2 sm12_canBe ml12_154 (r12_canBeI  (rfl) (rfl) (Nat.le_refl 2)) (by omega) (by decide) d12_put_7 ?_
  refine g_bnz 19 d12_put_10 rfl (fun _ => ?_) (fun c10 => absurd c10 (fun q => q hok))
  refine g_aload_n d12_put_19 rfl ?_
  refine g_iload_n d12_put_20 rfl ?_
  refine g_EV1 vm12_isCar ml12_158 c_74 (r12_isCarI  n (by exact hn) hn6 (rfl) (Nat.le_refl 1)) (by omega) (by decide) d12_put_21 ?_
  refine g_bnz 34 d12_put_24 rfl (fun c24 => absurd c24 (hc)) (fun _ => ?_)
  refine g_aload_n d12_put_27 rfl ?_
  refine g_bipushv ((-2 : Int32)) d12_put_28 rfl ?_
  refine g_EV1 vm12_tell ml12_138 c_74 (r12_tell_no 2 (by decide) (by decide) (by decide) (by decide) (Nat.le_refl 0)) (by omega) (by decide) d12_put_30 ?_
  exact g_iret rfl d12_put_33 (⟨rfl, rfl⟩)
set_option maxHeartbeats 200000 in
theorem r12_put_3 {l : Launch} {K : cK} {d : Nat} {I : wI} {L : wL} {R : wR} {dy : cH} (n k j : Nat) (hn : I 76 0 = nI n) (hn6 : n ≤ 6) (hk : k < n) (hj : j < 4) (x : Int32) (hok : j < 2 ∧ 0 ≤ x.toInt ∧ x.toInt ≤ 11 ∨ j = 2 ∧ 0 ≤ x.toInt ∧ x.toInt ≤ 1 ∨ j = 3 ∧ 0 ≤ x.toInt ∧ x.toInt ≤ 9) (hno : j = 0 ∧ (I 76 (14 + 4 * k + 1)).toInt < x.toInt ∨ j = 1 ∧ x.toInt < (I 76 (14 + 4 * k + 0)).toInt) (hd : 3 ≤ d) : CE l K m12_put d [.ref 74, .int (nI k), .int (nI j), .int x] (hp I L R dy) (.int (-3)) (hp (uI (uI (uI I 74 0 0) 74 1 (-3)) 75 3 (I 75 3 + 1)) L R dy) := by
  refine CC.of ok12_put (Nat.le_of_ble_eq_true rfl) ?_
  refine g_aload_n d12_put_0 rfl ?_
  refine g_iconstv (nI 0) d12_put_1 rfl ?_
  refine g_putIh _ fl12_128 d12_put_2 f_74_0 s_74_0 ?_
  refine g_iload_n d12_put_5 rfl ?_
  refine g_iload_n d12_put_6 rfl ?_
  refine g_ES2 sm12_canBe ml12_154 (r12_canBeI (wi := ((j : Nat) : Int)) (nI_ti (by omega)) (rfl) (Nat.le_refl 2)) (by omega) (by decide) d12_put_7 ?_
  refine g_bnz 19 d12_put_10 rfl (fun _ => ?_) (fun c10 => absurd c10 (fun q => q (by omega)))
  refine g_aload_n d12_put_19 rfl ?_
  refine g_iload_n d12_put_20 rfl ?_
  refine g_EV1 vm12_isCar ml12_158 c_74 (r12_isCarI (xi := ((k : Nat) : Int)) n (by exact hn) hn6 (nI_ti (by omega)) (Nat.le_refl 1)) (by omega) (by decide) d12_put_21 ?_
  refine g_bnz 34 d12_put_24 rfl (fun _ => ?_) (fun c24 => absurd c24 (fun q => q (by omega)))
  refine g_bipushv (nI 14) d12_put_34 rfl ?_
  refine g_iconstv (nI 4) d12_put_36 rfl ?_
  refine g_iload_n d12_put_37 rfl ?_
  refine g_imulN d12_put_38 ?_
  refine g_iaddN d12_put_39 ?_
  refine g_istore d12_put_40 (by decide) ?_
  refine g_iload_n d12_put_42 rfl ?_
  refine g_iz_ne ((j : Nat) : Int) 59 (nI_ti (by omega)) d12_put_43 rfl (fun c43 => ?_) (fun c43 => ?_)
  · refine g_iload_n d12_put_59 rfl ?_
    refine g_iconstv (nI 1) d12_put_60 rfl ?_
    refine g_ic_ne ((j : Nat) : Int) (1) 84 (nI_ti (by omega)) (by decide) d12_put_61 rfl (fun c61 => ?_) (fun c61 => ?_)
    · exfalso
      omega
    · refine g_iload_n d12_put_64 rfl ?_
      refine g_aload_n d12_put_65 rfl ?_
      refine g_get fl12_13 d12_put_66 f_74_3 ?_
      refine g_iload d12_put_69 rfl ?_
      refine g_iconstv (nI 0) d12_put_71 rfl ?_
      refine g_iaddN d12_put_72 ?_
      refine g_ialdN (((14 + (4 * k)) + 0)) d12_put_73 a_76 (rfl) (by omega) (by decide) ?_
      refine g_topI (I 76 (((14 + (4 * k)) + 0))) rfl ?_
      refine g_ic_ge _ _ 84 (rfl) (rfl) d12_put_74 rfl (fun c74 => ?_) (fun c74 => ?_)
      · exfalso
        omega
      · refine g_aload_n d12_put_77 rfl ?_
        refine g_bipushv ((-3 : Int32)) d12_put_78 rfl ?_
        refine g_EV1 vm12_tell ml12_138 c_74 (r12_tell_no 3 (by decide) (by decide) (by decide) (by decide) (Nat.le_refl 0)) (by omega) (by decide) d12_put_80 ?_
        exact g_iret rfl d12_put_83 (⟨rfl, rfl⟩)
  · refine g_iload_n d12_put_46 rfl ?_
    refine g_aload_n d12_put_47 rfl ?_
    refine g_get fl12_13 d12_put_48 f_74_3 ?_
    refine g_iload d12_put_51 rfl ?_
    refine g_iconstv (nI 1) d12_put_53 rfl ?_
    refine g_iaddN d12_put_54 ?_
    refine g_ialdN (((14 + (4 * k)) + 1)) d12_put_55 a_76 (rfl) (by omega) (by decide) ?_
    refine g_topI (I 76 (((14 + (4 * k)) + 1))) rfl ?_
    refine g_ic_gt _ _ 77 (rfl) (rfl) d12_put_56 rfl (fun c56 => ?_) (fun c56 => ?_)
    · refine g_aload_n d12_put_77 rfl ?_
      refine g_bipushv ((-3 : Int32)) d12_put_78 rfl ?_
      refine g_EV1 vm12_tell ml12_138 c_74 (r12_tell_no 3 (by decide) (by decide) (by decide) (by decide) (Nat.le_refl 0)) (by omega) (by decide) d12_put_80 ?_
      exact g_iret rfl d12_put_83 (⟨rfl, rfl⟩)
    · exfalso
      omega
set_option maxHeartbeats 200000 in
theorem r12_put_ok {l : Launch} {K : cK} {d : Nat} {I : wI} {L : wL} {R : wR} {dy : cH} (n k j : Nat) (hn : I 76 0 = nI n) (hn6 : n ≤ 6) (hk : k < n) (hj : j < 4) (x : Int32) (hok : j < 2 ∧ 0 ≤ x.toInt ∧ x.toInt ≤ 11 ∨ j = 2 ∧ 0 ≤ x.toInt ∧ x.toInt ≤ 1 ∨ j = 3 ∧ 0 ≤ x.toInt ∧ x.toInt ≤ 9) (hno : ¬ (j = 0 ∧ (I 76 (14 + 4 * k + 1)).toInt < x.toInt ∨ j = 1 ∧ x.toInt < (I 76 (14 + 4 * k + 0)).toInt)) (hd : 3 ≤ d) : CE l K m12_put d [.ref 74, .int (nI k), .int (nI j), .int x] (hp I L R dy) (.int (I 76 (14 + 4 * k + j))) (hp (uI (uI (uI I 74 0 0) 76 (14 + 4 * k + j) x) 74 1 0) L R dy) := by
  refine CC.of ok12_put (Nat.le_of_ble_eq_true rfl) ?_
  refine g_aload_n d12_put_0 rfl ?_
  refine g_iconstv (nI 0) d12_put_1 rfl ?_
  refine g_putIh _ fl12_128 d12_put_2 f_74_0 s_74_0 ?_
  refine g_iload_n d12_put_5 rfl ?_
  refine g_iload_n d12_put_6 rfl ?_
  refine g_ES2 sm12_canBe ml12_154 (r12_canBeI (wi := ((j : Nat) : Int)) (nI_ti (by omega)) (rfl) (Nat.le_refl 2)) (by omega) (by decide) d12_put_7 ?_
  refine g_bnz 19 d12_put_10 rfl (fun _ => ?_) (fun c10 => absurd c10 (fun q => q (by omega)))
  refine g_aload_n d12_put_19 rfl ?_
  refine g_iload_n d12_put_20 rfl ?_
  refine g_EV1 vm12_isCar ml12_158 c_74 (r12_isCarI (xi := ((k : Nat) : Int)) n (by exact hn) hn6 (nI_ti (by omega)) (Nat.le_refl 1)) (by omega) (by decide) d12_put_21 ?_
  refine g_bnz 34 d12_put_24 rfl (fun _ => ?_) (fun c24 => absurd c24 (fun q => q (by omega)))
  refine g_bipushv (nI 14) d12_put_34 rfl ?_
  refine g_iconstv (nI 4) d12_put_36 rfl ?_
  refine g_iload_n d12_put_37 rfl ?_
  refine g_imulN d12_put_38 ?_
  refine g_iaddN d12_put_39 ?_
  refine g_istore d12_put_40 (by decide) ?_
  refine g_iload_n d12_put_42 rfl ?_
  refine g_iz_ne ((j : Nat) : Int) 59 (nI_ti (by omega)) d12_put_43 rfl (fun c43 => ?_) (fun c43 => ?_)
  · refine g_iload_n d12_put_59 rfl ?_
    refine g_iconstv (nI 1) d12_put_60 rfl ?_
    refine g_ic_ne ((j : Nat) : Int) (1) 84 (nI_ti (by omega)) (by decide) d12_put_61 rfl (fun c61 => ?_) (fun c61 => ?_)
    · refine g_aload_n d12_put_84 rfl ?_
      refine g_iload d12_put_85 rfl ?_
      refine g_iload_n d12_put_87 rfl ?_
      refine g_iaddN d12_put_88 ?_
      refine g_iload_n d12_put_89 rfl ?_
      refine g_EV2 vm12_change ml12_161 c_74 (r12_change (((14 + (4 * k)) + j)) (by omega) (Nat.le_refl 0)) (by omega) (by decide) d12_put_90 ?_
      exact g_iret rfl d12_put_93 (⟨rfl, rfl⟩)
    · refine g_iload_n d12_put_64 rfl ?_
      refine g_aload_n d12_put_65 rfl ?_
      refine g_get fl12_13 d12_put_66 f_74_3 ?_
      refine g_iload d12_put_69 rfl ?_
      refine g_iconstv (nI 0) d12_put_71 rfl ?_
      refine g_iaddN d12_put_72 ?_
      refine g_ialdN (((14 + (4 * k)) + 0)) d12_put_73 a_76 (rfl) (by omega) (by decide) ?_
      refine g_topI (I 76 (((14 + (4 * k)) + 0))) rfl ?_
      refine g_ic_ge _ _ 84 (rfl) (rfl) d12_put_74 rfl (fun c74 => ?_) (fun c74 => ?_)
      · refine g_aload_n d12_put_84 rfl ?_
        refine g_iload d12_put_85 rfl ?_
        refine g_iload_n d12_put_87 rfl ?_
        refine g_iaddN d12_put_88 ?_
        refine g_iload_n d12_put_89 rfl ?_
        refine g_EV2 vm12_change ml12_161 c_74 (r12_change (((14 + (4 * k)) + j)) (by omega) (Nat.le_refl 0)) (by omega) (by decide) d12_put_90 ?_
        exact g_iret rfl d12_put_93 (⟨rfl, rfl⟩)
      · exfalso
        omega
  · refine g_iload_n d12_put_46 rfl ?_
    refine g_aload_n d12_put_47 rfl ?_
    refine g_get fl12_13 d12_put_48 f_74_3 ?_
    refine g_iload d12_put_51 rfl ?_
    refine g_iconstv (nI 1) d12_put_53 rfl ?_
    refine g_iaddN d12_put_54 ?_
    refine g_ialdN (((14 + (4 * k)) + 1)) d12_put_55 a_76 (rfl) (by omega) (by decide) ?_
    refine g_topI (I 76 (((14 + (4 * k)) + 1))) rfl ?_
    refine g_ic_gt _ _ 77 (rfl) (rfl) d12_put_56 rfl (fun c56 => ?_) (fun c56 => ?_)
    · exfalso
      omega
    · refine g_iload_n d12_put_59 rfl ?_
      refine g_iconstv (nI 1) d12_put_60 rfl ?_
      refine g_ic_ne ((j : Nat) : Int) (1) 84 (nI_ti (by omega)) (by decide) d12_put_61 rfl (fun c61 => ?_) (fun c61 => ?_)
      · refine g_aload_n d12_put_84 rfl ?_
        refine g_iload d12_put_85 rfl ?_
        refine g_iload_n d12_put_87 rfl ?_
        refine g_iaddN d12_put_88 ?_
        refine g_iload_n d12_put_89 rfl ?_
        refine g_EV2 vm12_change ml12_161 c_74 (r12_change (((14 + (4 * k)) + j)) (by omega) (Nat.le_refl 0)) (by omega) (by decide) d12_put_90 ?_
        exact g_iret rfl d12_put_93 (⟨rfl, rfl⟩)
      · refine g_iload_n d12_put_64 rfl ?_
        refine g_aload_n d12_put_65 rfl ?_
        refine g_get fl12_13 d12_put_66 f_74_3 ?_
        refine g_iload d12_put_69 rfl ?_
        refine g_iconstv (nI 0) d12_put_71 rfl ?_
        refine g_iaddN d12_put_72 ?_
        refine g_ialdN (((14 + (4 * k)) + 0)) d12_put_73 a_76 (rfl) (by omega) (by decide) ?_
        refine g_topI (I 76 (((14 + (4 * k)) + 0))) rfl ?_
        refine g_ic_ge _ _ 84 (rfl) (rfl) d12_put_74 rfl (fun c74 => ?_) (fun c74 => ?_)
        · refine g_aload_n d12_put_84 rfl ?_
          refine g_iload d12_put_85 rfl ?_
          refine g_iload_n d12_put_87 rfl ?_
          refine g_iaddN d12_put_88 ?_
          refine g_iload_n d12_put_89 rfl ?_
          refine g_EV2 vm12_change ml12_161 c_74 (r12_change (((14 + (4 * k)) + j)) (by omega) (Nat.le_refl 0)) (by omega) (by decide) d12_put_90 ?_
          exact g_iret rfl d12_put_93 (⟨rfl, rfl⟩)
        · exfalso
          omega
set_option maxHeartbeats 200000 in
theorem r12_fact_no {l : Launch} {K : cK} {d : Nat} {I : wI} {L : wL} {R : wR} {dy : cH} (c w : Int32) (n : Nat) (hn : I 76 0 = nI n) (hn6 : n ≤ 6) (hc : ¬ ((0 ≤ c.toInt ∧ c.toInt < n) ∧ 0 ≤ w.toInt ∧ w.toInt ≤ 3)) (hd : 2 ≤ d) : CE l K m12_fact d [.ref 74, .int c, .int w] (hp I L R dy) (.int (-1)) (hp (uI I 74 0 0) L R dy) := by
  refine CC.of ok12_fact (Nat.le_of_ble_eq_true rfl) ?_
  refine g_aload_n d12_fact_0 rfl ?_
  refine g_iconstv (nI 0) d12_fact_1 rfl ?_
  refine g_putIh _ fl12_128 d12_fact_2 f_74_0 s_74_0 ?_
  refine g_aload_n d12_fact_5 rfl ?_
  refine g_iload_n d12_fact_6 rfl ?_
  refine g_EV1 vm12_isCar ml12_158 c_74 (r12_isCarI  n (by exact hn) hn6 (rfl) (Nat.le_refl 1)) (by omega) (by decide) d12_fact_7 ?_
  refine g_bz 34 d12_fact_10 rfl (fun c10 => ?_) (fun c10 => ?_)
  · refine g_iconstv ((-1 : Int32)) d12_fact_34 rfl ?_
    exact g_iret rfl d12_fact_35 (⟨rfl, rfl⟩)
  · refine g_iload_n d12_fact_13 rfl ?_
    refine g_i2l d12_fact_14 ?_
    refine g_lconstv (0) d12_fact_15 rfl ?_
    refine g_ldc2 d12_fact_16 kl12_165 ?_
    refine g_ES3 sm12_in ml12_134 (r12_inI (ai := (0)) (bi := (3)) (i2l_int _) (by decide) (by decide) (Nat.le_refl 0)) (by omega) (by decide) d12_fact_19 ?_
    refine g_bz 34 d12_fact_22 rfl (fun c22 => ?_) (fun c22 => ?_)
    · refine g_iconstv ((-1 : Int32)) d12_fact_34 rfl ?_
      exact g_iret rfl d12_fact_35 (⟨rfl, rfl⟩)
    · exact absurd ⟨c10, c22⟩ hc
set_option maxHeartbeats 200000 in
theorem r12_fact_ok {l : Launch} {K : cK} {d : Nat} {I : wI} {L : wL} {R : wR} {dy : cH} (n k j : Nat) (hn : I 76 0 = nI n) (hn6 : n ≤ 6) (hk : k < n) (hj : j < 4) (hd : 2 ≤ d) : CE l K m12_fact d [.ref 74, .int (nI k), .int (nI j)] (hp I L R dy) (.int (I 76 (14 + 4 * k + j))) (hp (uI I 74 0 0) L R dy) := by
  refine CC.of ok12_fact (Nat.le_of_ble_eq_true rfl) ?_
  refine g_aload_n d12_fact_0 rfl ?_
  refine g_iconstv (nI 0) d12_fact_1 rfl ?_
  refine g_putIh _ fl12_128 d12_fact_2 f_74_0 s_74_0 ?_
  refine g_aload_n d12_fact_5 rfl ?_
  refine g_iload_n d12_fact_6 rfl ?_
  refine g_EV1 vm12_isCar ml12_158 c_74 (r12_isCarI (xi := ((k : Nat) : Int)) n (by exact hn) hn6 (nI_ti (by omega)) (Nat.le_refl 1)) (by omega) (by decide) d12_fact_7 ?_
  refine g_bz 34 d12_fact_10 rfl (fun c10 => absurd c10 (fun q => q (by omega))) (fun _ => ?_)
  refine g_iload_n d12_fact_13 rfl ?_
  refine g_i2lN (by omega) d12_fact_14 ?_
  refine g_lconstv (0) d12_fact_15 rfl ?_
  refine g_ldc2 d12_fact_16 kl12_165 ?_
  refine g_ES3 sm12_in ml12_134 (r12_inI (vi := ((j : Nat) : Int)) (ai := (0)) (bi := (3)) (lN_toInt (by omega)) (by decide) (by decide) (Nat.le_refl 0)) (by omega) (by decide) d12_fact_19 ?_
  refine g_bz 34 d12_fact_22 rfl (fun c22 => absurd c22 (fun q => q (by omega))) (fun _ => ?_)
  refine g_aload_n d12_fact_25 rfl ?_
  refine g_iload_n d12_fact_26 rfl ?_
  refine g_iload_n d12_fact_27 rfl ?_
  refine g_EV2 vm12_ofCar ml12_167 c_74 (r12_ofCar k j (by omega) (by omega) (Nat.le_refl 0)) (by omega) (by decide) d12_fact_28 ?_
  refine g_goto 35 d12_fact_31 rfl ?_
  exact g_iret rfl d12_fact_35 (⟨rfl, rfl⟩)
set_option maxHeartbeats 200000 in
theorem r12_terms_no {l : Launch} {K : cK} {d : Nat} {I : wI} {L : wL} {R : wR} {dy : cH} (w x : Int32) (hbad : ¬ (w.toInt = 0 ∧ 1 ≤ x.toInt ∧ x.toInt ≤ 9 ∨ w.toInt = 1 ∧ 1 ≤ x.toInt ∧ x.toInt ≤ 4 ∨ w.toInt = 2 ∧ 0 ≤ x.toInt ∧ x.toInt ≤ 99 ∨ w.toInt = 3 ∧ 0 ≤ x.toInt ∧ x.toInt ≤ 9 ∨ w.toInt = 4 ∧ 1 ≤ x.toInt ∧ x.toInt ≤ 12 ∨ w.toInt = 5 ∧ 0 ≤ x.toInt ∧ x.toInt ≤ 3 ∨ w.toInt = 6 ∧ 0 ≤ x.toInt ∧ x.toInt ≤ 99 ∨ w.toInt = 7 ∧ 0 ≤ x.toInt ∧ x.toInt ≤ 9)) (hd : 2 ≤ d) : CE l K m12_terms d [.ref 74, .int w, .int x] (hp I L R dy) (.int (-1)) (hp (uI (uI (uI I 74 0 0) 74 1 (-1)) 75 1 (I 75 1 + 1)) L R dy) := by
  refine CC.of ok12_terms (Nat.le_of_ble_eq_true rfl) ?_
  refine g_aload_n d12_terms_0 rfl ?_
  refine g_iconstv (nI 0) d12_terms_1 rfl ?_
  refine g_putIh _ fl12_128 d12_terms_2 f_74_0 s_74_0 ?_
  refine g_iload_n d12_terms_5 rfl ?_
  refine g_iload_n d12_terms_6 rfl ?_
  refine g_ES2 sm12_isTerm ml12_176 (r12_isTermI  (rfl) (rfl) (Nat.le_refl 1)) (by omega) (by decide) d12_terms_7 ?_
  refine g_bz 25 d12_terms_10 rfl (fun _ => ?_) (fun c10 => absurd c10 (hbad))
  refine g_aload_n d12_terms_25 rfl ?_
  refine g_iconstv ((-1 : Int32)) d12_terms_26 rfl ?_
  refine g_EV1 vm12_tell ml12_138 c_74 (r12_tell_no 1 (by decide) (by decide) (by decide) (by decide) (Nat.le_refl 0)) (by omega) (by decide) d12_terms_27 ?_
  exact g_iret rfl d12_terms_30 (⟨rfl, rfl⟩)
set_option maxHeartbeats 200000 in
theorem r12_terms_ok {l : Launch} {K : cK} {d : Nat} {I : wI} {L : wL} {R : wR} {dy : cH} (j : Nat) (x : Int32) (hok : j = 0 ∧ 1 ≤ x.toInt ∧ x.toInt ≤ 9 ∨ j = 1 ∧ 1 ≤ x.toInt ∧ x.toInt ≤ 4 ∨ j = 2 ∧ 0 ≤ x.toInt ∧ x.toInt ≤ 99 ∨ j = 3 ∧ 0 ≤ x.toInt ∧ x.toInt ≤ 9 ∨ j = 4 ∧ 1 ≤ x.toInt ∧ x.toInt ≤ 12 ∨ j = 5 ∧ 0 ≤ x.toInt ∧ x.toInt ≤ 3 ∨ j = 6 ∧ 0 ≤ x.toInt ∧ x.toInt ≤ 99 ∨ j = 7 ∧ 0 ≤ x.toInt ∧ x.toInt ≤ 9) (hd : 2 ≤ d) : CE l K m12_terms d [.ref 74, .int (nI j), .int x] (hp I L R dy) (.int (I 76 (6 + j))) (hp (uI (uI (uI I 74 0 0) 76 (6 + j) x) 74 1 0) L R dy) := by
  have hj8 : j < 8 := by rcases hok with r | r | r | r | r | r | r | r <;> omega
  refine CC.of ok12_terms (Nat.le_of_ble_eq_true rfl) ?_
  refine g_aload_n d12_terms_0 rfl ?_
  refine g_iconstv (nI 0) d12_terms_1 rfl ?_
  refine g_putIh _ fl12_128 d12_terms_2 f_74_0 s_74_0 ?_
  refine g_iload_n d12_terms_5 rfl ?_
  refine g_iload_n d12_terms_6 rfl ?_
  refine g_ES2 sm12_isTerm ml12_176 (r12_isTermI (wi := ((j : Nat) : Int)) (nI_ti (by omega)) (rfl) (Nat.le_refl 1)) (by omega) (by decide) d12_terms_7 ?_
  refine g_bz 25 d12_terms_10 rfl (fun c10 => absurd c10 (fun q => q (by rcases hok with r | r | r | r | r | r | r | r <;> omega))) (fun _ => ?_)
  refine g_aload_n d12_terms_13 rfl ?_
  refine g_bipushv (nI 6) d12_terms_14 rfl ?_
  refine g_iload_n d12_terms_16 rfl ?_
  refine g_iaddN d12_terms_17 ?_
  refine g_iload_n d12_terms_18 rfl ?_
  refine g_EV2 vm12_change ml12_161 c_74 (r12_change ((6 + j)) (by rcases hok with r | r | r | r | r | r | r | r <;> omega) (Nat.le_refl 0)) (by omega) (by decide) d12_terms_19 ?_
  refine g_goto 30 d12_terms_22 rfl ?_
  exact g_iret rfl d12_terms_30 (⟨rfl, rfl⟩)
set_option maxHeartbeats 200000 in
theorem r12_tar {l : Launch} {K : cK} {d : Nat} {I : wI} {L : wL} {R : wR} {dy : cH}  (hd : 0 ≤ d) : CE l K m12_tar d [.ref 74] (hp I L R dy) (.int (I 74 6)) (hp (uI I 74 0 0) L R dy) := by
  refine CC.of ok12_tar (Nat.le_of_ble_eq_true rfl) ?_
  refine g_aload_n d12_tar_0 rfl ?_
  refine g_iconstv (nI 0) d12_tar_1 rfl ?_
  refine g_putIh _ fl12_128 d12_tar_2 f_74_0 s_74_0 ?_
  refine g_aload_n d12_tar_5 rfl ?_
  refine g_get fl12_182 d12_tar_6 f_74_6 ?_
  refine g_topI (I 74 (6)) rfl ?_
  exact g_iret rfl d12_tar_9 (⟨rfl, rfl⟩)
set_option maxHeartbeats 200000 in
theorem r12_fault {l : Launch} {K : cK} {d : Nat} {I : wI} {L : wL} {R : wR} {dy : cH}  (hd : 0 ≤ d) : CE l K m12_fault d [.ref 74] (hp I L R dy) (.int (I 74 13)) (hp (uI I 74 0 0) L R dy) := by
  refine CC.of ok12_fault (Nat.le_of_ble_eq_true rfl) ?_
  refine g_aload_n d12_fault_0 rfl ?_
  refine g_iconstv (nI 0) d12_fault_1 rfl ?_
  refine g_putIh _ fl12_128 d12_fault_2 f_74_0 s_74_0 ?_
  refine g_aload_n d12_fault_5 rfl ?_
  refine g_get fl12_26 d12_fault_6 f_74_13 ?_
  refine g_topI (I 74 (13)) rfl ?_
  exact g_iret rfl d12_fault_9 (⟨rfl, rfl⟩)
set_option maxHeartbeats 200000 in
theorem r12_status {l : Launch} {K : cK} {d : Nat} {I : wI} {L : wL} {R : wR} {dy : cH}  (hd : 0 ≤ d) : CE l K m12_status d [.ref 74] (hp I L R dy) (.int (I 74 1)) (hp (uI I 74 0 0) L R dy) := by
  refine CC.of ok12_status (Nat.le_of_ble_eq_true rfl) ?_
  refine g_aload_n d12_status_0 rfl ?_
  refine g_iconstv (nI 0) d12_status_1 rfl ?_
  refine g_putIh _ fl12_128 d12_status_2 f_74_0 s_74_0 ?_
  refine g_aload_n d12_status_5 rfl ?_
  refine g_get fl12_131 d12_status_6 f_74_1 ?_
  refine g_topI (I 74 (1)) rfl ?_
  exact g_iret rfl d12_status_9 (⟨rfl, rfl⟩)
set_option maxHeartbeats 200000 in
theorem r12_clear {l : Launch} {K : cK} {d : Nat} {I : wI} {L : wL} {R : wR} {dy : cH}  (hd : 0 ≤ d) : CE l K m12_clear d [.ref 74] (hp I L R dy) (.int (I 76 3)) (hp (uI (uI I 74 0 0) 76 3 0) L R dy) := by
  refine CC.of ok12_clear (Nat.le_of_ble_eq_true rfl) ?_
  refine g_aload_n d12_clear_0 rfl ?_
  refine g_iconstv (nI 0) d12_clear_1 rfl ?_
  refine g_putIh _ fl12_128 d12_clear_2 f_74_0 s_74_0 ?_
  refine g_aload_n d12_clear_5 rfl ?_
  refine g_get fl12_13 d12_clear_6 f_74_3 ?_
  refine g_iconstv (nI 3) d12_clear_9 rfl ?_
  refine g_ialdN (3) d12_clear_10 a_76 (rfl) (by omega) (by decide) ?_
  refine g_topI (I 76 (3)) rfl ?_
  refine g_istore_n d12_clear_11 (by decide) ?_
  refine g_aload_n d12_clear_12 rfl ?_
  refine g_get fl12_13 d12_clear_13 f_74_3 ?_
  refine g_iconstv (nI 3) d12_clear_16 rfl ?_
  refine g_iconstv (nI 0) d12_clear_17 rfl ?_
  refine g_iastN (3) _ d12_clear_18 a_76 (rfl) (by omega) (by decide) t_76 ?_
  refine g_iload_n d12_clear_19 rfl ?_
  exact g_iret rfl d12_clear_20 (⟨rfl, rfl⟩)
set_option maxHeartbeats 200000 in
theorem r12_end_no {l : Launch} {K : cK} {d : Nat} {I : wI} {L : wL} {R : wR} {dy : cH} (x : Int32) (hbad : x.toInt < 0 ∨ (I 74 8).toInt < x.toInt) (hd : 0 ≤ d) : CE l K m12_end d [.ref 74, .int x] (hp I L R dy) (.int (-1)) (hp (uI I 74 0 0) L R dy) := by
  refine CC.of ok12_end (Nat.le_of_ble_eq_true rfl) ?_
  refine g_aload_n d12_end_0 rfl ?_
  refine g_iconstv (nI 0) d12_end_1 rfl ?_
  refine g_putIh _ fl12_128 d12_end_2 f_74_0 s_74_0 ?_
  refine g_iload_n d12_end_5 rfl ?_
  refine g_iz_lt _ 17 (rfl) d12_end_6 rfl (fun c6 => ?_) (fun c6 => ?_)
  · refine g_iconstv ((-1 : Int32)) d12_end_17 rfl ?_
    exact g_iret rfl d12_end_18 (⟨rfl, rfl⟩)
  · refine g_iload_n d12_end_9 rfl ?_
    refine g_aload_n d12_end_10 rfl ?_
    refine g_get fl12_179 d12_end_11 f_74_8 ?_
    refine g_topI (I 74 (8)) rfl ?_
    refine g_ic_le _ _ 19 (rfl) (rfl) d12_end_14 rfl (fun c14 => ?_) (fun c14 => ?_)
    · exfalso
      omega
    · refine g_iconstv ((-1 : Int32)) d12_end_17 rfl ?_
      exact g_iret rfl d12_end_18 (⟨rfl, rfl⟩)
set_option maxHeartbeats 200000 in
theorem r12_end_ok {l : Launch} {K : cK} {d : Nat} {I : wI} {L : wL} {R : wR} {dy : cH} (x : Int32) (hok : 0 ≤ x.toInt ∧ x.toInt ≤ (I 74 8).toInt) (hd : 0 ≤ d) : CE l K m12_end d [.ref 74, .int x] (hp I L R dy) (.int x) (hp (uI (uI I 74 0 0) 74 8 x) L R dy) := by
  refine CC.of ok12_end (Nat.le_of_ble_eq_true rfl) ?_
  refine g_aload_n d12_end_0 rfl ?_
  refine g_iconstv (nI 0) d12_end_1 rfl ?_
  refine g_putIh _ fl12_128 d12_end_2 f_74_0 s_74_0 ?_
  refine g_iload_n d12_end_5 rfl ?_
  refine g_iz_lt _ 17 (rfl) d12_end_6 rfl (fun c6 => absurd c6 (by omega)) (fun _ => ?_)
  refine g_iload_n d12_end_9 rfl ?_
  refine g_aload_n d12_end_10 rfl ?_
  refine g_get fl12_179 d12_end_11 f_74_8 ?_
  refine g_topI (I 74 (8)) rfl ?_
  refine g_ic_le _ _ 19 (rfl) (rfl) d12_end_14 rfl (fun _ => ?_) (fun c14 => absurd c14 (fun q => q hok.2))
  refine g_aload_n d12_end_19 rfl ?_
  refine g_iload_n d12_end_20 rfl ?_
  refine g_putIh _ fl12_179 d12_end_21 f_74_8 s_74_8 ?_
  refine g_iload_n d12_end_24 rfl ?_
  exact g_iret rfl d12_end_25 (⟨rfl, rfl⟩)
set_option maxHeartbeats 200000 in
theorem r12_count_0 {l : Launch} {K : cK} {d : Nat} {I : wI} {L : wL} {R : wR} {dy : cH} (x : Int32) (hx : x.toInt = 0) (hd : 1 ≤ d) : CE l K m12_count d [.ref 74, .int x] (hp I L R dy) (.int (I 76 0)) (hp (uI I 74 0 0) L R dy) := by
  refine CC.of ok12_count (Nat.le_of_ble_eq_true rfl) ?_
  refine g_aload_n d12_count_0 rfl ?_
  refine g_iconstv (nI 0) d12_count_1 rfl ?_
  refine g_putIh _ fl12_128 d12_count_2 f_74_0 s_74_0 ?_
  refine g_iload_n d12_count_5 rfl ?_
  by_cases w0 : x.toInt = 0
  · refine g_tabIn 68 d12_count_6 (by omega) (by omega) (by rw [w0]; rfl) rfl ?_
    refine g_aload_n d12_count_68 rfl ?_
    refine g_get fl12_13 d12_count_69 f_74_3 ?_
    refine g_iconstv (nI 0) d12_count_72 rfl ?_
    refine g_ialdN (0) d12_count_73 a_76 (rfl) (by omega) (by decide) ?_
    refine g_topI (I 76 (0)) rfl ?_
    exact g_iret rfl d12_count_74 (⟨rfl, rfl⟩)
  by_cases w1 : x.toInt = 1
  · refine g_tabIn 75 d12_count_6 (by omega) (by omega) (by rw [w1]; rfl) rfl ?_
    exfalso
    omega
  by_cases w2 : x.toInt = 2
  · refine g_tabIn 82 d12_count_6 (by omega) (by omega) (by rw [w2]; rfl) rfl ?_
    exfalso
    omega
  by_cases w3 : x.toInt = 3
  · refine g_tabIn 89 d12_count_6 (by omega) (by omega) (by rw [w3]; rfl) rfl ?_
    exfalso
    omega
  by_cases w4 : x.toInt = 4
  · refine g_tabIn 96 d12_count_6 (by omega) (by omega) (by rw [w4]; rfl) rfl ?_
    exfalso
    omega
  by_cases w5 : x.toInt = 5
  · refine g_tabIn 103 d12_count_6 (by omega) (by omega) (by rw [w5]; rfl) rfl ?_
    exfalso
    omega
  by_cases w6 : x.toInt = 6
  · refine g_tabIn 108 d12_count_6 (by omega) (by omega) (by rw [w6]; rfl) rfl ?_
    exfalso
    omega
  by_cases w7 : x.toInt = 7
  · refine g_tabIn 115 d12_count_6 (by omega) (by omega) (by rw [w7]; rfl) rfl ?_
    exfalso
    omega
  by_cases w8 : x.toInt = 8
  · refine g_tabIn 122 d12_count_6 (by omega) (by omega) (by rw [w8]; rfl) rfl ?_
    exfalso
    omega
  by_cases w9 : x.toInt = 9
  · refine g_tabIn 129 d12_count_6 (by omega) (by omega) (by rw [w9]; rfl) rfl ?_
    exfalso
    omega
  by_cases w10 : x.toInt = 10
  · refine g_tabIn 136 d12_count_6 (by omega) (by omega) (by rw [w10]; rfl) rfl ?_
    exfalso
    omega
  by_cases w11 : x.toInt = 11
  · refine g_tabIn 144 d12_count_6 (by omega) (by omega) (by rw [w11]; rfl) rfl ?_
    exfalso
    omega
  refine g_tabOut 151 d12_count_6 (by omega) rfl ?_
  refine g_iload_n d12_count_151 rfl ?_
  refine g_i2l d12_count_152 ?_
  refine g_ldc2 d12_count_153 kl12_174 ?_
  refine g_ldc2 d12_count_156 kl12_567 ?_
  refine g_ES3 sm12_in ml12_134 (r12_inI (ai := (12)) (bi := (19)) (i2l_int _) (by decide) (by decide) (Nat.le_refl 0)) (by omega) (by decide) d12_count_159 ?_
  refine g_bz 180 d12_count_162 rfl (fun c162 => ?_) (fun c162 => ?_)
  · exfalso
    omega
  · exfalso
    omega
set_option maxHeartbeats 200000 in
theorem r12_count_1 {l : Launch} {K : cK} {d : Nat} {I : wI} {L : wL} {R : wR} {dy : cH} (x : Int32) (hx : x.toInt = 1) (hd : 1 ≤ d) : CE l K m12_count d [.ref 74, .int x] (hp I L R dy) (.int (I 76 1)) (hp (uI I 74 0 0) L R dy) := by
  refine CC.of ok12_count (Nat.le_of_ble_eq_true rfl) ?_
  refine g_aload_n d12_count_0 rfl ?_
  refine g_iconstv (nI 0) d12_count_1 rfl ?_
  refine g_putIh _ fl12_128 d12_count_2 f_74_0 s_74_0 ?_
  refine g_iload_n d12_count_5 rfl ?_
  by_cases w0 : x.toInt = 0
  · refine g_tabIn 68 d12_count_6 (by omega) (by omega) (by rw [w0]; rfl) rfl ?_
    exfalso
    omega
  by_cases w1 : x.toInt = 1
  · refine g_tabIn 75 d12_count_6 (by omega) (by omega) (by rw [w1]; rfl) rfl ?_
    refine g_aload_n d12_count_75 rfl ?_
    refine g_get fl12_13 d12_count_76 f_74_3 ?_
    refine g_iconstv (nI 1) d12_count_79 rfl ?_
    refine g_ialdN (1) d12_count_80 a_76 (rfl) (by omega) (by decide) ?_
    refine g_topI (I 76 (1)) rfl ?_
    exact g_iret rfl d12_count_81 (⟨rfl, rfl⟩)
  by_cases w2 : x.toInt = 2
  · refine g_tabIn 82 d12_count_6 (by omega) (by omega) (by rw [w2]; rfl) rfl ?_
    exfalso
    omega
  by_cases w3 : x.toInt = 3
  · refine g_tabIn 89 d12_count_6 (by omega) (by omega) (by rw [w3]; rfl) rfl ?_
    exfalso
    omega
  by_cases w4 : x.toInt = 4
  · refine g_tabIn 96 d12_count_6 (by omega) (by omega) (by rw [w4]; rfl) rfl ?_
    exfalso
    omega
  by_cases w5 : x.toInt = 5
  · refine g_tabIn 103 d12_count_6 (by omega) (by omega) (by rw [w5]; rfl) rfl ?_
    exfalso
    omega
  by_cases w6 : x.toInt = 6
  · refine g_tabIn 108 d12_count_6 (by omega) (by omega) (by rw [w6]; rfl) rfl ?_
    exfalso
    omega
  by_cases w7 : x.toInt = 7
  · refine g_tabIn 115 d12_count_6 (by omega) (by omega) (by rw [w7]; rfl) rfl ?_
    exfalso
    omega
  by_cases w8 : x.toInt = 8
  · refine g_tabIn 122 d12_count_6 (by omega) (by omega) (by rw [w8]; rfl) rfl ?_
    exfalso
    omega
  by_cases w9 : x.toInt = 9
  · refine g_tabIn 129 d12_count_6 (by omega) (by omega) (by rw [w9]; rfl) rfl ?_
    exfalso
    omega
  by_cases w10 : x.toInt = 10
  · refine g_tabIn 136 d12_count_6 (by omega) (by omega) (by rw [w10]; rfl) rfl ?_
    exfalso
    omega
  by_cases w11 : x.toInt = 11
  · refine g_tabIn 144 d12_count_6 (by omega) (by omega) (by rw [w11]; rfl) rfl ?_
    exfalso
    omega
  refine g_tabOut 151 d12_count_6 (by omega) rfl ?_
  refine g_iload_n d12_count_151 rfl ?_
  refine g_i2l d12_count_152 ?_
  refine g_ldc2 d12_count_153 kl12_174 ?_
  refine g_ldc2 d12_count_156 kl12_567 ?_
  refine g_ES3 sm12_in ml12_134 (r12_inI (ai := (12)) (bi := (19)) (i2l_int _) (by decide) (by decide) (Nat.le_refl 0)) (by omega) (by decide) d12_count_159 ?_
  refine g_bz 180 d12_count_162 rfl (fun c162 => ?_) (fun c162 => ?_)
  · exfalso
    omega
  · exfalso
    omega
set_option maxHeartbeats 200000 in
theorem r12_count_2 {l : Launch} {K : cK} {d : Nat} {I : wI} {L : wL} {R : wR} {dy : cH} (x : Int32) (hx : x.toInt = 2) (hd : 1 ≤ d) : CE l K m12_count d [.ref 74, .int x] (hp I L R dy) (.int (I 76 2)) (hp (uI I 74 0 0) L R dy) := by
  refine CC.of ok12_count (Nat.le_of_ble_eq_true rfl) ?_
  refine g_aload_n d12_count_0 rfl ?_
  refine g_iconstv (nI 0) d12_count_1 rfl ?_
  refine g_putIh _ fl12_128 d12_count_2 f_74_0 s_74_0 ?_
  refine g_iload_n d12_count_5 rfl ?_
  by_cases w0 : x.toInt = 0
  · refine g_tabIn 68 d12_count_6 (by omega) (by omega) (by rw [w0]; rfl) rfl ?_
    exfalso
    omega
  by_cases w1 : x.toInt = 1
  · refine g_tabIn 75 d12_count_6 (by omega) (by omega) (by rw [w1]; rfl) rfl ?_
    exfalso
    omega
  by_cases w2 : x.toInt = 2
  · refine g_tabIn 82 d12_count_6 (by omega) (by omega) (by rw [w2]; rfl) rfl ?_
    refine g_aload_n d12_count_82 rfl ?_
    refine g_get fl12_13 d12_count_83 f_74_3 ?_
    refine g_iconstv (nI 2) d12_count_86 rfl ?_
    refine g_ialdN (2) d12_count_87 a_76 (rfl) (by omega) (by decide) ?_
    refine g_topI (I 76 (2)) rfl ?_
    exact g_iret rfl d12_count_88 (⟨rfl, rfl⟩)
  by_cases w3 : x.toInt = 3
  · refine g_tabIn 89 d12_count_6 (by omega) (by omega) (by rw [w3]; rfl) rfl ?_
    exfalso
    omega
  by_cases w4 : x.toInt = 4
  · refine g_tabIn 96 d12_count_6 (by omega) (by omega) (by rw [w4]; rfl) rfl ?_
    exfalso
    omega
  by_cases w5 : x.toInt = 5
  · refine g_tabIn 103 d12_count_6 (by omega) (by omega) (by rw [w5]; rfl) rfl ?_
    exfalso
    omega
  by_cases w6 : x.toInt = 6
  · refine g_tabIn 108 d12_count_6 (by omega) (by omega) (by rw [w6]; rfl) rfl ?_
    exfalso
    omega
  by_cases w7 : x.toInt = 7
  · refine g_tabIn 115 d12_count_6 (by omega) (by omega) (by rw [w7]; rfl) rfl ?_
    exfalso
    omega
  by_cases w8 : x.toInt = 8
  · refine g_tabIn 122 d12_count_6 (by omega) (by omega) (by rw [w8]; rfl) rfl ?_
    exfalso
    omega
  by_cases w9 : x.toInt = 9
  · refine g_tabIn 129 d12_count_6 (by omega) (by omega) (by rw [w9]; rfl) rfl ?_
    exfalso
    omega
  by_cases w10 : x.toInt = 10
  · refine g_tabIn 136 d12_count_6 (by omega) (by omega) (by rw [w10]; rfl) rfl ?_
    exfalso
    omega
  by_cases w11 : x.toInt = 11
  · refine g_tabIn 144 d12_count_6 (by omega) (by omega) (by rw [w11]; rfl) rfl ?_
    exfalso
    omega
  refine g_tabOut 151 d12_count_6 (by omega) rfl ?_
  refine g_iload_n d12_count_151 rfl ?_
  refine g_i2l d12_count_152 ?_
  refine g_ldc2 d12_count_153 kl12_174 ?_
  refine g_ldc2 d12_count_156 kl12_567 ?_
  refine g_ES3 sm12_in ml12_134 (r12_inI (ai := (12)) (bi := (19)) (i2l_int _) (by decide) (by decide) (Nat.le_refl 0)) (by omega) (by decide) d12_count_159 ?_
  refine g_bz 180 d12_count_162 rfl (fun c162 => ?_) (fun c162 => ?_)
  · exfalso
    omega
  · exfalso
    omega
set_option maxHeartbeats 200000 in
theorem r12_count_3 {l : Launch} {K : cK} {d : Nat} {I : wI} {L : wL} {R : wR} {dy : cH} (x : Int32) (hx : x.toInt = 3) (hd : 1 ≤ d) : CE l K m12_count d [.ref 74, .int x] (hp I L R dy) (.int (I 76 3)) (hp (uI I 74 0 0) L R dy) := by
  refine CC.of ok12_count (Nat.le_of_ble_eq_true rfl) ?_
  refine g_aload_n d12_count_0 rfl ?_
  refine g_iconstv (nI 0) d12_count_1 rfl ?_
  refine g_putIh _ fl12_128 d12_count_2 f_74_0 s_74_0 ?_
  refine g_iload_n d12_count_5 rfl ?_
  by_cases w0 : x.toInt = 0
  · refine g_tabIn 68 d12_count_6 (by omega) (by omega) (by rw [w0]; rfl) rfl ?_
    exfalso
    omega
  by_cases w1 : x.toInt = 1
  · refine g_tabIn 75 d12_count_6 (by omega) (by omega) (by rw [w1]; rfl) rfl ?_
    exfalso
    omega
  by_cases w2 : x.toInt = 2
  · refine g_tabIn 82 d12_count_6 (by omega) (by omega) (by rw [w2]; rfl) rfl ?_
    exfalso
    omega
  by_cases w3 : x.toInt = 3
  · refine g_tabIn 89 d12_count_6 (by omega) (by omega) (by rw [w3]; rfl) rfl ?_
    refine g_aload_n d12_count_89 rfl ?_
    refine g_get fl12_13 d12_count_90 f_74_3 ?_
    refine g_iconstv (nI 3) d12_count_93 rfl ?_
    refine g_ialdN (3) d12_count_94 a_76 (rfl) (by omega) (by decide) ?_
    refine g_topI (I 76 (3)) rfl ?_
    exact g_iret rfl d12_count_95 (⟨rfl, rfl⟩)
  by_cases w4 : x.toInt = 4
  · refine g_tabIn 96 d12_count_6 (by omega) (by omega) (by rw [w4]; rfl) rfl ?_
    exfalso
    omega
  by_cases w5 : x.toInt = 5
  · refine g_tabIn 103 d12_count_6 (by omega) (by omega) (by rw [w5]; rfl) rfl ?_
    exfalso
    omega
  by_cases w6 : x.toInt = 6
  · refine g_tabIn 108 d12_count_6 (by omega) (by omega) (by rw [w6]; rfl) rfl ?_
    exfalso
    omega
  by_cases w7 : x.toInt = 7
  · refine g_tabIn 115 d12_count_6 (by omega) (by omega) (by rw [w7]; rfl) rfl ?_
    exfalso
    omega
  by_cases w8 : x.toInt = 8
  · refine g_tabIn 122 d12_count_6 (by omega) (by omega) (by rw [w8]; rfl) rfl ?_
    exfalso
    omega
  by_cases w9 : x.toInt = 9
  · refine g_tabIn 129 d12_count_6 (by omega) (by omega) (by rw [w9]; rfl) rfl ?_
    exfalso
    omega
  by_cases w10 : x.toInt = 10
  · refine g_tabIn 136 d12_count_6 (by omega) (by omega) (by rw [w10]; rfl) rfl ?_
    exfalso
    omega
  by_cases w11 : x.toInt = 11
  · refine g_tabIn 144 d12_count_6 (by omega) (by omega) (by rw [w11]; rfl) rfl ?_
    exfalso
    omega
  refine g_tabOut 151 d12_count_6 (by omega) rfl ?_
  refine g_iload_n d12_count_151 rfl ?_
  refine g_i2l d12_count_152 ?_
  refine g_ldc2 d12_count_153 kl12_174 ?_
  refine g_ldc2 d12_count_156 kl12_567 ?_
  refine g_ES3 sm12_in ml12_134 (r12_inI (ai := (12)) (bi := (19)) (i2l_int _) (by decide) (by decide) (Nat.le_refl 0)) (by omega) (by decide) d12_count_159 ?_
  refine g_bz 180 d12_count_162 rfl (fun c162 => ?_) (fun c162 => ?_)
  · exfalso
    omega
  · exfalso
    omega
set_option maxHeartbeats 200000 in
theorem r12_count_4 {l : Launch} {K : cK} {d : Nat} {I : wI} {L : wL} {R : wR} {dy : cH} (x : Int32) (hx : x.toInt = 4) (hd : 1 ≤ d) : CE l K m12_count d [.ref 74, .int x] (hp I L R dy) (.int (I 76 4)) (hp (uI I 74 0 0) L R dy) := by
  refine CC.of ok12_count (Nat.le_of_ble_eq_true rfl) ?_
  refine g_aload_n d12_count_0 rfl ?_
  refine g_iconstv (nI 0) d12_count_1 rfl ?_
  refine g_putIh _ fl12_128 d12_count_2 f_74_0 s_74_0 ?_
  refine g_iload_n d12_count_5 rfl ?_
  by_cases w0 : x.toInt = 0
  · refine g_tabIn 68 d12_count_6 (by omega) (by omega) (by rw [w0]; rfl) rfl ?_
    exfalso
    omega
  by_cases w1 : x.toInt = 1
  · refine g_tabIn 75 d12_count_6 (by omega) (by omega) (by rw [w1]; rfl) rfl ?_
    exfalso
    omega
  by_cases w2 : x.toInt = 2
  · refine g_tabIn 82 d12_count_6 (by omega) (by omega) (by rw [w2]; rfl) rfl ?_
    exfalso
    omega
  by_cases w3 : x.toInt = 3
  · refine g_tabIn 89 d12_count_6 (by omega) (by omega) (by rw [w3]; rfl) rfl ?_
    exfalso
    omega
  by_cases w4 : x.toInt = 4
  · refine g_tabIn 96 d12_count_6 (by omega) (by omega) (by rw [w4]; rfl) rfl ?_
    refine g_aload_n d12_count_96 rfl ?_
    refine g_get fl12_13 d12_count_97 f_74_3 ?_
    refine g_iconstv (nI 4) d12_count_100 rfl ?_
    refine g_ialdN (4) d12_count_101 a_76 (rfl) (by omega) (by decide) ?_
    refine g_topI (I 76 (4)) rfl ?_
    exact g_iret rfl d12_count_102 (⟨rfl, rfl⟩)
  by_cases w5 : x.toInt = 5
  · refine g_tabIn 103 d12_count_6 (by omega) (by omega) (by rw [w5]; rfl) rfl ?_
    exfalso
    omega
  by_cases w6 : x.toInt = 6
  · refine g_tabIn 108 d12_count_6 (by omega) (by omega) (by rw [w6]; rfl) rfl ?_
    exfalso
    omega
  by_cases w7 : x.toInt = 7
  · refine g_tabIn 115 d12_count_6 (by omega) (by omega) (by rw [w7]; rfl) rfl ?_
    exfalso
    omega
  by_cases w8 : x.toInt = 8
  · refine g_tabIn 122 d12_count_6 (by omega) (by omega) (by rw [w8]; rfl) rfl ?_
    exfalso
    omega
  by_cases w9 : x.toInt = 9
  · refine g_tabIn 129 d12_count_6 (by omega) (by omega) (by rw [w9]; rfl) rfl ?_
    exfalso
    omega
  by_cases w10 : x.toInt = 10
  · refine g_tabIn 136 d12_count_6 (by omega) (by omega) (by rw [w10]; rfl) rfl ?_
    exfalso
    omega
  by_cases w11 : x.toInt = 11
  · refine g_tabIn 144 d12_count_6 (by omega) (by omega) (by rw [w11]; rfl) rfl ?_
    exfalso
    omega
  refine g_tabOut 151 d12_count_6 (by omega) rfl ?_
  refine g_iload_n d12_count_151 rfl ?_
  refine g_i2l d12_count_152 ?_
  refine g_ldc2 d12_count_153 kl12_174 ?_
  refine g_ldc2 d12_count_156 kl12_567 ?_
  refine g_ES3 sm12_in ml12_134 (r12_inI (ai := (12)) (bi := (19)) (i2l_int _) (by decide) (by decide) (Nat.le_refl 0)) (by omega) (by decide) d12_count_159 ?_
  refine g_bz 180 d12_count_162 rfl (fun c162 => ?_) (fun c162 => ?_)
  · exfalso
    omega
  · exfalso
    omega
set_option maxHeartbeats 200000 in
theorem r12_count_5 {l : Launch} {K : cK} {d : Nat} {I : wI} {L : wL} {R : wR} {dy : cH} (x : Int32) (hx : x.toInt = 5) (hd : 1 ≤ d) : CE l K m12_count d [.ref 74, .int x] (hp I L R dy) (.int (I 74 8)) (hp (uI I 74 0 0) L R dy) := by
  refine CC.of ok12_count (Nat.le_of_ble_eq_true rfl) ?_
  refine g_aload_n d12_count_0 rfl ?_
  refine g_iconstv (nI 0) d12_count_1 rfl ?_
  refine g_putIh _ fl12_128 d12_count_2 f_74_0 s_74_0 ?_
  refine g_iload_n d12_count_5 rfl ?_
  by_cases w0 : x.toInt = 0
  · refine g_tabIn 68 d12_count_6 (by omega) (by omega) (by rw [w0]; rfl) rfl ?_
    exfalso
    omega
  by_cases w1 : x.toInt = 1
  · refine g_tabIn 75 d12_count_6 (by omega) (by omega) (by rw [w1]; rfl) rfl ?_
    exfalso
    omega
  by_cases w2 : x.toInt = 2
  · refine g_tabIn 82 d12_count_6 (by omega) (by omega) (by rw [w2]; rfl) rfl ?_
    exfalso
    omega
  by_cases w3 : x.toInt = 3
  · refine g_tabIn 89 d12_count_6 (by omega) (by omega) (by rw [w3]; rfl) rfl ?_
    exfalso
    omega
  by_cases w4 : x.toInt = 4
  · refine g_tabIn 96 d12_count_6 (by omega) (by omega) (by rw [w4]; rfl) rfl ?_
    exfalso
    omega
  by_cases w5 : x.toInt = 5
  · refine g_tabIn 103 d12_count_6 (by omega) (by omega) (by rw [w5]; rfl) rfl ?_
    refine g_aload_n d12_count_103 rfl ?_
    refine g_get fl12_179 d12_count_104 f_74_8 ?_
    refine g_topI (I 74 (8)) rfl ?_
    exact g_iret rfl d12_count_107 (⟨rfl, rfl⟩)
  by_cases w6 : x.toInt = 6
  · refine g_tabIn 108 d12_count_6 (by omega) (by omega) (by rw [w6]; rfl) rfl ?_
    exfalso
    omega
  by_cases w7 : x.toInt = 7
  · refine g_tabIn 115 d12_count_6 (by omega) (by omega) (by rw [w7]; rfl) rfl ?_
    exfalso
    omega
  by_cases w8 : x.toInt = 8
  · refine g_tabIn 122 d12_count_6 (by omega) (by omega) (by rw [w8]; rfl) rfl ?_
    exfalso
    omega
  by_cases w9 : x.toInt = 9
  · refine g_tabIn 129 d12_count_6 (by omega) (by omega) (by rw [w9]; rfl) rfl ?_
    exfalso
    omega
  by_cases w10 : x.toInt = 10
  · refine g_tabIn 136 d12_count_6 (by omega) (by omega) (by rw [w10]; rfl) rfl ?_
    exfalso
    omega
  by_cases w11 : x.toInt = 11
  · refine g_tabIn 144 d12_count_6 (by omega) (by omega) (by rw [w11]; rfl) rfl ?_
    exfalso
    omega
  refine g_tabOut 151 d12_count_6 (by omega) rfl ?_
  refine g_iload_n d12_count_151 rfl ?_
  refine g_i2l d12_count_152 ?_
  refine g_ldc2 d12_count_153 kl12_174 ?_
  refine g_ldc2 d12_count_156 kl12_567 ?_
  refine g_ES3 sm12_in ml12_134 (r12_inI (ai := (12)) (bi := (19)) (i2l_int _) (by decide) (by decide) (Nat.le_refl 0)) (by omega) (by decide) d12_count_159 ?_
  refine g_bz 180 d12_count_162 rfl (fun c162 => ?_) (fun c162 => ?_)
  · exfalso
    omega
  · exfalso
    omega
set_option maxHeartbeats 200000 in
theorem r12_count_6 {l : Launch} {K : cK} {d : Nat} {I : wI} {L : wL} {R : wR} {dy : cH} (x : Int32) (hx : x.toInt = 6) (hd : 1 ≤ d) : CE l K m12_count d [.ref 74, .int x] (hp I L R dy) (.int (I 75 1)) (hp (uI I 74 0 0) L R dy) := by
  refine CC.of ok12_count (Nat.le_of_ble_eq_true rfl) ?_
  refine g_aload_n d12_count_0 rfl ?_
  refine g_iconstv (nI 0) d12_count_1 rfl ?_
  refine g_putIh _ fl12_128 d12_count_2 f_74_0 s_74_0 ?_
  refine g_iload_n d12_count_5 rfl ?_
  by_cases w0 : x.toInt = 0
  · refine g_tabIn 68 d12_count_6 (by omega) (by omega) (by rw [w0]; rfl) rfl ?_
    exfalso
    omega
  by_cases w1 : x.toInt = 1
  · refine g_tabIn 75 d12_count_6 (by omega) (by omega) (by rw [w1]; rfl) rfl ?_
    exfalso
    omega
  by_cases w2 : x.toInt = 2
  · refine g_tabIn 82 d12_count_6 (by omega) (by omega) (by rw [w2]; rfl) rfl ?_
    exfalso
    omega
  by_cases w3 : x.toInt = 3
  · refine g_tabIn 89 d12_count_6 (by omega) (by omega) (by rw [w3]; rfl) rfl ?_
    exfalso
    omega
  by_cases w4 : x.toInt = 4
  · refine g_tabIn 96 d12_count_6 (by omega) (by omega) (by rw [w4]; rfl) rfl ?_
    exfalso
    omega
  by_cases w5 : x.toInt = 5
  · refine g_tabIn 103 d12_count_6 (by omega) (by omega) (by rw [w5]; rfl) rfl ?_
    exfalso
    omega
  by_cases w6 : x.toInt = 6
  · refine g_tabIn 108 d12_count_6 (by omega) (by omega) (by rw [w6]; rfl) rfl ?_
    refine g_aload_n d12_count_108 rfl ?_
    refine g_get fl12_7 d12_count_109 f_74_2 ?_
    refine g_iconstv (nI 1) d12_count_112 rfl ?_
    refine g_ialdN (1) d12_count_113 a_75 (rfl) (by omega) (by decide) ?_
    refine g_topI (I 75 (1)) rfl ?_
    exact g_iret rfl d12_count_114 (⟨rfl, rfl⟩)
  by_cases w7 : x.toInt = 7
  · refine g_tabIn 115 d12_count_6 (by omega) (by omega) (by rw [w7]; rfl) rfl ?_
    exfalso
    omega
  by_cases w8 : x.toInt = 8
  · refine g_tabIn 122 d12_count_6 (by omega) (by omega) (by rw [w8]; rfl) rfl ?_
    exfalso
    omega
  by_cases w9 : x.toInt = 9
  · refine g_tabIn 129 d12_count_6 (by omega) (by omega) (by rw [w9]; rfl) rfl ?_
    exfalso
    omega
  by_cases w10 : x.toInt = 10
  · refine g_tabIn 136 d12_count_6 (by omega) (by omega) (by rw [w10]; rfl) rfl ?_
    exfalso
    omega
  by_cases w11 : x.toInt = 11
  · refine g_tabIn 144 d12_count_6 (by omega) (by omega) (by rw [w11]; rfl) rfl ?_
    exfalso
    omega
  refine g_tabOut 151 d12_count_6 (by omega) rfl ?_
  refine g_iload_n d12_count_151 rfl ?_
  refine g_i2l d12_count_152 ?_
  refine g_ldc2 d12_count_153 kl12_174 ?_
  refine g_ldc2 d12_count_156 kl12_567 ?_
  refine g_ES3 sm12_in ml12_134 (r12_inI (ai := (12)) (bi := (19)) (i2l_int _) (by decide) (by decide) (Nat.le_refl 0)) (by omega) (by decide) d12_count_159 ?_
  refine g_bz 180 d12_count_162 rfl (fun c162 => ?_) (fun c162 => ?_)
  · exfalso
    omega
  · exfalso
    omega
set_option maxHeartbeats 200000 in
theorem r12_count_7 {l : Launch} {K : cK} {d : Nat} {I : wI} {L : wL} {R : wR} {dy : cH} (x : Int32) (hx : x.toInt = 7) (hd : 1 ≤ d) : CE l K m12_count d [.ref 74, .int x] (hp I L R dy) (.int (I 75 2)) (hp (uI I 74 0 0) L R dy) := by
  refine CC.of ok12_count (Nat.le_of_ble_eq_true rfl) ?_
  refine g_aload_n d12_count_0 rfl ?_
  refine g_iconstv (nI 0) d12_count_1 rfl ?_
  refine g_putIh _ fl12_128 d12_count_2 f_74_0 s_74_0 ?_
  refine g_iload_n d12_count_5 rfl ?_
  by_cases w0 : x.toInt = 0
  · refine g_tabIn 68 d12_count_6 (by omega) (by omega) (by rw [w0]; rfl) rfl ?_
    exfalso
    omega
  by_cases w1 : x.toInt = 1
  · refine g_tabIn 75 d12_count_6 (by omega) (by omega) (by rw [w1]; rfl) rfl ?_
    exfalso
    omega
  by_cases w2 : x.toInt = 2
  · refine g_tabIn 82 d12_count_6 (by omega) (by omega) (by rw [w2]; rfl) rfl ?_
    exfalso
    omega
  by_cases w3 : x.toInt = 3
  · refine g_tabIn 89 d12_count_6 (by omega) (by omega) (by rw [w3]; rfl) rfl ?_
    exfalso
    omega
  by_cases w4 : x.toInt = 4
  · refine g_tabIn 96 d12_count_6 (by omega) (by omega) (by rw [w4]; rfl) rfl ?_
    exfalso
    omega
  by_cases w5 : x.toInt = 5
  · refine g_tabIn 103 d12_count_6 (by omega) (by omega) (by rw [w5]; rfl) rfl ?_
    exfalso
    omega
  by_cases w6 : x.toInt = 6
  · refine g_tabIn 108 d12_count_6 (by omega) (by omega) (by rw [w6]; rfl) rfl ?_
    exfalso
    omega
  by_cases w7 : x.toInt = 7
  · refine g_tabIn 115 d12_count_6 (by omega) (by omega) (by rw [w7]; rfl) rfl ?_
    refine g_aload_n d12_count_115 rfl ?_
    refine g_get fl12_7 d12_count_116 f_74_2 ?_
    refine g_iconstv (nI 2) d12_count_119 rfl ?_
    refine g_ialdN (2) d12_count_120 a_75 (rfl) (by omega) (by decide) ?_
    refine g_topI (I 75 (2)) rfl ?_
    exact g_iret rfl d12_count_121 (⟨rfl, rfl⟩)
  by_cases w8 : x.toInt = 8
  · refine g_tabIn 122 d12_count_6 (by omega) (by omega) (by rw [w8]; rfl) rfl ?_
    exfalso
    omega
  by_cases w9 : x.toInt = 9
  · refine g_tabIn 129 d12_count_6 (by omega) (by omega) (by rw [w9]; rfl) rfl ?_
    exfalso
    omega
  by_cases w10 : x.toInt = 10
  · refine g_tabIn 136 d12_count_6 (by omega) (by omega) (by rw [w10]; rfl) rfl ?_
    exfalso
    omega
  by_cases w11 : x.toInt = 11
  · refine g_tabIn 144 d12_count_6 (by omega) (by omega) (by rw [w11]; rfl) rfl ?_
    exfalso
    omega
  refine g_tabOut 151 d12_count_6 (by omega) rfl ?_
  refine g_iload_n d12_count_151 rfl ?_
  refine g_i2l d12_count_152 ?_
  refine g_ldc2 d12_count_153 kl12_174 ?_
  refine g_ldc2 d12_count_156 kl12_567 ?_
  refine g_ES3 sm12_in ml12_134 (r12_inI (ai := (12)) (bi := (19)) (i2l_int _) (by decide) (by decide) (Nat.le_refl 0)) (by omega) (by decide) d12_count_159 ?_
  refine g_bz 180 d12_count_162 rfl (fun c162 => ?_) (fun c162 => ?_)
  · exfalso
    omega
  · exfalso
    omega
set_option maxHeartbeats 200000 in
theorem r12_count_8 {l : Launch} {K : cK} {d : Nat} {I : wI} {L : wL} {R : wR} {dy : cH} (x : Int32) (hx : x.toInt = 8) (hd : 1 ≤ d) : CE l K m12_count d [.ref 74, .int x] (hp I L R dy) (.int (I 75 3)) (hp (uI I 74 0 0) L R dy) := by
  refine CC.of ok12_count (Nat.le_of_ble_eq_true rfl) ?_
  refine g_aload_n d12_count_0 rfl ?_
  refine g_iconstv (nI 0) d12_count_1 rfl ?_
  refine g_putIh _ fl12_128 d12_count_2 f_74_0 s_74_0 ?_
  refine g_iload_n d12_count_5 rfl ?_
  by_cases w0 : x.toInt = 0
  · refine g_tabIn 68 d12_count_6 (by omega) (by omega) (by rw [w0]; rfl) rfl ?_
    exfalso
    omega
  by_cases w1 : x.toInt = 1
  · refine g_tabIn 75 d12_count_6 (by omega) (by omega) (by rw [w1]; rfl) rfl ?_
    exfalso
    omega
  by_cases w2 : x.toInt = 2
  · refine g_tabIn 82 d12_count_6 (by omega) (by omega) (by rw [w2]; rfl) rfl ?_
    exfalso
    omega
  by_cases w3 : x.toInt = 3
  · refine g_tabIn 89 d12_count_6 (by omega) (by omega) (by rw [w3]; rfl) rfl ?_
    exfalso
    omega
  by_cases w4 : x.toInt = 4
  · refine g_tabIn 96 d12_count_6 (by omega) (by omega) (by rw [w4]; rfl) rfl ?_
    exfalso
    omega
  by_cases w5 : x.toInt = 5
  · refine g_tabIn 103 d12_count_6 (by omega) (by omega) (by rw [w5]; rfl) rfl ?_
    exfalso
    omega
  by_cases w6 : x.toInt = 6
  · refine g_tabIn 108 d12_count_6 (by omega) (by omega) (by rw [w6]; rfl) rfl ?_
    exfalso
    omega
  by_cases w7 : x.toInt = 7
  · refine g_tabIn 115 d12_count_6 (by omega) (by omega) (by rw [w7]; rfl) rfl ?_
    exfalso
    omega
  by_cases w8 : x.toInt = 8
  · refine g_tabIn 122 d12_count_6 (by omega) (by omega) (by rw [w8]; rfl) rfl ?_
    refine g_aload_n d12_count_122 rfl ?_
    refine g_get fl12_7 d12_count_123 f_74_2 ?_
    refine g_iconstv (nI 3) d12_count_126 rfl ?_
    refine g_ialdN (3) d12_count_127 a_75 (rfl) (by omega) (by decide) ?_
    refine g_topI (I 75 (3)) rfl ?_
    exact g_iret rfl d12_count_128 (⟨rfl, rfl⟩)
  by_cases w9 : x.toInt = 9
  · refine g_tabIn 129 d12_count_6 (by omega) (by omega) (by rw [w9]; rfl) rfl ?_
    exfalso
    omega
  by_cases w10 : x.toInt = 10
  · refine g_tabIn 136 d12_count_6 (by omega) (by omega) (by rw [w10]; rfl) rfl ?_
    exfalso
    omega
  by_cases w11 : x.toInt = 11
  · refine g_tabIn 144 d12_count_6 (by omega) (by omega) (by rw [w11]; rfl) rfl ?_
    exfalso
    omega
  refine g_tabOut 151 d12_count_6 (by omega) rfl ?_
  refine g_iload_n d12_count_151 rfl ?_
  refine g_i2l d12_count_152 ?_
  refine g_ldc2 d12_count_153 kl12_174 ?_
  refine g_ldc2 d12_count_156 kl12_567 ?_
  refine g_ES3 sm12_in ml12_134 (r12_inI (ai := (12)) (bi := (19)) (i2l_int _) (by decide) (by decide) (Nat.le_refl 0)) (by omega) (by decide) d12_count_159 ?_
  refine g_bz 180 d12_count_162 rfl (fun c162 => ?_) (fun c162 => ?_)
  · exfalso
    omega
  · exfalso
    omega
set_option maxHeartbeats 200000 in
theorem r12_count_9 {l : Launch} {K : cK} {d : Nat} {I : wI} {L : wL} {R : wR} {dy : cH} (x : Int32) (hx : x.toInt = 9) (hd : 1 ≤ d) : CE l K m12_count d [.ref 74, .int x] (hp I L R dy) (.int (I 75 5)) (hp (uI I 74 0 0) L R dy) := by
  refine CC.of ok12_count (Nat.le_of_ble_eq_true rfl) ?_
  refine g_aload_n d12_count_0 rfl ?_
  refine g_iconstv (nI 0) d12_count_1 rfl ?_
  refine g_putIh _ fl12_128 d12_count_2 f_74_0 s_74_0 ?_
  refine g_iload_n d12_count_5 rfl ?_
  by_cases w0 : x.toInt = 0
  · refine g_tabIn 68 d12_count_6 (by omega) (by omega) (by rw [w0]; rfl) rfl ?_
    exfalso
    omega
  by_cases w1 : x.toInt = 1
  · refine g_tabIn 75 d12_count_6 (by omega) (by omega) (by rw [w1]; rfl) rfl ?_
    exfalso
    omega
  by_cases w2 : x.toInt = 2
  · refine g_tabIn 82 d12_count_6 (by omega) (by omega) (by rw [w2]; rfl) rfl ?_
    exfalso
    omega
  by_cases w3 : x.toInt = 3
  · refine g_tabIn 89 d12_count_6 (by omega) (by omega) (by rw [w3]; rfl) rfl ?_
    exfalso
    omega
  by_cases w4 : x.toInt = 4
  · refine g_tabIn 96 d12_count_6 (by omega) (by omega) (by rw [w4]; rfl) rfl ?_
    exfalso
    omega
  by_cases w5 : x.toInt = 5
  · refine g_tabIn 103 d12_count_6 (by omega) (by omega) (by rw [w5]; rfl) rfl ?_
    exfalso
    omega
  by_cases w6 : x.toInt = 6
  · refine g_tabIn 108 d12_count_6 (by omega) (by omega) (by rw [w6]; rfl) rfl ?_
    exfalso
    omega
  by_cases w7 : x.toInt = 7
  · refine g_tabIn 115 d12_count_6 (by omega) (by omega) (by rw [w7]; rfl) rfl ?_
    exfalso
    omega
  by_cases w8 : x.toInt = 8
  · refine g_tabIn 122 d12_count_6 (by omega) (by omega) (by rw [w8]; rfl) rfl ?_
    exfalso
    omega
  by_cases w9 : x.toInt = 9
  · refine g_tabIn 129 d12_count_6 (by omega) (by omega) (by rw [w9]; rfl) rfl ?_
    refine g_aload_n d12_count_129 rfl ?_
    refine g_get fl12_7 d12_count_130 f_74_2 ?_
    refine g_iconstv (nI 5) d12_count_133 rfl ?_
    refine g_ialdN (5) d12_count_134 a_75 (rfl) (by omega) (by decide) ?_
    refine g_topI (I 75 (5)) rfl ?_
    exact g_iret rfl d12_count_135 (⟨rfl, rfl⟩)
  by_cases w10 : x.toInt = 10
  · refine g_tabIn 136 d12_count_6 (by omega) (by omega) (by rw [w10]; rfl) rfl ?_
    exfalso
    omega
  by_cases w11 : x.toInt = 11
  · refine g_tabIn 144 d12_count_6 (by omega) (by omega) (by rw [w11]; rfl) rfl ?_
    exfalso
    omega
  refine g_tabOut 151 d12_count_6 (by omega) rfl ?_
  refine g_iload_n d12_count_151 rfl ?_
  refine g_i2l d12_count_152 ?_
  refine g_ldc2 d12_count_153 kl12_174 ?_
  refine g_ldc2 d12_count_156 kl12_567 ?_
  refine g_ES3 sm12_in ml12_134 (r12_inI (ai := (12)) (bi := (19)) (i2l_int _) (by decide) (by decide) (Nat.le_refl 0)) (by omega) (by decide) d12_count_159 ?_
  refine g_bz 180 d12_count_162 rfl (fun c162 => ?_) (fun c162 => ?_)
  · exfalso
    omega
  · exfalso
    omega
set_option maxHeartbeats 200000 in
theorem r12_count_10 {l : Launch} {K : cK} {d : Nat} {I : wI} {L : wL} {R : wR} {dy : cH} (x : Int32) (hx : x.toInt = 10) (hd : 1 ≤ d) : CE l K m12_count d [.ref 74, .int x] (hp I L R dy) (.int (I 75 6)) (hp (uI I 74 0 0) L R dy) := by
  refine CC.of ok12_count (Nat.le_of_ble_eq_true rfl) ?_
  refine g_aload_n d12_count_0 rfl ?_
  refine g_iconstv (nI 0) d12_count_1 rfl ?_
  refine g_putIh _ fl12_128 d12_count_2 f_74_0 s_74_0 ?_
  refine g_iload_n d12_count_5 rfl ?_
  by_cases w0 : x.toInt = 0
  · refine g_tabIn 68 d12_count_6 (by omega) (by omega) (by rw [w0]; rfl) rfl ?_
    exfalso
    omega
  by_cases w1 : x.toInt = 1
  · refine g_tabIn 75 d12_count_6 (by omega) (by omega) (by rw [w1]; rfl) rfl ?_
    exfalso
    omega
  by_cases w2 : x.toInt = 2
  · refine g_tabIn 82 d12_count_6 (by omega) (by omega) (by rw [w2]; rfl) rfl ?_
    exfalso
    omega
  by_cases w3 : x.toInt = 3
  · refine g_tabIn 89 d12_count_6 (by omega) (by omega) (by rw [w3]; rfl) rfl ?_
    exfalso
    omega
  by_cases w4 : x.toInt = 4
  · refine g_tabIn 96 d12_count_6 (by omega) (by omega) (by rw [w4]; rfl) rfl ?_
    exfalso
    omega
  by_cases w5 : x.toInt = 5
  · refine g_tabIn 103 d12_count_6 (by omega) (by omega) (by rw [w5]; rfl) rfl ?_
    exfalso
    omega
  by_cases w6 : x.toInt = 6
  · refine g_tabIn 108 d12_count_6 (by omega) (by omega) (by rw [w6]; rfl) rfl ?_
    exfalso
    omega
  by_cases w7 : x.toInt = 7
  · refine g_tabIn 115 d12_count_6 (by omega) (by omega) (by rw [w7]; rfl) rfl ?_
    exfalso
    omega
  by_cases w8 : x.toInt = 8
  · refine g_tabIn 122 d12_count_6 (by omega) (by omega) (by rw [w8]; rfl) rfl ?_
    exfalso
    omega
  by_cases w9 : x.toInt = 9
  · refine g_tabIn 129 d12_count_6 (by omega) (by omega) (by rw [w9]; rfl) rfl ?_
    exfalso
    omega
  by_cases w10 : x.toInt = 10
  · refine g_tabIn 136 d12_count_6 (by omega) (by omega) (by rw [w10]; rfl) rfl ?_
    refine g_aload_n d12_count_136 rfl ?_
    refine g_get fl12_7 d12_count_137 f_74_2 ?_
    refine g_bipushv (nI 6) d12_count_140 rfl ?_
    refine g_ialdN (6) d12_count_142 a_75 (rfl) (by omega) (by decide) ?_
    refine g_topI (I 75 (6)) rfl ?_
    exact g_iret rfl d12_count_143 (⟨rfl, rfl⟩)
  by_cases w11 : x.toInt = 11
  · refine g_tabIn 144 d12_count_6 (by omega) (by omega) (by rw [w11]; rfl) rfl ?_
    exfalso
    omega
  refine g_tabOut 151 d12_count_6 (by omega) rfl ?_
  refine g_iload_n d12_count_151 rfl ?_
  refine g_i2l d12_count_152 ?_
  refine g_ldc2 d12_count_153 kl12_174 ?_
  refine g_ldc2 d12_count_156 kl12_567 ?_
  refine g_ES3 sm12_in ml12_134 (r12_inI (ai := (12)) (bi := (19)) (i2l_int _) (by decide) (by decide) (Nat.le_refl 0)) (by omega) (by decide) d12_count_159 ?_
  refine g_bz 180 d12_count_162 rfl (fun c162 => ?_) (fun c162 => ?_)
  · exfalso
    omega
  · exfalso
    omega
set_option maxHeartbeats 200000 in
theorem r12_count_11 {l : Launch} {K : cK} {d : Nat} {I : wI} {L : wL} {R : wR} {dy : cH} (x : Int32) (hx : x.toInt = 11) (hd : 1 ≤ d) : CE l K m12_count d [.ref 74, .int x] (hp I L R dy) (.int (I 76 5)) (hp (uI I 74 0 0) L R dy) := by
  refine CC.of ok12_count (Nat.le_of_ble_eq_true rfl) ?_
  refine g_aload_n d12_count_0 rfl ?_
  refine g_iconstv (nI 0) d12_count_1 rfl ?_
  refine g_putIh _ fl12_128 d12_count_2 f_74_0 s_74_0 ?_
  refine g_iload_n d12_count_5 rfl ?_
  by_cases w0 : x.toInt = 0
  · refine g_tabIn 68 d12_count_6 (by omega) (by omega) (by rw [w0]; rfl) rfl ?_
    exfalso
    omega
  by_cases w1 : x.toInt = 1
  · refine g_tabIn 75 d12_count_6 (by omega) (by omega) (by rw [w1]; rfl) rfl ?_
    exfalso
    omega
  by_cases w2 : x.toInt = 2
  · refine g_tabIn 82 d12_count_6 (by omega) (by omega) (by rw [w2]; rfl) rfl ?_
    exfalso
    omega
  by_cases w3 : x.toInt = 3
  · refine g_tabIn 89 d12_count_6 (by omega) (by omega) (by rw [w3]; rfl) rfl ?_
    exfalso
    omega
  by_cases w4 : x.toInt = 4
  · refine g_tabIn 96 d12_count_6 (by omega) (by omega) (by rw [w4]; rfl) rfl ?_
    exfalso
    omega
  by_cases w5 : x.toInt = 5
  · refine g_tabIn 103 d12_count_6 (by omega) (by omega) (by rw [w5]; rfl) rfl ?_
    exfalso
    omega
  by_cases w6 : x.toInt = 6
  · refine g_tabIn 108 d12_count_6 (by omega) (by omega) (by rw [w6]; rfl) rfl ?_
    exfalso
    omega
  by_cases w7 : x.toInt = 7
  · refine g_tabIn 115 d12_count_6 (by omega) (by omega) (by rw [w7]; rfl) rfl ?_
    exfalso
    omega
  by_cases w8 : x.toInt = 8
  · refine g_tabIn 122 d12_count_6 (by omega) (by omega) (by rw [w8]; rfl) rfl ?_
    exfalso
    omega
  by_cases w9 : x.toInt = 9
  · refine g_tabIn 129 d12_count_6 (by omega) (by omega) (by rw [w9]; rfl) rfl ?_
    exfalso
    omega
  by_cases w10 : x.toInt = 10
  · refine g_tabIn 136 d12_count_6 (by omega) (by omega) (by rw [w10]; rfl) rfl ?_
    exfalso
    omega
  by_cases w11 : x.toInt = 11
  · refine g_tabIn 144 d12_count_6 (by omega) (by omega) (by rw [w11]; rfl) rfl ?_
    refine g_aload_n d12_count_144 rfl ?_
    refine g_get fl12_13 d12_count_145 f_74_3 ?_
    refine g_iconstv (nI 5) d12_count_148 rfl ?_
    refine g_ialdN (5) d12_count_149 a_76 (rfl) (by omega) (by decide) ?_
    refine g_topI (I 76 (5)) rfl ?_
    exact g_iret rfl d12_count_150 (⟨rfl, rfl⟩)
  refine g_tabOut 151 d12_count_6 (by omega) rfl ?_
  refine g_iload_n d12_count_151 rfl ?_
  refine g_i2l d12_count_152 ?_
  refine g_ldc2 d12_count_153 kl12_174 ?_
  refine g_ldc2 d12_count_156 kl12_567 ?_
  refine g_ES3 sm12_in ml12_134 (r12_inI (ai := (12)) (bi := (19)) (i2l_int _) (by decide) (by decide) (Nat.le_refl 0)) (by omega) (by decide) d12_count_159 ?_
  refine g_bz 180 d12_count_162 rfl (fun c162 => ?_) (fun c162 => ?_)
  · exfalso
    omega
  · exfalso
    omega
set_option maxHeartbeats 200000 in
theorem r12_count_t {l : Launch} {K : cK} {d : Nat} {I : wI} {L : wL} {R : wR} {dy : cH} (j : Nat) (hj : j < 8) (hd : 1 ≤ d) : CE l K m12_count d [.ref 74, .int (nI (12 + j))] (hp I L R dy) (.int (I 76 (6 + j))) (hp (uI I 74 0 0) L R dy) := by
  have hx : (nI (12 + j)).toInt = ((12 + j : Nat) : Int) := nI_ti (by omega)
  refine CC.of ok12_count (Nat.le_of_ble_eq_true rfl) ?_
  refine g_aload_n d12_count_0 rfl ?_
  refine g_iconstv (nI 0) d12_count_1 rfl ?_
  refine g_putIh _ fl12_128 d12_count_2 f_74_0 s_74_0 ?_
  refine g_iload_n d12_count_5 rfl ?_
  by_cases w0 : (nI (12 + j)).toInt = 0
  · refine g_tabIn 68 d12_count_6 (by omega) (by omega) (by rw [w0]; rfl) rfl ?_
    exfalso
    omega
  by_cases w1 : (nI (12 + j)).toInt = 1
  · refine g_tabIn 75 d12_count_6 (by omega) (by omega) (by rw [w1]; rfl) rfl ?_
    exfalso
    omega
  by_cases w2 : (nI (12 + j)).toInt = 2
  · refine g_tabIn 82 d12_count_6 (by omega) (by omega) (by rw [w2]; rfl) rfl ?_
    exfalso
    omega
  by_cases w3 : (nI (12 + j)).toInt = 3
  · refine g_tabIn 89 d12_count_6 (by omega) (by omega) (by rw [w3]; rfl) rfl ?_
    exfalso
    omega
  by_cases w4 : (nI (12 + j)).toInt = 4
  · refine g_tabIn 96 d12_count_6 (by omega) (by omega) (by rw [w4]; rfl) rfl ?_
    exfalso
    omega
  by_cases w5 : (nI (12 + j)).toInt = 5
  · refine g_tabIn 103 d12_count_6 (by omega) (by omega) (by rw [w5]; rfl) rfl ?_
    exfalso
    omega
  by_cases w6 : (nI (12 + j)).toInt = 6
  · refine g_tabIn 108 d12_count_6 (by omega) (by omega) (by rw [w6]; rfl) rfl ?_
    exfalso
    omega
  by_cases w7 : (nI (12 + j)).toInt = 7
  · refine g_tabIn 115 d12_count_6 (by omega) (by omega) (by rw [w7]; rfl) rfl ?_
    exfalso
    omega
  by_cases w8 : (nI (12 + j)).toInt = 8
  · refine g_tabIn 122 d12_count_6 (by omega) (by omega) (by rw [w8]; rfl) rfl ?_
    exfalso
    omega
  by_cases w9 : (nI (12 + j)).toInt = 9
  · refine g_tabIn 129 d12_count_6 (by omega) (by omega) (by rw [w9]; rfl) rfl ?_
    exfalso
    omega
  by_cases w10 : (nI (12 + j)).toInt = 10
  · refine g_tabIn 136 d12_count_6 (by omega) (by omega) (by rw [w10]; rfl) rfl ?_
    exfalso
    omega
  by_cases w11 : (nI (12 + j)).toInt = 11
  · refine g_tabIn 144 d12_count_6 (by omega) (by omega) (by rw [w11]; rfl) rfl ?_
    exfalso
    omega
  refine g_tabOut 151 d12_count_6 (by omega) rfl ?_
  refine g_iload_n d12_count_151 rfl ?_
  refine g_i2lN (by omega) d12_count_152 ?_
  refine g_ldc2 d12_count_153 kl12_174 ?_
  refine g_ldc2 d12_count_156 kl12_567 ?_
  refine g_ES3 sm12_in ml12_134 (r12_inI (vi := (((12 + j) : Nat) : Int)) (ai := (12)) (bi := (19)) (lN_toInt (by omega)) (by decide) (by decide) (Nat.le_refl 0)) (by omega) (by decide) d12_count_159 ?_
  refine g_bz 180 d12_count_162 rfl (fun c162 => absurd c162 (fun q => q (by omega))) (fun _ => ?_)
  refine g_aload_n d12_count_165 rfl ?_
  refine g_get fl12_13 d12_count_166 f_74_3 ?_
  refine g_bipushv (nI 6) d12_count_169 rfl ?_
  refine g_iload_n d12_count_171 rfl ?_
  refine g_iaddN d12_count_172 ?_
  refine g_bipushv (nI 12) d12_count_173 rfl ?_
  refine g_isubN (by omega) d12_count_175 ?_
  refine g_ialdN (6 + j) d12_count_176 a_76 (by congr 1; omega) (by omega) (by decide) ?_
  refine g_topI (I 76 (6 + j)) rfl ?_
  refine g_goto 181 d12_count_177 rfl ?_
  exact g_iret rfl d12_count_181 (⟨rfl, rfl⟩)
set_option maxHeartbeats 200000 in
theorem r12_count_no {l : Launch} {K : cK} {d : Nat} {I : wI} {L : wL} {R : wR} {dy : cH} (x : Int32) (hx : x.toInt < 0 ∨ 19 < x.toInt) (hd : 1 ≤ d) : CE l K m12_count d [.ref 74, .int x] (hp I L R dy) (.int (-1)) (hp (uI I 74 0 0) L R dy) := by
  refine CC.of ok12_count (Nat.le_of_ble_eq_true rfl) ?_
  refine g_aload_n d12_count_0 rfl ?_
  refine g_iconstv (nI 0) d12_count_1 rfl ?_
  refine g_putIh _ fl12_128 d12_count_2 f_74_0 s_74_0 ?_
  refine g_iload_n d12_count_5 rfl ?_
  by_cases w0 : x.toInt = 0
  · refine g_tabIn 68 d12_count_6 (by omega) (by omega) (by rw [w0]; rfl) rfl ?_
    exfalso
    omega
  by_cases w1 : x.toInt = 1
  · refine g_tabIn 75 d12_count_6 (by omega) (by omega) (by rw [w1]; rfl) rfl ?_
    exfalso
    omega
  by_cases w2 : x.toInt = 2
  · refine g_tabIn 82 d12_count_6 (by omega) (by omega) (by rw [w2]; rfl) rfl ?_
    exfalso
    omega
  by_cases w3 : x.toInt = 3
  · refine g_tabIn 89 d12_count_6 (by omega) (by omega) (by rw [w3]; rfl) rfl ?_
    exfalso
    omega
  by_cases w4 : x.toInt = 4
  · refine g_tabIn 96 d12_count_6 (by omega) (by omega) (by rw [w4]; rfl) rfl ?_
    exfalso
    omega
  by_cases w5 : x.toInt = 5
  · refine g_tabIn 103 d12_count_6 (by omega) (by omega) (by rw [w5]; rfl) rfl ?_
    exfalso
    omega
  by_cases w6 : x.toInt = 6
  · refine g_tabIn 108 d12_count_6 (by omega) (by omega) (by rw [w6]; rfl) rfl ?_
    exfalso
    omega
  by_cases w7 : x.toInt = 7
  · refine g_tabIn 115 d12_count_6 (by omega) (by omega) (by rw [w7]; rfl) rfl ?_
    exfalso
    omega
  by_cases w8 : x.toInt = 8
  · refine g_tabIn 122 d12_count_6 (by omega) (by omega) (by rw [w8]; rfl) rfl ?_
    exfalso
    omega
  by_cases w9 : x.toInt = 9
  · refine g_tabIn 129 d12_count_6 (by omega) (by omega) (by rw [w9]; rfl) rfl ?_
    exfalso
    omega
  by_cases w10 : x.toInt = 10
  · refine g_tabIn 136 d12_count_6 (by omega) (by omega) (by rw [w10]; rfl) rfl ?_
    exfalso
    omega
  by_cases w11 : x.toInt = 11
  · refine g_tabIn 144 d12_count_6 (by omega) (by omega) (by rw [w11]; rfl) rfl ?_
    exfalso
    omega
  refine g_tabOut 151 d12_count_6 (by omega) rfl ?_
  refine g_iload_n d12_count_151 rfl ?_
  refine g_i2l d12_count_152 ?_
  refine g_ldc2 d12_count_153 kl12_174 ?_
  refine g_ldc2 d12_count_156 kl12_567 ?_
  refine g_ES3 sm12_in ml12_134 (r12_inI (ai := (12)) (bi := (19)) (i2l_int _) (by decide) (by decide) (Nat.le_refl 0)) (by omega) (by decide) d12_count_159 ?_
  refine g_bz 180 d12_count_162 rfl (fun _ => ?_) (fun c162 => absurd c162 (by omega))
  refine g_iconstv ((-1 : Int32)) d12_count_180 rfl ?_
  exact g_iret rfl d12_count_181 (⟨rfl, rfl⟩)
