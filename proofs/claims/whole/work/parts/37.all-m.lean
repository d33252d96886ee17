/-- the law in force -/
def inF (I : wI) (lf : lawF) : Prop := (lf = none ∧ I 76 5 = -1) ∨ ∃ (a : Nat) (F : (Nat → Int64) → Nat → Int64 → Int64), lf = some F ∧ a < 6 ∧ I 76 5 = nI a ∧ TMF (I 76) (80 + 900 * a) F
/-- by the row alone: how he comes, what he fines, whom he spares -/
def cmR (g : Nat → Int32) (wa : Int32) (lf : lawF) (s k : Nat) : Nat := cmF lf (lE (lN s) (lN k) (g 9).toInt64 wa.toInt64 (-1) (-1) (g 13).toInt64)
def ceR (g : Nat → Int32) (wa : Int32) (c fr s k : Nat) : Nat → Int64 := lE (lN s) (lN k) (g 9).toInt64 wa.toInt64 (lN c) (lN (s - fr)) (g 13).toInt64
def fnR (g : Nat → Int32) (wa : Int32) (lf : lawF) (c fr fine s k : Nat) : Nat := if spB lf (ceR g wa c fr s k) = true then 0 else fiF lf (ceR g wa c fr s k) fine
def sbR (g : Nat → Int32) (wa : Int32) (lf : lawF) (c fr s k : Nat) : Bool := spB lf (ceR g wa c fr s k)
theorem cmR_le (g : Nat → Int32) (wa : Int32) (lf : lawF) (s k : Nat) : cmR g wa lf s k ≤ 10 := cmv_le (fun a => if a = 76 then g else fun _ => wa) lf s k
theorem fnR_le (g : Nat → Int32) (wa : Int32) (lf : lawF) (c fr s k : Nat) {fine : Nat} (h : fine ≤ 99) : fnR g wa lf c fr fine s k ≤ 99 := fnv_le (fun a => if a = 76 then g else fun _ => wa) lf c fr s k h
theorem sm_mul (f : Nat → Nat) (c : Nat) : ∀ n, sm (fun j => f j * c) n = sm f n * c
  | 0 => (Nat.zero_mul c).symm
  | n + 1 => by show sm (fun j => f j * c) n + f (n + 1) * c = (sm f n + f (n + 1)) * c; rw [sm_mul f c n, Nat.add_mul]
theorem mfv_le (cm : Nat → Nat → Nat) (s0 : Nat) (fn : Nat → Nat → Nat) (hcm : ∀ s k, cm s k ≤ 10) (hfn : ∀ s k, fn s k ≤ 99) (s : Nat) : mfv cm s0 fn s 12 ≤ 99000000000000 := by
  have h1 : mfv cm s0 fn s 12 ≤ sm (fun k => pt fr2 cm s0 s k * 99) 12 := by
    refine sm_mono _ _ (fun k => ?_) 12
    have a1 : pt fr2 cm s0 s k / 10 * cm s k ≤ pt fr2 cm s0 s k := by
      have := Nat.mul_le_mul_left (pt fr2 cm s0 s k / 10) (hcm s k)
      have := Nat.div_mul_le_self (pt fr2 cm s0 s k) 10
      omega
    exact Nat.mul_le_mul a1 (hfn s k)
  rw [sm_mul] at h1
  have := pt_sum fr2 cm s0 hcm s
  omega
theorem sI_le (f : Nat → Nat) (a B : Nat) (h : ∀ s, f s ≤ B) : ∀ m, sI f a m ≤ m * B
  | 0 => by simp [sI]
  | m + 1 => by show sI f a m + f (a + m) ≤ _; have := sI_le f a B h m; have := h (a + m); rw [Nat.succ_mul]; omega
theorem co1_le (coin per fr ti : Nat) (hc : coin ≤ 9) (ht : ti ≤ 11) (mf : Nat → Nat) (hm : ∀ s, mf s ≤ 99000000000000) {n : Nat} (hn : n ≤ 12) : co1 coin per fr ti mf n < 4000000000000000 := by
  unfold co1
  have h1 := sI_le (fun s => if pdb per 0 n ≤ s - fr then mf s else 0) fr 99000000000000 (fun s => by show (if _ then _ else _) ≤ _; split; exact hm s; exact Nat.zero_le _) (ti + 1 - fr)
  have h2 : n * coin ≤ 108 := Nat.le_trans (Nat.mul_le_mul hn hc) (by decide)
  have h3 : (ti + 1 - fr) * 99000000000000 ≤ 12 * 99000000000000 := Nat.mul_le_mul_right _ (by omega)
  rw [Nat.mul_assoc]
  omega
/-- the model's row is as it should be: coin, per, fine, since -/
def RT (I : wI) (coin per fine s0 : Nat) : Prop := I 76 6 = nI coin ∧ 1 ≤ coin ∧ coin ≤ 9 ∧ I 76 7 = nI per ∧ 1 ≤ per ∧ per ≤ 4 ∧ I 76 8 = nI fine ∧ fine ≤ 99 ∧ I 76 10 = nI s0 ∧ 1 ≤ s0 ∧ s0 ≤ 12 ∧ I 74 15 = 0
set_option maxHeartbeats 400000 in
theorem r12_layAll {l : Launch} {K : cK} {d : Nat} {I : wI} {L : wL} {R : wR} {dy : cH} (lf : lawF) (ha : inF I lf) (coin per fine s0 : Nat) (hT : RT I coin per fine s0) (c fr ti se fl : Nat) (hC : CF I c fr ti se fl) (hd : 6 ≤ d) : CW l K m12_layAll d [.ref 74, .int (nI c)] (hp I L R dy) (α := wI × wL) (fun x => FR [90, 92, 93] [28, 32, 35, 36] [87, 88, 89, 91, 94] [33, 34] I L x.1 x.2 ∧ LC x.1 x.2 (cmR (I 76) (I 76 11) lf) s0 ∧ LR x.1 x.2 (cmR (I 76) (I 76 11) lf) s0 (fnR (I 76) (I 76 11) lf c fr fine) (sbR (I 76) (I 76 11) lf c fr) fr (ti + 1)) (fun x => hp x.1 x.2 R dy) := by
  obtain ⟨t1, t2, t3, t4, t5, t6, t7, t8, t9, t10, t11, t12⟩ := hT
  have hc6 := hC.1
  refine CC.of ok12_layAll (Nat.le_of_ble_eq_true rfl) ?_
  refine g_aload_n d12_layAll_0 rfl ?_
  refine g_VV0 vm12_askNow ml12_403 c_74 (r12_askNow (Nat.le_refl 1)) (by omega) (Nat.le_of_ble_eq_true rfl) d12_layAll_1 ?_
  refine g_aload_n d12_layAll_4 rfl ?_
  refine g_WV0 vm12_layComes ml12_421 c_74 (r12_layComes (I := uI (uI I 74 35 (I 76 5)) 74 36 (I 76 11)) lf (by exact ha) (by exact t12) s0 (by exact t9) t10 t11 (Nat.le_refl 5)) (by omega) (Nat.le_of_ble_eq_true rfl) d12_layAll_5 (fun x hx => ?_)
  obtain ⟨I2, L2⟩ := x
  obtain ⟨hF, hLC⟩ := hx
  dsimp only at hF hLC ⊢
  have e76 : I2 76 = I 76 := hF.1 76 (by decide) (by decide)
  have e36 : I2 74 36 = I 76 11 := hF.2.1 36 (by decide)
  have e35 : I2 74 35 = I 76 5 := hF.2.1 35 (by decide)
  have e15 : I2 74 15 = 0 := (hF.2.1 15 (by decide)).trans t12
  have hLC2 : LC I2 L2 (cmR (I 76) (I 76 11) lf) s0 := hLC
  refine g_aload_n d12_layAll_8 rfl ?_
  refine g_iload_n d12_layAll_9 rfl ?_
  refine g_aload_n d12_layAll_10 rfl ?_
  refine g_iconstv (nI 2) d12_layAll_11 rfl ?_
  refine g_EV1 vm12_term ml12_378 c_74 (r12_term (2) (by omega) (Nat.le_refl 0)) (by omega) (Nat.le_of_ble_eq_true rfl) d12_layAll_12 ?_
  refine g_topI (nI fine) ((congrFun e76 8).trans t7) ?_
  refine g_WV2 vm12_layCar ml12_430 c_74 (r12_layCar (I := I2) (L := L2) lf (by unfold askd; rw [e35, e76]; exact ha) e15 c fr ti se fl (hC.of e76) fine t8 (cmR (I 76) (I 76 11) lf) s0 hLC2 (cmR_le _ _ lf) (Nat.le_refl 5)) (by omega) (Nat.le_of_ble_eq_true rfl) d12_layAll_15 (fun y hy => ?_)
  obtain ⟨I3, L3⟩ := y
  obtain ⟨hF3, hR3⟩ := hy
  dsimp only at hF3 hR3 ⊢
  have hb : fnv I2 lf c fr fine = fnR (I 76) (I 76 11) lf c fr fine := by funext s k; unfold fnv fnR cEn ceR; rw [e76, e36]
  have hb2 : (fun s k => spB lf (cEn I2 c fr s k)) = sbR (I 76) (I 76 11) lf c fr := by funext s k; unfold sbR cEn ceR; rw [e76, e36]
  rw [hb, hb2] at hR3
  have hF9 : FR [90, 92, 93] [28, 32, 35, 36] [87, 88, 89, 91, 94] [33, 34] I L I3 L3 := (((FR.rf.uf (j := 35) (by decide)).uf (j := 36) (by decide)).tr (hF.up (by decide) (by decide) (by decide) (by decide))).tr (hF3.up (by decide) (by decide) (by decide) (by decide))
  have h90 : I3 90 = I2 90 := hF3.1 90 (by decide) (by decide)
  have h91 : L3 91 = L2 91 := hF3.2.2.1 91 (by decide) (by decide)
  exact g_vret rfl d12_layAll_18 (⟨(I3, L3), ⟨hF9, ⟨by show ∀ s2, _ → ∀ k2, _ → _ → I3 90 _ = _; rw [h90]; exact hLC2.1, by show ∀ s2, _ → ∀ j, _ → L3 91 _ = _; rw [h91]; exact hLC2.2⟩, hR3⟩, rfl, rfl⟩)
set_option maxHeartbeats 200000 in
theorem r12_cost_no {l : Launch} {K : cK} {d : Nat} {I : wI} {L : wL} {R : wR} {dy : cH} (n : Nat) (hn : I 76 0 = nI n) (hn6 : n ≤ 6) (x w : Int32) (hbad : ¬ ((0 ≤ x.toInt ∧ x.toInt < n) ∧ 0 ≤ w.toInt ∧ w.toInt ≤ 12)) (hd : 2 ≤ d) : CE l K m12_cost d [.ref 74, .int x, .int w] (hp I L R dy) (.long (-1)) (hp (uI I 74 0 0) L R dy) := by
  refine CC.of ok12_cost (Nat.le_of_ble_eq_true rfl) ?_
  refine g_aload_n d12_cost_0 rfl ?_
  refine g_iconstv (nI 0) d12_cost_1 rfl ?_
  refine g_putIh _ fl12_128 d12_cost_2 f_74_0 s_74_0 ?_
  refine g_aload_n d12_cost_5 rfl ?_
  refine g_iload_n d12_cost_6 rfl ?_
  refine g_EV1 vm12_isCar ml12_158 c_74 (r12_isCarI  n (by exact hn) hn6 (rfl) (Nat.le_refl 1)) (by omega) (Nat.le_of_ble_eq_true rfl) d12_cost_7 ?_
  refine g_bz 25 d12_cost_10 rfl (fun c10 => ?_) (fun c10 => ?_)
  · refine g_ldc2 d12_cost_25 kl12_219 ?_
    exact g_lret rfl d12_cost_28 (⟨rfl, rfl⟩)
  · refine g_iload_n d12_cost_13 rfl ?_
    refine g_i2l d12_cost_14 ?_
    refine g_lconstv (0) d12_cost_15 rfl ?_
    refine g_ldc2 d12_cost_16 kl12_174 ?_
    refine g_ES3 sm12_in ml12_134 (r12_inI (ai := (0)) (bi := (12)) (i2l_int _) (by decide) (by decide) (Nat.le_refl 0)) (by omega) (Nat.le_of_ble_eq_true rfl) d12_cost_19 ?_
    refine g_bnz 29 d12_cost_22 rfl (fun c22 => ?_) (fun c22 => ?_)
    · exact absurd ⟨c10, c22⟩ hbad
    · refine g_ldc2 d12_cost_25 kl12_219 ?_
      exact g_lret rfl d12_cost_28 (⟨rfl, rfl⟩)
set_option maxHeartbeats 200000 in
theorem r12_cost_ok {l : Launch} {K : cK} {d : Nat} {I : wI} {L : wL} {R : wR} {dy : cH} (lf : lawF) (ha : inF I lf) (coin per fine s0 : Nat) (hT : RT I coin per fine s0) (n : Nat) (hn : I 76 0 = nI n) (hn6 : n ≤ 6) (c fr ti se fl : Nat) (hC : CF I c fr ti se fl) (hcn : c < n) (m : Nat) (hm : m ≤ 12) (hd : 7 ≤ d) : CX l K m12_cost d [.ref 74, .int (nI c), .int (nI m)] (hp I L R dy) (α := wI × wL) (fun x => FR [90, 92, 93] [0, 28, 32, 35, 36] [87, 88, 89, 91, 94] [33, 34] I L x.1 x.2) (fun _ => .long (lN (co1 coin per fr ti (fun s => mfv (cmR (I 76) (I 76 11) lf) s0 (fnR (I 76) (I 76 11) lf c fr fine) s 12) m))) (fun x => hp x.1 x.2 R dy) := by
  have hc6 := hC.1
  refine CC.of ok12_cost (Nat.le_of_ble_eq_true rfl) ?_
  refine g_aload_n d12_cost_0 rfl ?_
  refine g_iconstv (nI 0) d12_cost_1 rfl ?_
  refine g_putIh _ fl12_128 d12_cost_2 f_74_0 s_74_0 ?_
  refine g_aload_n d12_cost_5 rfl ?_
  refine g_iload_n d12_cost_6 rfl ?_
  refine g_EV1 vm12_isCar ml12_158 c_74 (r12_isCarI (xi := ((c : Nat) : Int)) n (by exact hn) hn6 (nI_ti (by omega)) (Nat.le_refl 1)) (by omega) (Nat.le_of_ble_eq_true rfl) d12_cost_7 ?_
  refine g_bz 25 d12_cost_10 rfl (fun c10 => absurd c10 (fun q => q (by omega))) (fun _ => ?_)
  refine g_iload_n d12_cost_13 rfl ?_
  refine g_i2lN (by omega) d12_cost_14 ?_
  refine g_lconstv (0) d12_cost_15 rfl ?_
  refine g_ldc2 d12_cost_16 kl12_174 ?_
  refine g_ES3 sm12_in ml12_134 (r12_inI (vi := ((m : Nat) : Int)) (ai := (0)) (bi := (12)) (lN_toInt (by omega)) (by decide) (by decide) (Nat.le_refl 0)) (by omega) (Nat.le_of_ble_eq_true rfl) d12_cost_19 ?_
  refine g_bnz 29 d12_cost_22 rfl (fun _ => ?_) (fun c22 => absurd c22 (fun q => q (by omega)))
  refine g_aload_n d12_cost_29 rfl ?_
  refine g_iload_n d12_cost_30 rfl ?_
  refine g_WV1 vm12_layAll ml12_433 c_74 (r12_layAll (I := uI I 74 0 0) lf (by exact ha) coin per fine s0 (by exact hT) c fr ti se fl (hC.of rfl) (Nat.le_refl 6)) (by omega) (Nat.le_of_ble_eq_true rfl) d12_cost_31 (fun x hx => ?_)
  obtain ⟨I2, L2⟩ := x
  obtain ⟨hF, hLC, hR⟩ := hx
  dsimp only at hF hLC hR ⊢
  obtain ⟨t1, t2, t3, t4, t5, t6, t7, t8, t9, t10, t11, t12⟩ := id hT
  have e76 : I2 76 = I 76 := hF.1 76 (by decide) (by decide)
  have hF0 : FR [90, 92, 93] [0, 28, 32, 35, 36] [87, 88, 89, 91, 94] [33, 34] I L I2 L2 := (FR.rf.uf (j := 0) (by decide)).tr (hF.up (by decide) (by decide) (by decide) (by decide))
  refine g_aload_n d12_cost_34 rfl ?_
  refine g_iload_n d12_cost_35 rfl ?_
  refine g_iload_n d12_cost_36 rfl ?_
  refine g_EV2 vm12_costOf ml12_436 c_74 (r12_costOf coin per c fr ti se fl m (hC.of e76) (by rw [e76]; exact t1) t3 (by rw [e76]; exact t4) t6 hm (fun s => mfv (cmR (I 76) (I 76 11) lf) s0 (fnR (I 76) (I 76 11) lf c fr fine) s 12) (fun s a b => (hR s a b).2) (Nat.le_refl 2)) (by omega) (Nat.le_of_ble_eq_true rfl) d12_cost_37 ?_
  exact g_lret rfl d12_cost_40 (⟨(I2, L2), hF0, rfl, rfl⟩)
set_option maxHeartbeats 200000 in
theorem r12_coins_no {l : Launch} {K : cK} {d : Nat} {I : wI} {L : wL} {R : wR} {dy : cH} (n : Nat) (hn : I 76 0 = nI n) (hn6 : n ≤ 6) (x w : Int32) (hbad : ¬ ((0 ≤ x.toInt ∧ x.toInt < n) ∧ 0 ≤ w.toInt ∧ w.toInt ≤ 1)) (hd : 2 ≤ d) : CE l K m12_coins d [.ref 74, .int x, .int w] (hp I L R dy) (.int (-1)) (hp (uI I 74 0 0) L R dy) := by
  refine CC.of ok12_coins (Nat.le_of_ble_eq_true rfl) ?_
  refine g_aload_n d12_coins_0 rfl ?_
  refine g_iconstv (nI 0) d12_coins_1 rfl ?_
  refine g_putIh _ fl12_128 d12_coins_2 f_74_0 s_74_0 ?_
  refine g_aload_n d12_coins_5 rfl ?_
  refine g_iload_n d12_coins_6 rfl ?_
  refine g_EV1 vm12_isCar ml12_158 c_74 (r12_isCarI  n (by exact hn) hn6 (rfl) (Nat.le_refl 1)) (by omega) (Nat.le_of_ble_eq_true rfl) d12_coins_7 ?_
  refine g_bz 23 d12_coins_10 rfl (fun c10 => ?_) (fun c10 => ?_)
  · refine g_iconstv ((-1 : Int32)) d12_coins_23 rfl ?_
    exact g_iret rfl d12_coins_24 (⟨rfl, rfl⟩)
  · refine g_iload_n d12_coins_13 rfl ?_
    refine g_i2l d12_coins_14 ?_
    refine g_lconstv (0) d12_coins_15 rfl ?_
    refine g_lconstv (1) d12_coins_16 rfl ?_
    refine g_ES3 sm12_in ml12_134 (r12_inI (ai := (0)) (bi := (1)) (i2l_int _) (by decide) (by decide) (Nat.le_refl 0)) (by omega) (Nat.le_of_ble_eq_true rfl) d12_coins_17 ?_
    refine g_bnz 25 d12_coins_20 rfl (fun c20 => ?_) (fun c20 => ?_)
    · exact absurd ⟨c10, c20⟩ hbad
    · refine g_iconstv ((-1 : Int32)) d12_coins_23 rfl ?_
      exact g_iret rfl d12_coins_24 (⟨rfl, rfl⟩)
set_option maxHeartbeats 200000 in
theorem r12_coins_0 {l : Launch} {K : cK} {d : Nat} {I : wI} {L : wL} {R : wR} {dy : cH} (lf : lawF) (ha : inF I lf) (coin per fine s0 : Nat) (hT : RT I coin per fine s0) (n : Nat) (hn : I 76 0 = nI n) (hn6 : n ≤ 6) (c fr ti se fl : Nat) (hC : CF I c fr ti se fl) (hcn : c < n) (hd : 7 ≤ d) : CX l K m12_coins d [.ref 74, .int (nI c), .int (nI 0)] (hp I L R dy) (α := wI × wL) (fun x => FR [90, 92, 93] [0, 28, 32, 35, 36, 43, 44] [87, 88, 89, 91, 94] [33, 34, 42] I L x.1 x.2) (fun _ => .int (nI (fa (co1 coin per fr ti (fun s => mfv (cmR (I 76) (I 76 11) lf) s0 (fnR (I 76) (I 76 11) lf c fr fine) s 12)) 12).2.1)) (fun x => hp x.1 x.2 R dy) := by
  have hc6 := hC.1
  have ht11 := hC.2.2.2.2.2.2.1
  refine CC.of ok12_coins (Nat.le_of_ble_eq_true rfl) ?_
  refine g_aload_n d12_coins_0 rfl ?_
  refine g_iconstv (nI 0) d12_coins_1 rfl ?_
  refine g_putIh _ fl12_128 d12_coins_2 f_74_0 s_74_0 ?_
  refine g_aload_n d12_coins_5 rfl ?_
  refine g_iload_n d12_coins_6 rfl ?_
  refine g_EV1 vm12_isCar ml12_158 c_74 (r12_isCarI (xi := ((c : Nat) : Int)) n (by exact hn) hn6 (nI_ti (by omega)) (Nat.le_refl 1)) (by omega) (Nat.le_of_ble_eq_true rfl) d12_coins_7 ?_
  refine g_bz 23 d12_coins_10 rfl (fun c10 => absurd c10 (fun q => q (by omega))) (fun _ => ?_)
  refine g_iload_n d12_coins_13 rfl ?_
  refine g_i2lN (by omega) d12_coins_14 ?_
  refine g_lconstv (0) d12_coins_15 rfl ?_
  refine g_lconstv (1) d12_coins_16 rfl ?_
  refine g_ES3 sm12_in ml12_134 (r12_inI (vi := ((0 : Nat) : Int)) (ai := (0)) (bi := (1)) (lN_toInt (by omega)) (by decide) (by decide) (Nat.le_refl 0)) (by omega) (Nat.le_of_ble_eq_true rfl) d12_coins_17 ?_
  refine g_bnz 25 d12_coins_20 rfl (fun _ => ?_) (fun c20 => absurd c20 (fun q => q (by omega)))
  refine g_aload_n d12_coins_25 rfl ?_
  refine g_iload_n d12_coins_26 rfl ?_
  refine g_WV1 vm12_layAll ml12_433 c_74 (r12_layAll (I := uI I 74 0 0) lf (by exact ha) coin per fine s0 (by exact hT) c fr ti se fl (hC.of rfl) (Nat.le_refl 6)) (by omega) (Nat.le_of_ble_eq_true rfl) d12_coins_27 (fun x hx => ?_)
  obtain ⟨I2, L2⟩ := x
  obtain ⟨hF, hLC, hR⟩ := hx
  dsimp only at hF hLC hR ⊢
  obtain ⟨t1, t2, t3, t4, t5, t6, t7, t8, t9, t10, t11, t12⟩ := id hT
  have e76 : I2 76 = I 76 := hF.1 76 (by decide) (by decide)
  have hF0 : FR [90, 92, 93] [0, 28, 32, 35, 36] [87, 88, 89, 91, 94] [33, 34] I L I2 L2 := (FR.rf.uf (j := 0) (by decide)).tr (hF.up (by decide) (by decide) (by decide) (by decide))
  refine g_aload_n d12_coins_30 rfl ?_
  refine g_iload_n d12_coins_31 rfl ?_
  refine g_WV1 vm12_findAtFirst ml12_451 c_74 (r12_findAtFirst (I := I2) (L := L2) coin per c fr ti se fl (hC.of e76) (by rw [e76]; exact t1) t3 (by rw [e76]; exact t4) t6 (fun s => mfv (cmR (I 76) (I 76 11) lf) s0 (fnR (I 76) (I 76 11) lf c fr fine) s 12) (fun s a b => (hR s a b).2) (fun q hq => Nat.lt_trans (co1_le coin per fr ti t3 ht11 _ (fun s => mfv_le _ s0 _ (cmR_le _ _ lf) (fun a b => fnR_le _ _ lf c fr a b t8) s) hq) (by decide)) (Nat.le_refl 3)) (by omega) (Nat.le_of_ble_eq_true rfl) d12_coins_32 (fun y hy => ?_)
  obtain ⟨I3, L3⟩ := y
  obtain ⟨hF3, h43, h44, h42⟩ := hy
  dsimp only at hF3 h43 h44 h42 ⊢
  refine g_iload_n d12_coins_35 rfl ?_
  refine g_iz_ne (0) 46 (by decide) d12_coins_36 rfl (fun c36 => absurd c36 (by decide)) (fun _ => ?_)
  refine g_aload_n d12_coins_39 rfl ?_
  refine g_get fl12_448 d12_coins_40 f_74_43 ?_
  refine g_topI (nI (fa (co1 coin per fr ti (fun s => mfv (cmR (I 76) (I 76 11) lf) s0 (fnR (I 76) (I 76 11) lf c fr fine) s 12)) 12).2.1) (h43) ?_
  refine g_goto 50 d12_coins_43 rfl ?_
  exact g_iret rfl d12_coins_50 (⟨(I3, L3), (hF0.up (by decide) (by decide) (by decide) (by decide)).tr (hF3.up (by decide) (by decide) (by decide) (by decide)), rfl, rfl⟩)
set_option maxHeartbeats 200000 in
theorem r12_coins_1 {l : Launch} {K : cK} {d : Nat} {I : wI} {L : wL} {R : wR} {dy : cH} (lf : lawF) (ha : inF I lf) (coin per fine s0 : Nat) (hT : RT I coin per fine s0) (n : Nat) (hn : I 76 0 = nI n) (hn6 : n ≤ 6) (c fr ti se fl : Nat) (hC : CF I c fr ti se fl) (hcn : c < n) (hd : 7 ≤ d) : CX l K m12_coins d [.ref 74, .int (nI c), .int (nI 1)] (hp I L R dy) (α := wI × wL) (fun x => FR [90, 92, 93] [0, 28, 32, 35, 36, 43, 44] [87, 88, 89, 91, 94] [33, 34, 42] I L x.1 x.2) (fun _ => .int (nI (fa (co1 coin per fr ti (fun s => mfv (cmR (I 76) (I 76 11) lf) s0 (fnR (I 76) (I 76 11) lf c fr fine) s 12)) 12).2.2)) (fun x => hp x.1 x.2 R dy) := by
  have hc6 := hC.1
  have ht11 := hC.2.2.2.2.2.2.1
  refine CC.of ok12_coins (Nat.le_of_ble_eq_true rfl) ?_
  refine g_aload_n d12_coins_0 rfl ?_
  refine g_iconstv (nI 0) d12_coins_1 rfl ?_
  refine g_putIh _ fl12_128 d12_coins_2 f_74_0 s_74_0 ?_
  refine g_aload_n d12_coins_5 rfl ?_
  refine g_iload_n d12_coins_6 rfl ?_
  refine g_EV1 vm12_isCar ml12_158 c_74 (r12_isCarI (xi := ((c : Nat) : Int)) n (by exact hn) hn6 (nI_ti (by omega)) (Nat.le_refl 1)) (by omega) (Nat.le_of_ble_eq_true rfl) d12_coins_7 ?_
  refine g_bz 23 d12_coins_10 rfl (fun c10 => absurd c10 (fun q => q (by omega))) (fun _ => ?_)
  refine g_iload_n d12_coins_13 rfl ?_
  refine g_i2lN (by omega) d12_coins_14 ?_
  refine g_lconstv (0) d12_coins_15 rfl ?_
  refine g_lconstv (1) d12_coins_16 rfl ?_
  refine g_ES3 sm12_in ml12_134 (r12_inI (vi := ((1 : Nat) : Int)) (ai := (0)) (bi := (1)) (lN_toInt (by omega)) (by decide) (by decide) (Nat.le_refl 0)) (by omega) (Nat.le_of_ble_eq_true rfl) d12_coins_17 ?_
  refine g_bnz 25 d12_coins_20 rfl (fun _ => ?_) (fun c20 => absurd c20 (fun q => q (by omega)))
  refine g_aload_n d12_coins_25 rfl ?_
  refine g_iload_n d12_coins_26 rfl ?_
  refine g_WV1 vm12_layAll ml12_433 c_74 (r12_layAll (I := uI I 74 0 0) lf (by exact ha) coin per fine s0 (by exact hT) c fr ti se fl (hC.of rfl) (Nat.le_refl 6)) (by omega) (Nat.le_of_ble_eq_true rfl) d12_coins_27 (fun x hx => ?_)
  obtain ⟨I2, L2⟩ := x
  obtain ⟨hF, hLC, hR⟩ := hx
  dsimp only at hF hLC hR ⊢
  obtain ⟨t1, t2, t3, t4, t5, t6, t7, t8, t9, t10, t11, t12⟩ := id hT
  have e76 : I2 76 = I 76 := hF.1 76 (by decide) (by decide)
  have hF0 : FR [90, 92, 93] [0, 28, 32, 35, 36] [87, 88, 89, 91, 94] [33, 34] I L I2 L2 := (FR.rf.uf (j := 0) (by decide)).tr (hF.up (by decide) (by decide) (by decide) (by decide))
  refine g_aload_n d12_coins_30 rfl ?_
  refine g_iload_n d12_coins_31 rfl ?_
  refine g_WV1 vm12_findAtFirst ml12_451 c_74 (r12_findAtFirst (I := I2) (L := L2) coin per c fr ti se fl (hC.of e76) (by rw [e76]; exact t1) t3 (by rw [e76]; exact t4) t6 (fun s => mfv (cmR (I 76) (I 76 11) lf) s0 (fnR (I 76) (I 76 11) lf c fr fine) s 12) (fun s a b => (hR s a b).2) (fun q hq => Nat.lt_trans (co1_le coin per fr ti t3 ht11 _ (fun s => mfv_le _ s0 _ (cmR_le _ _ lf) (fun a b => fnR_le _ _ lf c fr a b t8) s) hq) (by decide)) (Nat.le_refl 3)) (by omega) (Nat.le_of_ble_eq_true rfl) d12_coins_32 (fun y hy => ?_)
  obtain ⟨I3, L3⟩ := y
  obtain ⟨hF3, h43, h44, h42⟩ := hy
  dsimp only at hF3 h43 h44 h42 ⊢
  refine g_iload_n d12_coins_35 rfl ?_
  refine g_iz_ne (1) 46 (by decide) d12_coins_36 rfl (fun _ => ?_) (fun c36 => absurd c36 (by decide))
  refine g_aload_n d12_coins_46 rfl ?_
  refine g_get fl12_445 d12_coins_47 f_74_44 ?_
  refine g_topI (nI (fa (co1 coin per fr ti (fun s => mfv (cmR (I 76) (I 76 11) lf) s0 (fnR (I 76) (I 76 11) lf c fr fine) s 12)) 12).2.2) (h44) ?_
  exact g_iret rfl d12_coins_50 (⟨(I3, L3), (hF0.up (by decide) (by decide) (by decide) (by decide)).tr (hF3.up (by decide) (by decide) (by decide) (by decide)), rfl, rfl⟩)
