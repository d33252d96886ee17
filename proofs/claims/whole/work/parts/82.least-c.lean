theorem sb_fn {g : Nat → Int32} {wa : Int32} {lf : lawF} {c fr fine : Nat} (s k : Nat) (h : sbR g wa lf c fr s k = true) : fnR g wa lf c fr fine s k = 0 := if_pos h
set_option maxHeartbeats 200000 in
theorem r11_least_n1 {l : Launch} {K : cK} {d : Nat} {I : wI} {L : wL} {R : wR} {dy : cH} (n : Nat) (hn : I 1 0 = nI n) (hn6 : n ≤ 6) (x w : Int32) (hbad : ¬ (0 ≤ x.toInt ∧ x.toInt < n)) (hd : 1 ≤ d) : CE l K m11_least d [.ref 0, .int x, .int w] (hp I L R dy) (.long (-1)) (hp I L R dy) := by
  refine CC.of ok11_least (Nat.le_of_ble_eq_true rfl) ?_
  refine g_aload_n d11_least_0 rfl ?_
  refine g_get fl11_10 d11_least_1 f_0_0 ?_
  refine g_iload_n d11_least_4 rfl ?_
  refine g_EV1 vm6_hasCar ml11_125 c_1 (r6_hasCarI  n (by exact hn) hn6 (rfl) (Nat.le_refl 0)) (by omega) (Nat.le_of_ble_eq_true rfl) d11_least_5 ?_
  refine g_bz 20 d11_least_8 rfl (fun _ => ?_) (fun c8 => absurd c8 (by omega))
  refine g_ldc2 d11_least_20 kl11_206 ?_
  exact g_lret rfl d11_least_23 (⟨rfl, rfl⟩)
set_option maxHeartbeats 200000 in
theorem r11_least_n2 {l : Launch} {K : cK} {d : Nat} {I : wI} {L : wL} {R : wR} {dy : cH} (n : Nat) (hn : I 1 0 = nI n) (hn6 : n ≤ 6) (c : Nat) (hc : c < n) (w : Int32) (hbad : ¬ (0 ≤ w.toInt ∧ w.toInt ≤ 3)) (hd : 1 ≤ d) : CE l K m11_least d [.ref 0, .int (nI c), .int w] (hp I L R dy) (.long (-1)) (hp I L R dy) := by
  refine CC.of ok11_least (Nat.le_of_ble_eq_true rfl) ?_
  by_cases h0 : w.toInt < 0
  · skip
    refine g_aload_n d11_least_0 rfl ?_
    refine g_get fl11_10 d11_least_1 f_0_0 ?_
    refine g_iload_n d11_least_4 rfl ?_
    refine g_EV1 vm6_hasCar ml11_125 c_1 (r6_hasCarI (xi := ((c : Nat) : Int)) n (by exact hn) hn6 (nI_ti (by omega)) (Nat.le_refl 0)) (by omega) (Nat.le_of_ble_eq_true rfl) d11_least_5 ?_
    refine g_bz 20 d11_least_8 rfl (fun c8 => absurd (by omega) c8) (fun _ => ?_)
    refine g_iload_n d11_least_11 rfl ?_
    refine g_iz_lt _ 20 (rfl) d11_least_12 rfl (fun _ => ?_) (fun c12 => absurd c12 (by omega))
    refine g_ldc2 d11_least_20 kl11_206 ?_
    exact g_lret rfl d11_least_23 (⟨rfl, rfl⟩)
  · skip
    refine g_aload_n d11_least_0 rfl ?_
    refine g_get fl11_10 d11_least_1 f_0_0 ?_
    refine g_iload_n d11_least_4 rfl ?_
    refine g_EV1 vm6_hasCar ml11_125 c_1 (r6_hasCarI (xi := ((c : Nat) : Int)) n (by exact hn) hn6 (nI_ti (by omega)) (Nat.le_refl 0)) (by omega) (Nat.le_of_ble_eq_true rfl) d11_least_5 ?_
    refine g_bz 20 d11_least_8 rfl (fun c8 => absurd (by omega) c8) (fun _ => ?_)
    refine g_iload_n d11_least_11 rfl ?_
    refine g_iz_lt _ 20 (rfl) d11_least_12 rfl (fun c12 => absurd c12 (by omega)) (fun _ => ?_)
    refine g_iload_n d11_least_15 rfl ?_
    refine g_iconstv (nI 3) d11_least_16 rfl ?_
    refine g_ic_le _ (3) 24 (rfl) (by decide) d11_least_17 rfl (fun c17 => absurd c17 (by omega)) (fun _ => ?_)
    refine g_ldc2 d11_least_20 kl11_206 ?_
    exact g_lret rfl d11_least_23 (⟨rfl, rfl⟩)
set_option maxHeartbeats 400000 in
theorem r11_least_1 {l : Launch} {K : cK} {d : Nat} {I : wI} {L : wL} {R : wR} {dy : cH} (g : Nat → Int32) (hg : g 9 = I 3 3 ∧ g 13 = I 3 7) (s0 : Nat) (h34 : I 3 4 = nI s0) (hs1 : 1 ≤ s0) (hs2 : s0 ≤ 12) (o : Option Nat) (lc : Option (List Cl)) (hO : CLF I R dy (I 1 5) o lc) (c fr ti se fl coin per fine : Nat) (hC : CC1 I c fr ti se fl) (hT : CT I coin per fine) (n : Nat) (hn : I 1 0 = nI n) (hn6 : n ≤ 6) (hcn : c < n) (hc1 : 1 ≤ coin) (hd : 7 ≤ d) : CX l K m11_least d [.ref 0, .int (nI c), .int (nI 1)] (hp I L R dy) (α := wI × wL) (fun x => FK [22, 23, 25, 26, 28, 30, 31, 36, 39, 40, 41, 51, 52] [22, 24, 27, 30, 32, 33, 34, 35, 37, 38, 39, 42, 43, 51, 53, 54] I L x.1 x.2) (fun _ => .long (lN (sm (rcv (pt fr2 (cmR g (I 3 5) (lfO lc)) s0 fr) (10 ^ (ti - fr + 1)) (fun k => rD coin per fr ti fl false (cmR g (I 3 5) (lfO lc)) (fnR g (I 3 5) (lfO lc) c fr fine) (sbR g (I 3 5) (lfO lc) c fr) (ti + 1 - fr) k 0)) 12))) (fun x => hp x.1 x.2 (uR R 21 1 o) dy) := by
  have eK : ∀ wn : Bool, rD coin per fr ti fl wn (cmR g (I 3 5) (lfO lc)) (fnK (cmR g (I 3 5) (lfO lc)) (fnR g (I 3 5) (lfO lc) c fr fine)) nSb (ti + 1 - fr) = rD coin per fr ti fl wn (cmR g (I 3 5) (lfO lc)) (fnR g (I 3 5) (lfO lc) c fr fine) (sbR g (I 3 5) (lfO lc) c fr) (ti + 1 - fr) := fun wn => rD_K coin per fr ti fl wn (cmR g (I 3 5) (lfO lc)) (fnR g (I 3 5) (lfO lc) c fr fine) (sbR g (I 3 5) (lfO lc) c fr) hT.2.2.2.1 sb_fn (ti + 1 - fr)
  refine CC.of ok11_least (Nat.le_of_ble_eq_true rfl) ?_
  refine g_aload_n d11_least_0 rfl ?_
  refine g_get fl11_10 d11_least_1 f_0_0 ?_
  refine g_iload_n d11_least_4 rfl ?_
  refine g_EV1 vm6_hasCar ml11_125 c_1 (r6_hasCarI (xi := ((c : Nat) : Int)) n (by exact hn) hn6 (nI_ti (by omega)) (Nat.le_refl 0)) (by omega) (Nat.le_of_ble_eq_true rfl) d11_least_5 ?_
  refine g_bz 20 d11_least_8 rfl (fun c8 => absurd (by omega) c8) (fun _ => ?_)
  refine g_iload_n d11_least_11 rfl ?_
  refine g_iz_lt (1) 20 (by decide) d11_least_12 rfl (fun c12 => absurd c12 (by decide)) (fun _ => ?_)
  refine g_iload_n d11_least_15 rfl ?_
  refine g_iconstv (nI 3) d11_least_16 rfl ?_
  refine g_ic_le (1) (3) 24 (by decide) (by decide) d11_least_17 rfl (fun _ => ?_) (fun c17 => absurd c17 (by decide))
  refine g_aload_n d11_least_24 rfl ?_
  refine g_iload_n d11_least_25 rfl ?_
  refine g_WV1 vm11_lookAt ml11_218 c_0 (r11_lookAt g hg s0 h34 hs1 hs2 o lc hO c fr ti se fl coin per fine hC hT (Nat.le_refl 6)) (by omega) (Nat.le_of_ble_eq_true rfl) d11_least_26 (fun x hx => ?_)
  obtain ⟨I2, L2⟩ := x
  obtain ⟨f1, w1, p1, z1⟩ := hx
  dsimp only at f1 w1 p1 z1 ⊢
  obtain ⟨v0, v1, v2, v3, v4, v5, v6, v7, v8, v9, v10, v11, v12, v13, v14, v15⟩ := id z1
  refine g_iload_n d11_least_29 rfl ?_
  refine g_iconstv (nI 1) d11_least_30 rfl ?_
  refine g_ic_eq (1) (1) 39 (by decide) (by decide) d11_least_31 rfl (fun _ => ?_) (fun c31 => absurd c31 (by decide))
  refine g_aload_n d11_least_39 rfl ?_
  refine g_get fl11_66 d11_least_40 f_0_8 ?_
  refine g_iload_n d11_least_43 rfl ?_
  refine g_iconstv (nI 2) d11_least_44 rfl ?_
  refine g_ic_ne (1) (2) 52 (by decide) (by decide) d11_least_45 rfl (fun _ => ?_) (fun c45 => absurd c45 (by decide))
  refine g_iconstv (nI 0) d11_least_52 rfl ?_
  refine g_XV1 vm3_leastByState ml11_234 c_39 (r3_least (I := I2) (L := L2) g (I 3 5) w1 lc hO.lw c fr ti se fl coin per fine z1 (cmR g (I 3 5) (lfO lc)) (fnR g (I 3 5) (lfO lc) c fr fine) rfl rfl false hT.2.2.2.1 hc1 s0 p1 (Nat.le_refl 6)) (by omega) (Nat.le_of_ble_eq_true rfl) d11_least_53 (fun y hy => ?_)
  exact g_lret rfl d11_least_56 (⟨y, (f1.up (by decide) (by decide)).tr (hy.1.up (by decide) (by decide)), by rw [eK], rfl⟩)
set_option maxHeartbeats 400000 in
theorem r11_least_2 {l : Launch} {K : cK} {d : Nat} {I : wI} {L : wL} {R : wR} {dy : cH} (g : Nat → Int32) (hg : g 9 = I 3 3 ∧ g 13 = I 3 7) (s0 : Nat) (h34 : I 3 4 = nI s0) (hs1 : 1 ≤ s0) (hs2 : s0 ≤ 12) (o : Option Nat) (lc : Option (List Cl)) (hO : CLF I R dy (I 1 5) o lc) (c fr ti se fl coin per fine : Nat) (hC : CC1 I c fr ti se fl) (hT : CT I coin per fine) (n : Nat) (hn : I 1 0 = nI n) (hn6 : n ≤ 6) (hcn : c < n) (hc1 : 1 ≤ coin) (hd : 7 ≤ d) : CX l K m11_least d [.ref 0, .int (nI c), .int (nI 2)] (hp I L R dy) (α := wI × wL) (fun x => FK [22, 23, 25, 26, 28, 30, 31, 36, 39, 40, 41, 51, 52] [22, 24, 27, 30, 32, 33, 34, 35, 37, 38, 39, 42, 43, 51, 53, 54] I L x.1 x.2) (fun _ => .long (lN (sm (rcv (pt fr2 (cmR g (I 3 5) (lfO lc)) s0 fr) (10 ^ (ti - fr + 1)) (fun k => rD coin per fr ti fl true (cmR g (I 3 5) (lfO lc)) (fnR g (I 3 5) (lfO lc) c fr fine) (sbR g (I 3 5) (lfO lc) c fr) (ti + 1 - fr) k 0)) 12))) (fun x => hp x.1 x.2 (uR R 21 1 o) dy) := by
  have eK : ∀ wn : Bool, rD coin per fr ti fl wn (cmR g (I 3 5) (lfO lc)) (fnK (cmR g (I 3 5) (lfO lc)) (fnR g (I 3 5) (lfO lc) c fr fine)) nSb (ti + 1 - fr) = rD coin per fr ti fl wn (cmR g (I 3 5) (lfO lc)) (fnR g (I 3 5) (lfO lc) c fr fine) (sbR g (I 3 5) (lfO lc) c fr) (ti + 1 - fr) := fun wn => rD_K coin per fr ti fl wn (cmR g (I 3 5) (lfO lc)) (fnR g (I 3 5) (lfO lc) c fr fine) (sbR g (I 3 5) (lfO lc) c fr) hT.2.2.2.1 sb_fn (ti + 1 - fr)
  refine CC.of ok11_least (Nat.le_of_ble_eq_true rfl) ?_
  refine g_aload_n d11_least_0 rfl ?_
  refine g_get fl11_10 d11_least_1 f_0_0 ?_
  refine g_iload_n d11_least_4 rfl ?_
  refine g_EV1 vm6_hasCar ml11_125 c_1 (r6_hasCarI (xi := ((c : Nat) : Int)) n (by exact hn) hn6 (nI_ti (by omega)) (Nat.le_refl 0)) (by omega) (Nat.le_of_ble_eq_true rfl) d11_least_5 ?_
  refine g_bz 20 d11_least_8 rfl (fun c8 => absurd (by omega) c8) (fun _ => ?_)
  refine g_iload_n d11_least_11 rfl ?_
  refine g_iz_lt (2) 20 (by decide) d11_least_12 rfl (fun c12 => absurd c12 (by decide)) (fun _ => ?_)
  refine g_iload_n d11_least_15 rfl ?_
  refine g_iconstv (nI 3) d11_least_16 rfl ?_
  refine g_ic_le (2) (3) 24 (by decide) (by decide) d11_least_17 rfl (fun _ => ?_) (fun c17 => absurd c17 (by decide))
  refine g_aload_n d11_least_24 rfl ?_
  refine g_iload_n d11_least_25 rfl ?_
  refine g_WV1 vm11_lookAt ml11_218 c_0 (r11_lookAt g hg s0 h34 hs1 hs2 o lc hO c fr ti se fl coin per fine hC hT (Nat.le_refl 6)) (by omega) (Nat.le_of_ble_eq_true rfl) d11_least_26 (fun x hx => ?_)
  obtain ⟨I2, L2⟩ := x
  obtain ⟨f1, w1, p1, z1⟩ := hx
  dsimp only at f1 w1 p1 z1 ⊢
  obtain ⟨v0, v1, v2, v3, v4, v5, v6, v7, v8, v9, v10, v11, v12, v13, v14, v15⟩ := id z1
  refine g_iload_n d11_least_29 rfl ?_
  refine g_iconstv (nI 1) d11_least_30 rfl ?_
  refine g_ic_eq (2) (1) 39 (by decide) (by decide) d11_least_31 rfl (fun c31 => absurd c31 (by decide)) (fun _ => ?_)
  refine g_iload_n d11_least_34 rfl ?_
  refine g_iconstv (nI 2) d11_least_35 rfl ?_
  refine g_ic_ne (2) (2) 57 (by decide) (by decide) d11_least_36 rfl (fun c36 => absurd c36 (by decide)) (fun _ => ?_)
  refine g_aload_n d11_least_39 rfl ?_
  refine g_get fl11_66 d11_least_40 f_0_8 ?_
  refine g_iload_n d11_least_43 rfl ?_
  refine g_iconstv (nI 2) d11_least_44 rfl ?_
  refine g_ic_ne (2) (2) 52 (by decide) (by decide) d11_least_45 rfl (fun c45 => absurd c45 (by decide)) (fun _ => ?_)
  refine g_iconstv (nI 1) d11_least_48 rfl ?_
  refine g_goto 53 d11_least_49 rfl ?_
  refine g_XV1 vm3_leastByState ml11_234 c_39 (r3_least (I := I2) (L := L2) g (I 3 5) w1 lc hO.lw c fr ti se fl coin per fine z1 (cmR g (I 3 5) (lfO lc)) (fnR g (I 3 5) (lfO lc) c fr fine) rfl rfl true hT.2.2.2.1 hc1 s0 p1 (Nat.le_refl 6)) (by omega) (Nat.le_of_ble_eq_true rfl) d11_least_53 (fun y hy => ?_)
  exact g_lret rfl d11_least_56 (⟨y, (f1.up (by decide) (by decide)).tr (hy.1.up (by decide) (by decide)), by rw [eK], rfl⟩)
set_option maxHeartbeats 400000 in
theorem r11_least_0 {l : Launch} {K : cK} {d : Nat} {I : wI} {L : wL} {R : wR} {dy : cH} (g : Nat → Int32) (hg : g 9 = I 3 3 ∧ g 13 = I 3 7) (s0 : Nat) (h34 : I 3 4 = nI s0) (hs1 : 1 ≤ s0) (hs2 : s0 ≤ 12) (o : Option Nat) (lc : Option (List Cl)) (hO : CLF I R dy (I 1 5) o lc) (c fr ti se fl coin per fine : Nat) (hC : CC1 I c fr ti se fl) (hT : CT I coin per fine) (n : Nat) (hn : I 1 0 = nI n) (hn6 : n ≤ 6) (hcn : c < n) (hc1 : 1 ≤ coin) (hd : 7 ≤ d) : CX l K m11_least d [.ref 0, .int (nI c), .int (nI 0)] (hp I L R dy) (α := wI × wL) (fun x => FK [22, 23, 25, 26, 28, 30, 31, 36, 39, 40, 41, 51, 52] [22, 24, 27, 30, 32, 33, 34, 35, 37, 38, 39, 42, 43, 51, 53, 54] I L x.1 x.2) (fun _ => .long (lN (dD coin per fr ti fl (fun s => mfv (cmR g (I 3 5) (lfO lc)) s0 (fnR g (I 3 5) (lfO lc) c fr fine) s 12) (ti + 1 - fr) 0))) (fun x => hp x.1 x.2 (uR R 21 1 o) dy) := by
  have hMl : ∀ s, (fun s => mfv (cmR g (I 3 5) (lfO lc)) s0 (fnR g (I 3 5) (lfO lc) c fr fine) s 12) s ≤ 99000000000000 := fun s => mfv_le _ s0 _ (cmR_le _ _ _) (fun a b => fnR_le _ _ _ _ _ a b hT.2.2.2.2.2.2) s
  refine CC.of ok11_least (Nat.le_of_ble_eq_true rfl) ?_
  refine g_aload_n d11_least_0 rfl ?_
  refine g_get fl11_10 d11_least_1 f_0_0 ?_
  refine g_iload_n d11_least_4 rfl ?_
  refine g_EV1 vm6_hasCar ml11_125 c_1 (r6_hasCarI (xi := ((c : Nat) : Int)) n (by exact hn) hn6 (nI_ti (by omega)) (Nat.le_refl 0)) (by omega) (Nat.le_of_ble_eq_true rfl) d11_least_5 ?_
  refine g_bz 20 d11_least_8 rfl (fun c8 => absurd (by omega) c8) (fun _ => ?_)
  refine g_iload_n d11_least_11 rfl ?_
  refine g_iz_lt (0) 20 (by decide) d11_least_12 rfl (fun c12 => absurd c12 (by decide)) (fun _ => ?_)
  refine g_iload_n d11_least_15 rfl ?_
  refine g_iconstv (nI 3) d11_least_16 rfl ?_
  refine g_ic_le (0) (3) 24 (by decide) (by decide) d11_least_17 rfl (fun _ => ?_) (fun c17 => absurd c17 (by decide))
  refine g_aload_n d11_least_24 rfl ?_
  refine g_iload_n d11_least_25 rfl ?_
  refine g_WV1 vm11_lookAt ml11_218 c_0 (r11_lookAt g hg s0 h34 hs1 hs2 o lc hO c fr ti se fl coin per fine hC hT (Nat.le_refl 6)) (by omega) (Nat.le_of_ble_eq_true rfl) d11_least_26 (fun x hx => ?_)
  obtain ⟨I2, L2⟩ := x
  obtain ⟨f1, w1, p1, z1⟩ := hx
  dsimp only at f1 w1 p1 z1 ⊢
  obtain ⟨v0, v1, v2, v3, v4, v5, v6, v7, v8, v9, v10, v11, v12, v13, v14, v15⟩ := id z1
  refine g_iload_n d11_least_29 rfl ?_
  refine g_iconstv (nI 1) d11_least_30 rfl ?_
  refine g_ic_eq (0) (1) 39 (by decide) (by decide) d11_least_31 rfl (fun c31 => absurd c31 (by decide)) (fun _ => ?_)
  refine g_iload_n d11_least_34 rfl ?_
  refine g_iconstv (nI 2) d11_least_35 rfl ?_
  refine g_ic_ne (0) (2) 57 (by decide) (by decide) d11_least_36 rfl (fun _ => ?_) (fun c36 => absurd c36 (by decide))
  refine g_aload_n d11_least_57 rfl ?_
  refine g_get fl11_59 d11_least_58 f_0_7 ?_
  refine g_WV0 vm0_reckonFines ml11_221 c_29 (r0_fines (I := I2) (L := L2) g (I 3 5) w1 lc hO.lw s0 (cmR g (I 3 5) (lfO lc)) rfl c fr ti se fl coin per fine z1 p1 (Nat.le_refl 4)) (by omega) (Nat.le_of_ble_eq_true rfl) d11_least_61 (fun y hy => ?_)
  obtain ⟨I3, L3⟩ := y
  obtain ⟨⟨f2, w2, z2, p2⟩, t2⟩ := hy
  dsimp only at f2 w2 z2 p2 t2 ⊢
  have F2 : FK [22, 23, 25, 26, 28, 30, 31, 36, 39, 40, 41, 51, 52] [22, 24, 27, 30, 32, 33, 34, 35, 37, 38, 39, 42, 43, 51, 53, 54] I L I3 L3 := (f1.up (by decide) (by decide)).tr (f2.up (by decide) (by decide))
  refine g_aload_n d11_least_64 rfl ?_
  refine g_get fl11_59 d11_least_65 f_0_7 ?_
  refine g_XV0 vm0_leastAhead ml11_238 c_29 (r0_least (I := I3) (L := L3) (fun s => tdv (cpv (cmR g (I 3 5) (lfO lc)) s0) (sbR g (I 3 5) (lfO lc) c fr) (fun s k => fiO lc (ceR g (I 3 5) c fr s k)) s 12) (fun s => tav (cpv (cmR g (I 3 5) (lfO lc)) s0) (sbR g (I 3 5) (lfO lc) c fr) (fun s k => fiO lc (ceR g (I 3 5) c fr s k)) s 12) c fr ti se fl coin per fine z2 hc1 (fun s => mfv (cmR g (I 3 5) (lfO lc)) s0 (fnR g (I 3 5) (lfO lc) c fr fine) s 12) (td_mf v15).symm hMl t2 (Nat.le_refl 4)) (by omega) (Nat.le_of_ble_eq_true rfl) d11_least_68 (fun q hq => ?_)
  refine g_lstore_n d11_least_71 (by decide) ?_
  refine g_iload_n d11_least_72 rfl ?_
  refine g_iz_ne (0) 80 (by decide) d11_least_73 rfl (fun c73 => absurd c73 (by decide)) (fun _ => ?_)
  refine g_lload_n d11_least_76 rfl ?_
  refine g_goto 90 d11_least_77 rfl ?_
  exact g_lret rfl d11_least_90 (⟨q, F2.tr (hq.1.up (by decide) (by decide)), rfl, rfl⟩)
set_option maxHeartbeats 400000 in
theorem r11_least_3 {l : Launch} {K : cK} {d : Nat} {I : wI} {L : wL} {R : wR} {dy : cH} (g : Nat → Int32) (hg : g 9 = I 3 3 ∧ g 13 = I 3 7) (s0 : Nat) (h34 : I 3 4 = nI s0) (hs1 : 1 ≤ s0) (hs2 : s0 ≤ 12) (o : Option Nat) (lc : Option (List Cl)) (hO : CLF I R dy (I 1 5) o lc) (c fr ti se fl coin per fine : Nat) (hC : CC1 I c fr ti se fl) (hT : CT I coin per fine) (n : Nat) (hn : I 1 0 = nI n) (hn6 : n ≤ 6) (hcn : c < n) (hc1 : 1 ≤ coin) (hd : 7 ≤ d) : CX l K m11_least d [.ref 0, .int (nI c), .int (nI 3)] (hp I L R dy) (α := wI × wL) (fun x => FK [22, 23, 25, 26, 28, 30, 31, 36, 39, 40, 41, 51, 52] [22, 24, 27, 30, 32, 33, 34, 35, 37, 38, 39, 42, 43, 51, 53, 54] I L x.1 x.2) (fun _ => .long (lN (dD coin per fr ti fl (fun s => mfv (cmR g (I 3 5) (lfO lc)) s0 (fnR g (I 3 5) (lfO lc) c fr fine) s 12) (ti + 1 - fr) 0) - lN (sm (rcv (pt fr2 (cmR g (I 3 5) (lfO lc)) s0 fr) (10 ^ (ti - fr + 1)) (fun k => rD coin per fr ti fl false (cmR g (I 3 5) (lfO lc)) (fnR g (I 3 5) (lfO lc) c fr fine) (sbR g (I 3 5) (lfO lc) c fr) (ti + 1 - fr) k 0)) 12))) (fun x => hp x.1 x.2 (uR R 21 1 o) dy) := by
  have hMl : ∀ s, (fun s => mfv (cmR g (I 3 5) (lfO lc)) s0 (fnR g (I 3 5) (lfO lc) c fr fine) s 12) s ≤ 99000000000000 := fun s => mfv_le _ s0 _ (cmR_le _ _ _) (fun a b => fnR_le _ _ _ _ _ a b hT.2.2.2.2.2.2) s
  have eK : ∀ wn : Bool, rD coin per fr ti fl wn (cmR g (I 3 5) (lfO lc)) (fnK (cmR g (I 3 5) (lfO lc)) (fnR g (I 3 5) (lfO lc) c fr fine)) nSb (ti + 1 - fr) = rD coin per fr ti fl wn (cmR g (I 3 5) (lfO lc)) (fnR g (I 3 5) (lfO lc) c fr fine) (sbR g (I 3 5) (lfO lc) c fr) (ti + 1 - fr) := fun wn => rD_K coin per fr ti fl wn (cmR g (I 3 5) (lfO lc)) (fnR g (I 3 5) (lfO lc) c fr fine) (sbR g (I 3 5) (lfO lc) c fr) hT.2.2.2.1 sb_fn (ti + 1 - fr)
  refine CC.of ok11_least (Nat.le_of_ble_eq_true rfl) ?_
  refine g_aload_n d11_least_0 rfl ?_
  refine g_get fl11_10 d11_least_1 f_0_0 ?_
  refine g_iload_n d11_least_4 rfl ?_
  refine g_EV1 vm6_hasCar ml11_125 c_1 (r6_hasCarI (xi := ((c : Nat) : Int)) n (by exact hn) hn6 (nI_ti (by omega)) (Nat.le_refl 0)) (by omega) (Nat.le_of_ble_eq_true rfl) d11_least_5 ?_
  refine g_bz 20 d11_least_8 rfl (fun c8 => absurd (by omega) c8) (fun _ => ?_)
  refine g_iload_n d11_least_11 rfl ?_
  refine g_iz_lt (3) 20 (by decide) d11_least_12 rfl (fun c12 => absurd c12 (by decide)) (fun _ => ?_)
  refine g_iload_n d11_least_15 rfl ?_
  refine g_iconstv (nI 3) d11_least_16 rfl ?_
  refine g_ic_le (3) (3) 24 (by decide) (by decide) d11_least_17 rfl (fun _ => ?_) (fun c17 => absurd c17 (by decide))
  refine g_aload_n d11_least_24 rfl ?_
  refine g_iload_n d11_least_25 rfl ?_
  refine g_WV1 vm11_lookAt ml11_218 c_0 (r11_lookAt g hg s0 h34 hs1 hs2 o lc hO c fr ti se fl coin per fine hC hT (Nat.le_refl 6)) (by omega) (Nat.le_of_ble_eq_true rfl) d11_least_26 (fun x hx => ?_)
  obtain ⟨I2, L2⟩ := x
  obtain ⟨f1, w1, p1, z1⟩ := hx
  dsimp only at f1 w1 p1 z1 ⊢
  obtain ⟨v0, v1, v2, v3, v4, v5, v6, v7, v8, v9, v10, v11, v12, v13, v14, v15⟩ := id z1
  refine g_iload_n d11_least_29 rfl ?_
  refine g_iconstv (nI 1) d11_least_30 rfl ?_
  refine g_ic_eq (3) (1) 39 (by decide) (by decide) d11_least_31 rfl (fun c31 => absurd c31 (by decide)) (fun _ => ?_)
  refine g_iload_n d11_least_34 rfl ?_
  refine g_iconstv (nI 2) d11_least_35 rfl ?_
  refine g_ic_ne (3) (2) 57 (by decide) (by decide) d11_least_36 rfl (fun _ => ?_) (fun c36 => absurd c36 (by decide))
  refine g_aload_n d11_least_57 rfl ?_
  refine g_get fl11_59 d11_least_58 f_0_7 ?_
  refine g_WV0 vm0_reckonFines ml11_221 c_29 (r0_fines (I := I2) (L := L2) g (I 3 5) w1 lc hO.lw s0 (cmR g (I 3 5) (lfO lc)) rfl c fr ti se fl coin per fine z1 p1 (Nat.le_refl 4)) (by omega) (Nat.le_of_ble_eq_true rfl) d11_least_61 (fun y hy => ?_)
  obtain ⟨I3, L3⟩ := y
  obtain ⟨⟨f2, w2, z2, p2⟩, t2⟩ := hy
  dsimp only at f2 w2 z2 p2 t2 ⊢
  have F2 : FK [22, 23, 25, 26, 28, 30, 31, 36, 39, 40, 41, 51, 52] [22, 24, 27, 30, 32, 33, 34, 35, 37, 38, 39, 42, 43, 51, 53, 54] I L I3 L3 := (f1.up (by decide) (by decide)).tr (f2.up (by decide) (by decide))
  refine g_aload_n d11_least_64 rfl ?_
  refine g_get fl11_59 d11_least_65 f_0_7 ?_
  refine g_XV0 vm0_leastAhead ml11_238 c_29 (r0_least (I := I3) (L := L3) (fun s => tdv (cpv (cmR g (I 3 5) (lfO lc)) s0) (sbR g (I 3 5) (lfO lc) c fr) (fun s k => fiO lc (ceR g (I 3 5) c fr s k)) s 12) (fun s => tav (cpv (cmR g (I 3 5) (lfO lc)) s0) (sbR g (I 3 5) (lfO lc) c fr) (fun s k => fiO lc (ceR g (I 3 5) c fr s k)) s 12) c fr ti se fl coin per fine z2 hc1 (fun s => mfv (cmR g (I 3 5) (lfO lc)) s0 (fnR g (I 3 5) (lfO lc) c fr fine) s 12) (td_mf v15).symm hMl t2 (Nat.le_refl 4)) (by omega) (Nat.le_of_ble_eq_true rfl) d11_least_68 (fun q hq => ?_)
  obtain ⟨I4, L4⟩ := q
  obtain ⟨f3, d3, b3⟩ := hq
  dsimp only at f3 d3 b3 ⊢
  refine g_lstore_n d11_least_71 (by decide) ?_
  refine g_iload_n d11_least_72 rfl ?_
  refine g_iz_ne (3) 80 (by decide) d11_least_73 rfl (fun _ => ?_) (fun c73 => absurd c73 (by decide))
  refine g_lload_n d11_least_80 rfl ?_
  refine g_aload_n d11_least_81 rfl ?_
  refine g_get fl11_66 d11_least_82 f_0_8 ?_
  refine g_iconstv (nI 0) d11_least_85 rfl ?_
  refine g_XV1 vm3_leastByState ml11_234 c_39 (r3_least (I := I4) (L := L4) g (I 3 5) (w2.of (f3.1 23 (by decide))) lc hO.lw c fr ti se fl coin per fine (z2.of (f3.1 28 (by decide))) (cmR g (I 3 5) (lfO lc)) (fnR g (I 3 5) (lfO lc) c fr fine) rfl rfl false hT.2.2.2.1 hc1 s0 (p2.of (f3.1 26 (by decide)) (f3.2 27 (by decide))) (Nat.le_refl 6)) (by omega) (Nat.le_of_ble_eq_true rfl) d11_least_86 (fun y hy => ?_)
  refine g_lsub d11_least_89 ?_
  exact g_lret rfl d11_least_90 (⟨y, (F2.tr (f3.up (by decide) (by decide))).tr (hy.1.up (by decide) (by decide)), by rw [eK], rfl⟩)
set_option maxHeartbeats 200000 in
theorem r11_run_n1 {l : Launch} {K : cK} {d : Nat} {I : wI} {L : wL} {R : wR} {dy : cH} (n : Nat) (hn : I 1 0 = nI n) (hn6 : n ≤ 6) (x s k q : Int32) (hbad : ¬ (0 ≤ x.toInt ∧ x.toInt < n)) (hd : 1 ≤ d) : CE l K m11_run d [.ref 0, .int x, .int s, .int k, .int q] (hp I L R dy) (.int (-1)) (hp I L R dy) := by
  refine CC.of ok11_run (Nat.le_of_ble_eq_true rfl) ?_
  refine g_aload_n d11_run_0 rfl ?_
  refine g_get fl11_10 d11_run_1 f_0_0 ?_
  refine g_iload_n d11_run_4 rfl ?_
  refine g_EV1 vm6_hasCar ml11_125 c_1 (r6_hasCarI  n (by exact hn) hn6 (rfl) (Nat.le_refl 0)) (by omega) (Nat.le_of_ble_eq_true rfl) d11_run_5 ?_
  refine g_bz 37 d11_run_8 rfl (fun _ => ?_) (fun c8 => absurd c8 (by omega))
  refine g_iconstv ((-1 : Int32)) d11_run_37 rfl ?_
  exact g_iret rfl d11_run_38 (⟨rfl, rfl⟩)
set_option maxHeartbeats 200000 in
theorem r11_run_n2 {l : Launch} {K : cK} {d : Nat} {I : wI} {L : wL} {R : wR} {dy : cH} (n : Nat) (hn : I 1 0 = nI n) (hn6 : n ≤ 6) (c fr ti se fl : Nat) (hC : CC1 I c fr ti se fl) (hc : c < n) (s k q : Int32) (hbad : ¬ ((fr : Int) ≤ s.toInt ∧ s.toInt ≤ ti ∧ 1 ≤ k.toInt ∧ k.toInt ≤ 12 ∧ 0 ≤ q.toInt ∧ q.toInt ≤ 12)) (hd : 1 ≤ d) : CE l K m11_run d [.ref 0, .int (nI c), .int s, .int k, .int q] (hp I L R dy) (.int (-1)) (hp I L R dy) := by
  refine CC.of ok11_run (Nat.le_of_ble_eq_true rfl) ?_
  obtain ⟨a0, a1, a2, a3, a4, a5, a6, a7, a8⟩ := id hC
  by_cases h21 : s.toInt < (fr : Int)
  · skip
    refine g_aload_n d11_run_0 rfl ?_
    refine g_get fl11_10 d11_run_1 f_0_0 ?_
    refine g_iload_n d11_run_4 rfl ?_
    refine g_EV1 vm6_hasCar ml11_125 c_1 (r6_hasCarI (xi := ((c : Nat) : Int)) n (by exact hn) hn6 (nI_ti (by omega)) (Nat.le_refl 0)) (by omega) (Nat.le_of_ble_eq_true rfl) d11_run_5 ?_
    refine g_bz 37 d11_run_8 rfl (fun c8 => absurd (by omega) c8) (fun _ => ?_)
    refine g_iload_n d11_run_11 rfl ?_
    refine g_aload_n d11_run_12 rfl ?_
    refine g_get fl11_10 d11_run_13 f_0_0 ?_
    refine g_iload_n d11_run_16 rfl ?_
    refine g_iconstv (nI 0) d11_run_17 rfl ?_
    refine g_EV2 vm6_factOf ml11_129 c_1 (r6_factOf (c) (0) (by omega) (by omega) (Nat.le_refl 0)) (by omega) (Nat.le_of_ble_eq_true rfl) d11_run_18 ?_
    refine g_topI (nI (fr)) (a1) ?_
    refine g_ic_lt _ ((fr : Nat) : Int) 37 (rfl) (nI_ti (by omega)) d11_run_21 rfl (fun _ => ?_) (fun c21 => absurd c21 (by omega))
    refine g_iconstv ((-1 : Int32)) d11_run_37 rfl ?_
    exact g_iret rfl d11_run_38 (⟨rfl, rfl⟩)
  by_cases h34 : (ti : Int) < s.toInt
  · skip
    refine g_aload_n d11_run_0 rfl ?_
    refine g_get fl11_10 d11_run_1 f_0_0 ?_
    refine g_iload_n d11_run_4 rfl ?_
    refine g_EV1 vm6_hasCar ml11_125 c_1 (r6_hasCarI (xi := ((c : Nat) : Int)) n (by exact hn) hn6 (nI_ti (by omega)) (Nat.le_refl 0)) (by omega) (Nat.le_of_ble_eq_true rfl) d11_run_5 ?_
    refine g_bz 37 d11_run_8 rfl (fun c8 => absurd (by omega) c8) (fun _ => ?_)
    refine g_iload_n d11_run_11 rfl ?_
    refine g_aload_n d11_run_12 rfl ?_
    refine g_get fl11_10 d11_run_13 f_0_0 ?_
    refine g_iload_n d11_run_16 rfl ?_
    refine g_iconstv (nI 0) d11_run_17 rfl ?_
    refine g_EV2 vm6_factOf ml11_129 c_1 (r6_factOf (c) (0) (by omega) (by omega) (Nat.le_refl 0)) (by omega) (Nat.le_of_ble_eq_true rfl) d11_run_18 ?_
    refine g_topI (nI (fr)) (a1) ?_
    refine g_ic_lt _ ((fr : Nat) : Int) 37 (rfl) (nI_ti (by omega)) d11_run_21 rfl (fun c21 => absurd c21 (by omega)) (fun _ => ?_)
    refine g_iload_n d11_run_24 rfl ?_
    refine g_aload_n d11_run_25 rfl ?_
    refine g_get fl11_10 d11_run_26 f_0_0 ?_
    refine g_iload_n d11_run_29 rfl ?_
    refine g_iconstv (nI 1) d11_run_30 rfl ?_
    refine g_EV2 vm6_factOf ml11_129 c_1 (r6_factOf (c) (1) (by omega) (by omega) (Nat.le_refl 0)) (by omega) (Nat.le_of_ble_eq_true rfl) d11_run_31 ?_
    refine g_topI (nI (ti)) (a2) ?_
    refine g_ic_le _ ((ti : Nat) : Int) 39 (rfl) (nI_ti (by omega)) d11_run_34 rfl (fun c34 => absurd c34 (by omega)) (fun _ => ?_)
    refine g_iconstv ((-1 : Int32)) d11_run_37 rfl ?_
    exact g_iret rfl d11_run_38 (⟨rfl, rfl⟩)
  by_cases h41 : k.toInt < 1
  · skip
    refine g_aload_n d11_run_0 rfl ?_
    refine g_get fl11_10 d11_run_1 f_0_0 ?_
    refine g_iload_n d11_run_4 rfl ?_
    refine g_EV1 vm6_hasCar ml11_125 c_1 (r6_hasCarI (xi := ((c : Nat) : Int)) n (by exact hn) hn6 (nI_ti (by omega)) (Nat.le_refl 0)) (by omega) (Nat.le_of_ble_eq_true rfl) d11_run_5 ?_
    refine g_bz 37 d11_run_8 rfl (fun c8 => absurd (by omega) c8) (fun _ => ?_)
    refine g_iload_n d11_run_11 rfl ?_
    refine g_aload_n d11_run_12 rfl ?_
    refine g_get fl11_10 d11_run_13 f_0_0 ?_
    refine g_iload_n d11_run_16 rfl ?_
    refine g_iconstv (nI 0) d11_run_17 rfl ?_
    refine g_EV2 vm6_factOf ml11_129 c_1 (r6_factOf (c) (0) (by omega) (by omega) (Nat.le_refl 0)) (by omega) (Nat.le_of_ble_eq_true rfl) d11_run_18 ?_
    refine g_topI (nI (fr)) (a1) ?_
    refine g_ic_lt _ ((fr : Nat) : Int) 37 (rfl) (nI_ti (by omega)) d11_run_21 rfl (fun c21 => absurd c21 (by omega)) (fun _ => ?_)
    refine g_iload_n d11_run_24 rfl ?_
    refine g_aload_n d11_run_25 rfl ?_
    refine g_get fl11_10 d11_run_26 f_0_0 ?_
    refine g_iload_n d11_run_29 rfl ?_
    refine g_iconstv (nI 1) d11_run_30 rfl ?_
    refine g_EV2 vm6_factOf ml11_129 c_1 (r6_factOf (c) (1) (by omega) (by omega) (Nat.le_refl 0)) (by omega) (Nat.le_of_ble_eq_true rfl) d11_run_31 ?_
    refine g_topI (nI (ti)) (a2) ?_
    refine g_ic_le _ ((ti : Nat) : Int) 39 (rfl) (nI_ti (by omega)) d11_run_34 rfl (fun _ => ?_) (fun c34 => absurd c34 (by omega))
    refine g_iload_n d11_run_39 rfl ?_
    refine g_iconstv (nI 1) d11_run_40 rfl ?_
    refine g_ic_lt _ (1) 62 (rfl) (by decide) d11_run_41 rfl (fun _ => ?_) (fun c41 => absurd c41 (by omega))
    refine g_iconstv ((-1 : Int32)) d11_run_62 rfl ?_
    exact g_iret rfl d11_run_63 (⟨rfl, rfl⟩)
  by_cases h47 : 12 < k.toInt
  · skip
    refine g_aload_n d11_run_0 rfl ?_
    refine g_get fl11_10 d11_run_1 f_0_0 ?_
    refine g_iload_n d11_run_4 rfl ?_
    refine g_EV1 vm6_hasCar ml11_125 c_1 (r6_hasCarI (xi := ((c : Nat) : Int)) n (by exact hn) hn6 (nI_ti (by omega)) (Nat.le_refl 0)) (by omega) (Nat.le_of_ble_eq_true rfl) d11_run_5 ?_
    refine g_bz 37 d11_run_8 rfl (fun c8 => absurd (by omega) c8) (fun _ => ?_)
    refine g_iload_n d11_run_11 rfl ?_
    refine g_aload_n d11_run_12 rfl ?_
    refine g_get fl11_10 d11_run_13 f_0_0 ?_
    refine g_iload_n d11_run_16 rfl ?_
    refine g_iconstv (nI 0) d11_run_17 rfl ?_
    refine g_EV2 vm6_factOf ml11_129 c_1 (r6_factOf (c) (0) (by omega) (by omega) (Nat.le_refl 0)) (by omega) (Nat.le_of_ble_eq_true rfl) d11_run_18 ?_
    refine g_topI (nI (fr)) (a1) ?_
    refine g_ic_lt _ ((fr : Nat) : Int) 37 (rfl) (nI_ti (by omega)) d11_run_21 rfl (fun c21 => absurd c21 (by omega)) (fun _ => ?_)
    refine g_iload_n d11_run_24 rfl ?_
    refine g_aload_n d11_run_25 rfl ?_
    refine g_get fl11_10 d11_run_26 f_0_0 ?_
    refine g_iload_n d11_run_29 rfl ?_
    refine g_iconstv (nI 1) d11_run_30 rfl ?_
    refine g_EV2 vm6_factOf ml11_129 c_1 (r6_factOf (c) (1) (by omega) (by omega) (Nat.le_refl 0)) (by omega) (Nat.le_of_ble_eq_true rfl) d11_run_31 ?_
    refine g_topI (nI (ti)) (a2) ?_
    refine g_ic_le _ ((ti : Nat) : Int) 39 (rfl) (nI_ti (by omega)) d11_run_34 rfl (fun _ => ?_) (fun c34 => absurd c34 (by omega))
    refine g_iload_n d11_run_39 rfl ?_
    refine g_iconstv (nI 1) d11_run_40 rfl ?_
    refine g_ic_lt _ (1) 62 (rfl) (by decide) d11_run_41 rfl (fun c41 => absurd c41 (by omega)) (fun _ => ?_)
    refine g_iload_n d11_run_44 rfl ?_
    refine g_bipushv (nI 12) d11_run_45 rfl ?_
    refine g_ic_gt _ (12) 62 (rfl) (by decide) d11_run_47 rfl (fun _ => ?_) (fun c47 => absurd c47 (by omega))
    refine g_iconstv ((-1 : Int32)) d11_run_62 rfl ?_
    exact g_iret rfl d11_run_63 (⟨rfl, rfl⟩)
  by_cases h52 : q.toInt < 0
  · skip
    refine g_aload_n d11_run_0 rfl ?_
    refine g_get fl11_10 d11_run_1 f_0_0 ?_
    refine g_iload_n d11_run_4 rfl ?_
    refine g_EV1 vm6_hasCar ml11_125 c_1 (r6_hasCarI (xi := ((c : Nat) : Int)) n (by exact hn) hn6 (nI_ti (by omega)) (Nat.le_refl 0)) (by omega) (Nat.le_of_ble_eq_true rfl) d11_run_5 ?_
    refine g_bz 37 d11_run_8 rfl (fun c8 => absurd (by omega) c8) (fun _ => ?_)
    refine g_iload_n d11_run_11 rfl ?_
    refine g_aload_n d11_run_12 rfl ?_
    refine g_get fl11_10 d11_run_13 f_0_0 ?_
    refine g_iload_n d11_run_16 rfl ?_
    refine g_iconstv (nI 0) d11_run_17 rfl ?_
    refine g_EV2 vm6_factOf ml11_129 c_1 (r6_factOf (c) (0) (by omega) (by omega) (Nat.le_refl 0)) (by omega) (Nat.le_of_ble_eq_true rfl) d11_run_18 ?_
    refine g_topI (nI (fr)) (a1) ?_
    refine g_ic_lt _ ((fr : Nat) : Int) 37 (rfl) (nI_ti (by omega)) d11_run_21 rfl (fun c21 => absurd c21 (by omega)) (fun _ => ?_)
    refine g_iload_n d11_run_24 rfl ?_
    refine g_aload_n d11_run_25 rfl ?_
    refine g_get fl11_10 d11_run_26 f_0_0 ?_
    refine g_iload_n d11_run_29 rfl ?_
    refine g_iconstv (nI 1) d11_run_30 rfl ?_
    refine g_EV2 vm6_factOf ml11_129 c_1 (r6_factOf (c) (1) (by omega) (by omega) (Nat.le_refl 0)) (by omega) (Nat.le_of_ble_eq_true rfl) d11_run_31 ?_
    refine g_topI (nI (ti)) (a2) ?_
    refine g_ic_le _ ((ti : Nat) : Int) 39 (rfl) (nI_ti (by omega)) d11_run_34 rfl (fun _ => ?_) (fun c34 => absurd c34 (by omega))
    refine g_iload_n d11_run_39 rfl ?_
    refine g_iconstv (nI 1) d11_run_40 rfl ?_
    refine g_ic_lt _ (1) 62 (rfl) (by decide) d11_run_41 rfl (fun c41 => absurd c41 (by omega)) (fun _ => ?_)
    refine g_iload_n d11_run_44 rfl ?_
    refine g_bipushv (nI 12) d11_run_45 rfl ?_
    refine g_ic_gt _ (12) 62 (rfl) (by decide) d11_run_47 rfl (fun c47 => absurd c47 (by omega)) (fun _ => ?_)
    refine g_iload d11_run_50 rfl ?_
    refine g_iz_lt _ 62 (rfl) d11_run_52 rfl (fun _ => ?_) (fun c52 => absurd c52 (by omega))
    refine g_iconstv ((-1 : Int32)) d11_run_62 rfl ?_
    exact g_iret rfl d11_run_63 (⟨rfl, rfl⟩)
  refine g_aload_n d11_run_0 rfl ?_
  refine g_get fl11_10 d11_run_1 f_0_0 ?_
  refine g_iload_n d11_run_4 rfl ?_
  refine g_EV1 vm6_hasCar ml11_125 c_1 (r6_hasCarI (xi := ((c : Nat) : Int)) n (by exact hn) hn6 (nI_ti (by omega)) (Nat.le_refl 0)) (by omega) (Nat.le_of_ble_eq_true rfl) d11_run_5 ?_
  refine g_bz 37 d11_run_8 rfl (fun c8 => absurd (by omega) c8) (fun _ => ?_)
  refine g_iload_n d11_run_11 rfl ?_
  refine g_aload_n d11_run_12 rfl ?_
  refine g_get fl11_10 d11_run_13 f_0_0 ?_
  refine g_iload_n d11_run_16 rfl ?_
  refine g_iconstv (nI 0) d11_run_17 rfl ?_
  refine g_EV2 vm6_factOf ml11_129 c_1 (r6_factOf (c) (0) (by omega) (by omega) (Nat.le_refl 0)) (by omega) (Nat.le_of_ble_eq_true rfl) d11_run_18 ?_
  refine g_topI (nI (fr)) (a1) ?_
  refine g_ic_lt _ ((fr : Nat) : Int) 37 (rfl) (nI_ti (by omega)) d11_run_21 rfl (fun c21 => absurd c21 (by omega)) (fun _ => ?_)
  refine g_iload_n d11_run_24 rfl ?_
  refine g_aload_n d11_run_25 rfl ?_
  refine g_get fl11_10 d11_run_26 f_0_0 ?_
  refine g_iload_n d11_run_29 rfl ?_
  refine g_iconstv (nI 1) d11_run_30 rfl ?_
  refine g_EV2 vm6_factOf ml11_129 c_1 (r6_factOf (c) (1) (by omega) (by omega) (Nat.le_refl 0)) (by omega) (Nat.le_of_ble_eq_true rfl) d11_run_31 ?_
  refine g_topI (nI (ti)) (a2) ?_
  refine g_ic_le _ ((ti : Nat) : Int) 39 (rfl) (nI_ti (by omega)) d11_run_34 rfl (fun _ => ?_) (fun c34 => absurd c34 (by omega))
  refine g_iload_n d11_run_39 rfl ?_
  refine g_iconstv (nI 1) d11_run_40 rfl ?_
  refine g_ic_lt _ (1) 62 (rfl) (by decide) d11_run_41 rfl (fun c41 => absurd c41 (by omega)) (fun _ => ?_)
  refine g_iload_n d11_run_44 rfl ?_
  refine g_bipushv (nI 12) d11_run_45 rfl ?_
  refine g_ic_gt _ (12) 62 (rfl) (by decide) d11_run_47 rfl (fun c47 => absurd c47 (by omega)) (fun _ => ?_)
  refine g_iload d11_run_50 rfl ?_
  refine g_iz_lt _ 62 (rfl) d11_run_52 rfl (fun c52 => absurd c52 (by omega)) (fun _ => ?_)
  refine g_iload d11_run_55 rfl ?_
  refine g_bipushv (nI 12) d11_run_57 rfl ?_
  refine g_ic_le _ (12) 64 (rfl) (by decide) d11_run_59 rfl (fun c59 => absurd c59 (by omega)) (fun _ => ?_)
  refine g_iconstv ((-1 : Int32)) d11_run_62 rfl ?_
  exact g_iret rfl d11_run_63 (⟨rfl, rfl⟩)
set_option maxHeartbeats 400000 in
theorem r11_run_ok {l : Launch} {K : cK} {d : Nat} {I : wI} {L : wL} {R : wR} {dy : cH} (g : Nat → Int32) (hg : g 9 = I 3 3 ∧ g 13 = I 3 7) (s0 : Nat) (h34 : I 3 4 = nI s0) (hs1 : 1 ≤ s0) (hs2 : s0 ≤ 12) (o : Option Nat) (lc : Option (List Cl)) (hO : CLF I R dy (I 1 5) o lc) (c fr ti se fl coin per fine : Nat) (hC : CC1 I c fr ti se fl) (hT : CT I coin per fine) (n : Nat) (hn : I 1 0 = nI n) (hn6 : n ≤ 6) (hcn : c < n) (hc1 : 1 ≤ coin) (s k q : Nat) (hf1 : fr ≤ s) (hf2 : s ≤ ti) (hk1 : 1 ≤ k) (hk2 : k ≤ 12) (hq : q ≤ 12) (hd : 7 ≤ d) : CX l K m11_run d [.ref 0, .int (nI c), .int (nI s), .int (nI k), .int (nI q)] (hp I L R dy) (α := wI × wL) (fun x => FK [22, 23, 25, 26, 28, 30, 31, 36, 39, 40, 41, 51, 52] [22, 24, 27, 30, 32, 33, 34, 35, 37, 38, 39, 42, 43, 51, 53, 54] I L x.1 x.2) (fun _ => .int (nI (rB2 coin per fr ti fl false (cmR g (I 3 5) (lfO lc)) (fnR g (I 3 5) (lfO lc) c fr fine) (sbR g (I 3 5) (lfO lc) c fr) (ti - s) k q))) (fun x => hp x.1 x.2 (uR R 21 1 o) dy) := by
  obtain ⟨a0, a1, a2, a3, a4, a5, a6, a7, a8⟩ := id hC
  have eB : rB2 coin per fr ti fl false (cmR g (I 3 5) (lfO lc)) (fnK (cmR g (I 3 5) (lfO lc)) (fnR g (I 3 5) (lfO lc) c fr fine)) nSb (ti - s) k q = rB2 coin per fr ti fl false (cmR g (I 3 5) (lfO lc)) (fnR g (I 3 5) (lfO lc) c fr fine) (sbR g (I 3 5) (lfO lc) c fr) (ti - s) k q := rB_K coin per fr ti fl false (cmR g (I 3 5) (lfO lc)) (fnR g (I 3 5) (lfO lc) c fr fine) (sbR g (I 3 5) (lfO lc) c fr) hT.2.2.2.1 sb_fn (ti - s) k q
  refine CC.of ok11_run (Nat.le_of_ble_eq_true rfl) ?_
  refine g_aload_n d11_run_0 rfl ?_
  refine g_get fl11_10 d11_run_1 f_0_0 ?_
  refine g_iload_n d11_run_4 rfl ?_
  refine g_EV1 vm6_hasCar ml11_125 c_1 (r6_hasCarI (xi := ((c : Nat) : Int)) n (by exact hn) hn6 (nI_ti (by omega)) (Nat.le_refl 0)) (by omega) (Nat.le_of_ble_eq_true rfl) d11_run_5 ?_
  refine g_bz 37 d11_run_8 rfl (fun c8 => absurd (by omega) c8) (fun _ => ?_)
  refine g_iload_n d11_run_11 rfl ?_
  refine g_aload_n d11_run_12 rfl ?_
  refine g_get fl11_10 d11_run_13 f_0_0 ?_
  refine g_iload_n d11_run_16 rfl ?_
  refine g_iconstv (nI 0) d11_run_17 rfl ?_
  refine g_EV2 vm6_factOf ml11_129 c_1 (r6_factOf (c) (0) (by omega) (by omega) (Nat.le_refl 0)) (by omega) (Nat.le_of_ble_eq_true rfl) d11_run_18 ?_
  refine g_topI (nI (fr)) (a1) ?_
  refine g_ic_lt ((s : Nat) : Int) ((fr : Nat) : Int) 37 (nI_ti (by omega)) (nI_ti (by omega)) d11_run_21 rfl (fun c21 => absurd c21 (by omega)) (fun _ => ?_)
  refine g_iload_n d11_run_24 rfl ?_
  refine g_aload_n d11_run_25 rfl ?_
  refine g_get fl11_10 d11_run_26 f_0_0 ?_
  refine g_iload_n d11_run_29 rfl ?_
  refine g_iconstv (nI 1) d11_run_30 rfl ?_
  refine g_EV2 vm6_factOf ml11_129 c_1 (r6_factOf (c) (1) (by omega) (by omega) (Nat.le_refl 0)) (by omega) (Nat.le_of_ble_eq_true rfl) d11_run_31 ?_
  refine g_topI (nI (ti)) (a2) ?_
  refine g_ic_le ((s : Nat) : Int) ((ti : Nat) : Int) 39 (nI_ti (by omega)) (nI_ti (by omega)) d11_run_34 rfl (fun _ => ?_) (fun c34 => absurd c34 (by omega))
  refine g_iload_n d11_run_39 rfl ?_
  refine g_iconstv (nI 1) d11_run_40 rfl ?_
  refine g_ic_lt ((k : Nat) : Int) (1) 62 (nI_ti (by omega)) (by decide) d11_run_41 rfl (fun c41 => absurd c41 (by omega)) (fun _ => ?_)
  refine g_iload_n d11_run_44 rfl ?_
  refine g_bipushv (nI 12) d11_run_45 rfl ?_
  refine g_ic_gt ((k : Nat) : Int) (12) 62 (nI_ti (by omega)) (by decide) d11_run_47 rfl (fun c47 => absurd c47 (by omega)) (fun _ => ?_)
  refine g_iload d11_run_50 rfl ?_
  refine g_iz_lt ((q : Nat) : Int) 62 (nI_ti (by omega)) d11_run_52 rfl (fun c52 => absurd c52 (by omega)) (fun _ => ?_)
  refine g_iload d11_run_55 rfl ?_
  refine g_bipushv (nI 12) d11_run_57 rfl ?_
  refine g_ic_le ((q : Nat) : Int) (12) 64 (nI_ti (by omega)) (by decide) d11_run_59 rfl (fun _ => ?_) (fun c59 => absurd c59 (by omega))
  refine g_aload_n d11_run_64 rfl ?_
  refine g_iload_n d11_run_65 rfl ?_
  refine g_WV1 vm11_lookAt ml11_218 c_0 (r11_lookAt g hg s0 h34 hs1 hs2 o lc hO c fr ti se fl coin per fine hC hT (Nat.le_refl 6)) (by omega) (Nat.le_of_ble_eq_true rfl) d11_run_66 (fun x hx => ?_)
  obtain ⟨I2, L2⟩ := x
  obtain ⟨f1, w1, p1, z1⟩ := hx
  dsimp only at f1 w1 p1 z1 ⊢
  obtain ⟨v0, v1, v2, v3, v4, v5, v6, v7, v8, v9, v10, v11, v12, v13, v14, v15⟩ := id z1
  refine g_aload_n d11_run_69 rfl ?_
  refine g_get fl11_66 d11_run_70 f_0_8 ?_
  refine g_iload_n d11_run_73 rfl ?_
  refine g_iload_n d11_run_74 rfl ?_
  refine g_iload d11_run_75 rfl ?_
  refine g_XV3 vm3_coinsByState ml11_245 c_39 (r3_coins (I := I2) (L := L2) g (I 3 5) w1 lc hO.lw c fr ti se fl coin per fine z1 (cmR g (I 3 5) (lfO lc)) (fnR g (I 3 5) (lfO lc) c fr fine) rfl rfl hT.2.2.2.1 hc1 s k q hf1 hf2 hk1 hk2 hq (Nat.le_refl 6)) (by omega) (Nat.le_of_ble_eq_true rfl) d11_run_77 (fun y hy => ?_)
  exact g_iret rfl d11_run_80 (⟨y, (f1.up (by decide) (by decide)).tr (hy.up (by decide) (by decide)), by rw [eB], rfl⟩)
