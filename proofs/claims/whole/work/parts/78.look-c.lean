/-- the law of that number, or none -/
def CLF (I : wI) (R : wR) (dy : cH) (x : Int32) (o : Option Nat) (lc : Option (List Cl)) : Prop := ∃ nl, I 1 3 = nI nl ∧ nl ≤ 6 ∧ ((o = none ∧ lc = none ∧ ¬ (0 ≤ x.toInt ∧ x.toInt < nl)) ∨ ∃ a T cs, a < nl ∧ x = nI a ∧ o = some T ∧ R 4 a = some T ∧ lc = some cs ∧ CTX dy T cs ∧ SPR cs)
theorem CLF.lw {I : wI} {R : wR} {dy : cH} {x : Int32} {o : Option Nat} {lc : Option (List Cl)} (h : CLF I R dy x o lc) : LWc dy (uR R 21 1 o 21 1) lc := by
  have e : uR R 21 1 o 21 1 = o := by rw [uR_at, if_pos ⟨rfl, rfl⟩]
  rw [e]
  obtain ⟨nl, h1, h2, ⟨a, b, c⟩ | ⟨a, T, cs, h3, h4, h5, h6, h7, h8, h9⟩⟩ := h
  · exact Or.inl ⟨a, b⟩
  · exact Or.inr ⟨T, cs, h5, h7, h8, h9⟩
def sv (I : wI) (wa : Int32) : wI := uI (uI (uI I 23 2 (I 3 3)) 23 3 wa) 23 6 (I 3 7)
theorem sv_ww {I : wI} {g : Nat → Int32} {wa : Int32} (hg : g 9 = I 3 3 ∧ g 13 = I 3 7) : WW (sv I wa) g wa := by
  unfold sv
  refine ⟨?_, ?_, ?_⟩
  · rw [uI_sn (by decide), uI_sn (by decide), uI_ss, hg.1]
  · rw [uI_sn (by decide), uI_ss]
  · rw [uI_ss, hg.2]
theorem sv_fk {I : wI} {L : wL} {wa : Int32} {ci cl : List Nat} (h : 23 ∈ ci) : FK ci cl I L (sv I wa) L := ((FK.rf.ui h).ui h).ui h
theorem td_mf {cm : Nat → Nat → Nat} {s0 : Nat} {g : Nat → Int32} {wa : Int32} {lc : Option (List Cl)} {c fr f : Nat} (hf : f ≤ 99) : (fun s => tdv (cpv cm s0) (sbR g wa (lfO lc) c fr) (fun s k => fiO lc (ceR g wa c fr s k)) s 12 + tav (cpv cm s0) (sbR g wa (lfO lc) c fr) (fun s k => fiO lc (ceR g wa c fr s k)) s 12 * f) = fun s => mfv cm s0 (fnR g wa (lfO lc) c fr f) s 12 := by
  funext s
  rw [td_ta]
  unfold mfv
  refine sm_cg _ _ 12 (fun k _ _ => ?_)
  unfold cpv fnR
  rw [fiO_F hf]; rfl
theorem r10_serve {l : Launch} {K : cK} {d : Nat} {I : wI} {L : wL} {R : wR} {dy : cH} (x : Int32) (o : Option Nat) (lc : Option (List Cl)) (hO : CLF I R dy x o lc) (wa : Int32) (hd : 1 ≤ d) : CV l K m10_serve d [.ref 21, .ref 1, .int x, .int wa] (hp I L R dy) (hp (sv I wa) L (uR R 21 1 o) dy) := by
  obtain ⟨nl, h1, h2, ⟨rfl, b, c⟩ | ⟨a, T, cs, h3, rfl, rfl, h6, h7, h8, h9⟩⟩ := hO
  · exact r10_serve0 nl x h1 h2 c wa hd
  · exact r10_serve1 nl a h1 h2 h3 T h6 wa hd
theorem fre_m {I : wI} : ∀ s, s < 12 → cI I 25 (fil (I 25) (-1) 12) 25 s = mI (fr2 s) ∧ fr2 s ≤ 2 := fun s hs => ⟨by rw [cI_s]; exact if_pos hs, Nat.le_refl _⟩
set_option maxHeartbeats 200000 in
theorem r11_look0 {l : Launch} {K : cK} {d : Nat} {I : wI} {L : wL} {R : wR} {dy : cH} (g : Nat → Int32) (hg : g 9 = I 3 3 ∧ g 13 = I 3 7) (s0 : Nat) (h34 : I 3 4 = nI s0) (hs1 : 1 ≤ s0) (hs2 : s0 ≤ 12) (o : Option Nat) (lc : Option (List Cl)) (hO : CLF I R dy (I 1 5) o lc) (hd : 5 ≤ d) : CW l K m11_lookFromSlotZero d [.ref 0] (hp I L R dy) (α := wI × wL) (fun x => FK [22, 23, 25, 26] [22, 24, 27] I L x.1 x.2 ∧ WW x.1 g (I 3 5) ∧ SPD x.1 x.2 fr2 (cmR g (I 3 5) (lfO lc)) s0) (fun x => hp x.1 x.2 (uR R 21 1 o) dy) := by
  refine CC.of ok11_lookFromSlotZero (Nat.le_of_ble_eq_true rfl) ?_
  refine g_aload_n d11_lookFromSlotZero_0 rfl ?_
  refine g_get fl11_43 d11_lookFromSlotZero_1 f_0_5 ?_
  refine g_aload_n d11_lookFromSlotZero_4 rfl ?_
  refine g_get fl11_10 d11_lookFromSlotZero_5 f_0_0 ?_
  refine g_aload_n d11_lookFromSlotZero_8 rfl ?_
  refine g_get fl11_10 d11_lookFromSlotZero_9 f_0_0 ?_
  refine g_get fl11_178 d11_lookFromSlotZero_12 f_1_5 ?_
  refine g_aload_n d11_lookFromSlotZero_15 rfl ?_
  refine g_get fl11_10 d11_lookFromSlotZero_16 f_0_0 ?_
  refine g_get fl11_142 d11_lookFromSlotZero_19 f_1_2 ?_
  refine g_iconstv (nI 5) d11_lookFromSlotZero_22 rfl ?_
  refine g_ialdN (5) d11_lookFromSlotZero_23 a_3 (rfl) (by omega) (by decide) ?_
  refine g_VV3 vm10_serve ml11_184 c_21 (r10_serve (I 1 5) o lc hO (I 3 5) (Nat.le_refl 1)) (by omega) (Nat.le_of_ble_eq_true rfl) d11_lookFromSlotZero_24 ?_
  refine g_aload_n d11_lookFromSlotZero_27 rfl ?_
  refine g_get fl11_43 d11_lookFromSlotZero_28 f_0_5 ?_
  refine g_VV0 vm10_freeSlots ml11_208 c_21 (r10_free (Nat.le_refl 1)) (by omega) (Nat.le_of_ble_eq_true rfl) d11_lookFromSlotZero_31 ?_
  refine g_aload_n d11_lookFromSlotZero_34 rfl ?_
  refine g_get fl11_43 d11_lookFromSlotZero_35 f_0_5 ?_
  refine g_aload_n d11_lookFromSlotZero_38 rfl ?_
  refine g_get fl11_10 d11_lookFromSlotZero_39 f_0_0 ?_
  refine g_get fl11_142 d11_lookFromSlotZero_42 f_1_2 ?_
  refine g_iconstv (nI 4) d11_lookFromSlotZero_45 rfl ?_
  refine g_ialdN (4) d11_lookFromSlotZero_46 a_3 (rfl) (by omega) (by decide) ?_
  refine g_topI (nI (s0)) (h34) ?_
  refine g_XV1 vm10_spread ml11_214 c_21 (r10_spread (I := cI (sv I (I 3 5)) 25 (fil (sv I (I 3 5) 25) (-1) 12)) (L := L) g (I 3 5) ((sv_ww hg).of (cI_n (by decide))) lc hO.lw fr2 fre_m s0 hs1 hs2 (Nat.le_refl 4)) (by omega) (Nat.le_of_ble_eq_true rfl) d11_lookFromSlotZero_47 (fun x hx => ?_)
  obtain ⟨f1, w1, p1⟩ := hx
  refine g_pop2L d11_lookFromSlotZero_50 rfl ?_
  exact g_vret rfl d11_lookFromSlotZero_51 (⟨x, ⟨((sv_fk (by decide)).ci (by decide)).tr (f1.up (by decide) (by decide)), w1, p1⟩, rfl, rfl⟩)
set_option maxHeartbeats 200000 in
theorem r11_lookAt {l : Launch} {K : cK} {d : Nat} {I : wI} {L : wL} {R : wR} {dy : cH} (g : Nat → Int32) (hg : g 9 = I 3 3 ∧ g 13 = I 3 7) (s0 : Nat) (h34 : I 3 4 = nI s0) (hs1 : 1 ≤ s0) (hs2 : s0 ≤ 12) (o : Option Nat) (lc : Option (List Cl)) (hO : CLF I R dy (I 1 5) o lc) (c fr ti se fl coin per fine : Nat) (hC : CC1 I c fr ti se fl) (hT : CT I coin per fine) (hd : 6 ≤ d) : CW l K m11_lookAt d [.ref 0, .int (nI c)] (hp I L R dy) (α := wI × wL) (fun x => FK [22, 23, 25, 26, 28] [22, 24, 27] I L x.1 x.2 ∧ WW x.1 g (I 3 5) ∧ SPD x.1 x.2 fr2 (cmR g (I 3 5) (lfO lc)) s0 ∧ STA x.1 c fr ti se fl coin per fine) (fun x => hp x.1 x.2 (uR R 21 1 o) dy) := by
  refine CC.of ok11_lookAt (Nat.le_of_ble_eq_true rfl) ?_
  refine g_aload_n d11_lookAt_0 rfl ?_
  refine g_WV0 vm11_lookFromSlotZero ml11_310 c_0 (r11_look0 g hg s0 h34 hs1 hs2 o lc hO (Nat.le_refl 5)) (by omega) (Nat.le_of_ble_eq_true rfl) d11_lookAt_1 (fun x hx => ?_)
  obtain ⟨I2, L2⟩ := x
  obtain ⟨f1, w1, p1⟩ := hx
  dsimp only at f1 w1 p1 ⊢
  have hC2 : CC1 I2 c fr ti se fl := hC.of (f1.1 2 (by decide))
  have hT2 : CT I2 coin per fine := hT.of (f1.1 3 (by decide))
  refine g_aload_n d11_lookAt_4 rfl ?_
  refine g_get fl11_50 d11_lookAt_5 f_0_6 ?_
  refine g_aload_n d11_lookAt_8 rfl ?_
  refine g_get fl11_10 d11_lookAt_9 f_0_0 ?_
  refine g_iload_n d11_lookAt_12 rfl ?_
  refine g_VV2 vm7_take ml11_191 c_28 (r7_take0 (I := I2) c hC.1 (Nat.le_refl 1)) (by omega) (Nat.le_of_ble_eq_true rfl) d11_lookAt_13 ?_
  exact g_vret rfl d11_lookAt_16 (⟨(stI8 I2 c, L2), ⟨(f1.up (by decide) (by decide)).tr (stI8_fk (by decide)), w1.of (stI8_n (I := I2) (c := c) (k := 23) (by decide)), p1.of (stI8_n (I := I2) (c := c) (k := 26) (by decide)) rfl, stI8_st hC2 hT2⟩, rfl, rfl⟩)
set_option maxHeartbeats 200000 in
theorem r11_cost_n1 {l : Launch} {K : cK} {d : Nat} {I : wI} {L : wL} {R : wR} {dy : cH} (n : Nat) (hn : I 1 0 = nI n) (hn6 : n ≤ 6) (x w : Int32) (hbad : ¬ (0 ≤ x.toInt ∧ x.toInt < n)) (hd : 1 ≤ d) : CE l K m11_cost d [.ref 0, .int x, .int w] (hp I L R dy) (.long (-1)) (hp I L R dy) := by
  refine CC.of ok11_cost (Nat.le_of_ble_eq_true rfl) ?_
  refine g_aload_n d11_cost_0 rfl ?_
  refine g_get fl11_10 d11_cost_1 f_0_0 ?_
  refine g_iload_n d11_cost_4 rfl ?_
  refine g_EV1 vm6_hasCar ml11_125 c_1 (r6_hasCarI  n (by exact hn) hn6 (rfl) (Nat.le_refl 0)) (by omega) (Nat.le_of_ble_eq_true rfl) d11_cost_5 ?_
  refine g_bz 21 d11_cost_8 rfl (fun _ => ?_) (fun c8 => absurd c8 (by omega))
  refine g_ldc2 d11_cost_21 kl11_206 ?_
  exact g_lret rfl d11_cost_24 (⟨rfl, rfl⟩)
set_option maxHeartbeats 200000 in
theorem r11_cost_n2 {l : Launch} {K : cK} {d : Nat} {I : wI} {L : wL} {R : wR} {dy : cH} (n : Nat) (hn : I 1 0 = nI n) (hn6 : n ≤ 6) (c : Nat) (hc : c < n) (w : Int32) (hbad : ¬ (0 ≤ w.toInt ∧ w.toInt ≤ 12)) (hd : 1 ≤ d) : CE l K m11_cost d [.ref 0, .int (nI c), .int w] (hp I L R dy) (.long (-1)) (hp I L R dy) := by
  refine CC.of ok11_cost (Nat.le_of_ble_eq_true rfl) ?_
  by_cases h0 : w.toInt < 0
  · skip
    refine g_aload_n d11_cost_0 rfl ?_
    refine g_get fl11_10 d11_cost_1 f_0_0 ?_
    refine g_iload_n d11_cost_4 rfl ?_
    refine g_EV1 vm6_hasCar ml11_125 c_1 (r6_hasCarI (xi := ((c : Nat) : Int)) n (by exact hn) hn6 (nI_ti (by omega)) (Nat.le_refl 0)) (by omega) (Nat.le_of_ble_eq_true rfl) d11_cost_5 ?_
    refine g_bz 21 d11_cost_8 rfl (fun c8 => absurd (by omega) c8) (fun _ => ?_)
    refine g_iload_n d11_cost_11 rfl ?_
    refine g_iz_lt _ 21 (rfl) d11_cost_12 rfl (fun _ => ?_) (fun c12 => absurd c12 (by omega))
    refine g_ldc2 d11_cost_21 kl11_206 ?_
    exact g_lret rfl d11_cost_24 (⟨rfl, rfl⟩)
  · skip
    refine g_aload_n d11_cost_0 rfl ?_
    refine g_get fl11_10 d11_cost_1 f_0_0 ?_
    refine g_iload_n d11_cost_4 rfl ?_
    refine g_EV1 vm6_hasCar ml11_125 c_1 (r6_hasCarI (xi := ((c : Nat) : Int)) n (by exact hn) hn6 (nI_ti (by omega)) (Nat.le_refl 0)) (by omega) (Nat.le_of_ble_eq_true rfl) d11_cost_5 ?_
    refine g_bz 21 d11_cost_8 rfl (fun c8 => absurd (by omega) c8) (fun _ => ?_)
    refine g_iload_n d11_cost_11 rfl ?_
    refine g_iz_lt _ 21 (rfl) d11_cost_12 rfl (fun c12 => absurd c12 (by omega)) (fun _ => ?_)
    refine g_iload_n d11_cost_15 rfl ?_
    refine g_bipushv (nI 12) d11_cost_16 rfl ?_
    refine g_ic_le _ (12) 25 (rfl) (by decide) d11_cost_18 rfl (fun c18 => absurd c18 (by omega)) (fun _ => ?_)
    refine g_ldc2 d11_cost_21 kl11_206 ?_
    exact g_lret rfl d11_cost_24 (⟨rfl, rfl⟩)
set_option maxHeartbeats 400000 in
theorem r11_cost_ok {l : Launch} {K : cK} {d : Nat} {I : wI} {L : wL} {R : wR} {dy : cH} (g : Nat → Int32) (hg : g 9 = I 3 3 ∧ g 13 = I 3 7) (s0 : Nat) (h34 : I 3 4 = nI s0) (hs1 : 1 ≤ s0) (hs2 : s0 ≤ 12) (o : Option Nat) (lc : Option (List Cl)) (hO : CLF I R dy (I 1 5) o lc) (c fr ti se fl coin per fine : Nat) (hC : CC1 I c fr ti se fl) (hT : CT I coin per fine) (n : Nat) (hn : I 1 0 = nI n) (hn6 : n ≤ 6) (hcn : c < n) (m : Nat) (hm : m ≤ 12) (hd : 7 ≤ d) : CX l K m11_cost d [.ref 0, .int (nI c), .int (nI m)] (hp I L R dy) (α := wI × wL) (fun x => FK [22, 23, 25, 26, 28, 30, 31, 36, 39, 40, 41, 51, 52] [22, 24, 27, 30, 32, 33, 34, 35, 37, 38, 39, 42, 43, 51, 53, 54] I L x.1 x.2) (fun _ => .long (lN (co1 coin per fr ti (fun s => mfv (cmR g (I 3 5) (lfO lc)) s0 (fnR g (I 3 5) (lfO lc) c fr fine) s 12) m))) (fun x => hp x.1 x.2 (uR R 21 1 o) dy) := by
  refine CC.of ok11_cost (Nat.le_of_ble_eq_true rfl) ?_
  refine g_aload_n d11_cost_0 rfl ?_
  refine g_get fl11_10 d11_cost_1 f_0_0 ?_
  refine g_iload_n d11_cost_4 rfl ?_
  refine g_EV1 vm6_hasCar ml11_125 c_1 (r6_hasCarI (xi := ((c : Nat) : Int)) n (by exact hn) hn6 (nI_ti (by omega)) (Nat.le_refl 0)) (by omega) (Nat.le_of_ble_eq_true rfl) d11_cost_5 ?_
  refine g_bz 21 d11_cost_8 rfl (fun c8 => absurd (by omega) c8) (fun _ => ?_)
  refine g_iload_n d11_cost_11 rfl ?_
  refine g_iz_lt ((m : Nat) : Int) 21 (nI_ti (by omega)) d11_cost_12 rfl (fun c12 => absurd c12 (by omega)) (fun _ => ?_)
  refine g_iload_n d11_cost_15 rfl ?_
  refine g_bipushv (nI 12) d11_cost_16 rfl ?_
  refine g_ic_le ((m : Nat) : Int) (12) 25 (nI_ti (by omega)) (by decide) d11_cost_18 rfl (fun _ => ?_) (fun c18 => absurd c18 (by omega))
  refine g_aload_n d11_cost_25 rfl ?_
  refine g_iload_n d11_cost_26 rfl ?_
  refine g_WV1 vm11_lookAt ml11_218 c_0 (r11_lookAt g hg s0 h34 hs1 hs2 o lc hO c fr ti se fl coin per fine hC hT (Nat.le_refl 6)) (by omega) (Nat.le_of_ble_eq_true rfl) d11_cost_27 (fun x hx => ?_)
  obtain ⟨I2, L2⟩ := x
  obtain ⟨f1, w1, p1, z1⟩ := hx
  dsimp only at f1 w1 p1 z1 ⊢
  obtain ⟨v0, v1, v2, v3, v4, v5, v6, v7, v8, v9, v10, v11, v12, v13, v14, v15⟩ := id z1
  refine g_aload_n d11_cost_30 rfl ?_
  refine g_get fl11_59 d11_cost_31 f_0_7 ?_
  refine g_WV0 vm0_reckonFines ml11_221 c_29 (r0_fines (I := I2) (L := L2) g (I 3 5) w1 lc hO.lw s0 (cmR g (I 3 5) (lfO lc)) rfl c fr ti se fl coin per fine z1 p1 (Nat.le_refl 4)) (by omega) (Nat.le_of_ble_eq_true rfl) d11_cost_34 (fun y hy => ?_)
  obtain ⟨I3, L3⟩ := y
  obtain ⟨⟨f2, w2, z2, p2⟩, t2⟩ := hy
  dsimp only at f2 w2 z2 p2 t2 ⊢
  have F2 : FK [22, 23, 25, 26, 28, 30, 31, 36, 39, 40, 41, 51, 52] [22, 24, 27, 30, 32, 33, 34, 35, 37, 38, 39, 42, 43, 51, 53, 54] I L I3 L3 := (f1.up (by decide) (by decide)).tr (f2.up (by decide) (by decide))
  refine g_aload_n d11_cost_37 rfl ?_
  refine g_get fl11_59 d11_cost_38 f_0_7 ?_
  refine g_iload_n d11_cost_41 rfl ?_
  refine g_aload_n d11_cost_42 rfl ?_
  refine g_get fl11_50 d11_cost_43 f_0_6 ?_
  refine g_get fl11_199 d11_cost_46 f_28_7 ?_
  refine g_topI (nI (fine)) (z2.2.2.2.2.2.2.2.1) ?_
  refine g_EV2 vm0_firstCost ml11_224 c_29 (r0_first (I := I3) (L := L3) (fun s => tdv (cpv (cmR g (I 3 5) (lfO lc)) s0) (sbR g (I 3 5) (lfO lc) c fr) (fun s k => fiO lc (ceR g (I 3 5) c fr s k)) s 12) (fun s => tav (cpv (cmR g (I 3 5) (lfO lc)) s0) (sbR g (I 3 5) (lfO lc) c fr) (fun s k => fiO lc (ceR g (I 3 5) c fr s k)) s 12) c fr ti se fl coin per fine z2 t2 fine v15 m hm (Nat.le_refl 2)) (by omega) (Nat.le_of_ble_eq_true rfl) d11_cost_49 ?_
  exact g_lret rfl d11_cost_52 (⟨(I3, L3), F2, by rw [td_mf v15], rfl⟩)
set_option maxHeartbeats 200000 in
theorem r11_coins_n1 {l : Launch} {K : cK} {d : Nat} {I : wI} {L : wL} {R : wR} {dy : cH} (n : Nat) (hn : I 1 0 = nI n) (hn6 : n ≤ 6) (x w : Int32) (hbad : ¬ (0 ≤ x.toInt ∧ x.toInt < n)) (hd : 1 ≤ d) : CE l K m11_coins d [.ref 0, .int x, .int w] (hp I L R dy) (.int (-1)) (hp I L R dy) := by
  refine CC.of ok11_coins (Nat.le_of_ble_eq_true rfl) ?_
  refine g_aload_n d11_coins_0 rfl ?_
  refine g_get fl11_10 d11_coins_1 f_0_0 ?_
  refine g_iload_n d11_coins_4 rfl ?_
  refine g_EV1 vm6_hasCar ml11_125 c_1 (r6_hasCarI  n (by exact hn) hn6 (rfl) (Nat.le_refl 0)) (by omega) (Nat.le_of_ble_eq_true rfl) d11_coins_5 ?_
  refine g_bz 20 d11_coins_8 rfl (fun _ => ?_) (fun c8 => absurd c8 (by omega))
  refine g_iconstv ((-1 : Int32)) d11_coins_20 rfl ?_
  exact g_iret rfl d11_coins_21 (⟨rfl, rfl⟩)
set_option maxHeartbeats 200000 in
theorem r11_coins_n2 {l : Launch} {K : cK} {d : Nat} {I : wI} {L : wL} {R : wR} {dy : cH} (n : Nat) (hn : I 1 0 = nI n) (hn6 : n ≤ 6) (c : Nat) (hc : c < n) (w : Int32) (hbad : ¬ (0 ≤ w.toInt ∧ w.toInt ≤ 1)) (hd : 1 ≤ d) : CE l K m11_coins d [.ref 0, .int (nI c), .int w] (hp I L R dy) (.int (-1)) (hp I L R dy) := by
  refine CC.of ok11_coins (Nat.le_of_ble_eq_true rfl) ?_
  by_cases h0 : w.toInt < 0
  · skip
    refine g_aload_n d11_coins_0 rfl ?_
    refine g_get fl11_10 d11_coins_1 f_0_0 ?_
    refine g_iload_n d11_coins_4 rfl ?_
    refine g_EV1 vm6_hasCar ml11_125 c_1 (r6_hasCarI (xi := ((c : Nat) : Int)) n (by exact hn) hn6 (nI_ti (by omega)) (Nat.le_refl 0)) (by omega) (Nat.le_of_ble_eq_true rfl) d11_coins_5 ?_
    refine g_bz 20 d11_coins_8 rfl (fun c8 => absurd (by omega) c8) (fun _ => ?_)
    refine g_iload_n d11_coins_11 rfl ?_
    refine g_iz_lt _ 20 (rfl) d11_coins_12 rfl (fun _ => ?_) (fun c12 => absurd c12 (by omega))
    refine g_iconstv ((-1 : Int32)) d11_coins_20 rfl ?_
    exact g_iret rfl d11_coins_21 (⟨rfl, rfl⟩)
  · skip
    refine g_aload_n d11_coins_0 rfl ?_
    refine g_get fl11_10 d11_coins_1 f_0_0 ?_
    refine g_iload_n d11_coins_4 rfl ?_
    refine g_EV1 vm6_hasCar ml11_125 c_1 (r6_hasCarI (xi := ((c : Nat) : Int)) n (by exact hn) hn6 (nI_ti (by omega)) (Nat.le_refl 0)) (by omega) (Nat.le_of_ble_eq_true rfl) d11_coins_5 ?_
    refine g_bz 20 d11_coins_8 rfl (fun c8 => absurd (by omega) c8) (fun _ => ?_)
    refine g_iload_n d11_coins_11 rfl ?_
    refine g_iz_lt _ 20 (rfl) d11_coins_12 rfl (fun c12 => absurd c12 (by omega)) (fun _ => ?_)
    refine g_iload_n d11_coins_15 rfl ?_
    refine g_iconstv (nI 1) d11_coins_16 rfl ?_
    refine g_ic_le _ (1) 22 (rfl) (by decide) d11_coins_17 rfl (fun c17 => absurd c17 (by omega)) (fun _ => ?_)
    refine g_iconstv ((-1 : Int32)) d11_coins_20 rfl ?_
    exact g_iret rfl d11_coins_21 (⟨rfl, rfl⟩)
set_option maxHeartbeats 400000 in
theorem r11_coins_0 {l : Launch} {K : cK} {d : Nat} {I : wI} {L : wL} {R : wR} {dy : cH} (g : Nat → Int32) (hg : g 9 = I 3 3 ∧ g 13 = I 3 7) (s0 : Nat) (h34 : I 3 4 = nI s0) (hs1 : 1 ≤ s0) (hs2 : s0 ≤ 12) (o : Option Nat) (lc : Option (List Cl)) (hO : CLF I R dy (I 1 5) o lc) (c fr ti se fl coin per fine : Nat) (hC : CC1 I c fr ti se fl) (hT : CT I coin per fine) (n : Nat) (hn : I 1 0 = nI n) (hn6 : n ≤ 6) (hcn : c < n) (hd : 7 ≤ d) : CX l K m11_coins d [.ref 0, .int (nI c), .int (nI 0)] (hp I L R dy) (α := wI × wL) (fun x => FK [22, 23, 25, 26, 28, 30, 31, 36, 39, 40, 41, 51, 52] [22, 24, 27, 30, 32, 33, 34, 35, 37, 38, 39, 42, 43, 51, 53, 54] I L x.1 x.2) (fun _ => .int (nI (fa (co1 coin per fr ti (fun s => mfv (cmR g (I 3 5) (lfO lc)) s0 (fnR g (I 3 5) (lfO lc) c fr fine) s 12)) 12).2.1)) (fun x => hp x.1 x.2 (uR R 21 1 o) dy) := by
  have hMl : ∀ s, (fun s => mfv (cmR g (I 3 5) (lfO lc)) s0 (fnR g (I 3 5) (lfO lc) c fr fine) s 12) s ≤ 99000000000000 := fun s => mfv_le _ s0 _ (cmR_le _ _ _) (fun a b => fnR_le _ _ _ _ _ a b hT.2.2.2.2.2.2) s
  have hbig : ∀ n, n ≤ 12 → co1 coin per fr ti (fun s => (fun s => tdv (cpv (cmR g (I 3 5) (lfO lc)) s0) (sbR g (I 3 5) (lfO lc) c fr) (fun s k => fiO lc (ceR g (I 3 5) c fr s k)) s 12) s + (fun s => tav (cpv (cmR g (I 3 5) (lfO lc)) s0) (sbR g (I 3 5) (lfO lc) c fr) (fun s k => fiO lc (ceR g (I 3 5) c fr s k)) s 12) s * fine) n < 4000000000000000000 := fun n h => by
    rw [td_mf hT.2.2.2.2.2.2]
    have := co1_le coin per fr ti hT.2.1 hC.2.2.2.2.2.2.1 _ hMl h
    omega
  refine CC.of ok11_coins (Nat.le_of_ble_eq_true rfl) ?_
  refine g_aload_n d11_coins_0 rfl ?_
  refine g_get fl11_10 d11_coins_1 f_0_0 ?_
  refine g_iload_n d11_coins_4 rfl ?_
  refine g_EV1 vm6_hasCar ml11_125 c_1 (r6_hasCarI (xi := ((c : Nat) : Int)) n (by exact hn) hn6 (nI_ti (by omega)) (Nat.le_refl 0)) (by omega) (Nat.le_of_ble_eq_true rfl) d11_coins_5 ?_
  refine g_bz 20 d11_coins_8 rfl (fun c8 => absurd (by omega) c8) (fun _ => ?_)
  refine g_iload_n d11_coins_11 rfl ?_
  refine g_iz_lt (0) 20 (by decide) d11_coins_12 rfl (fun c12 => absurd c12 (by decide)) (fun _ => ?_)
  refine g_iload_n d11_coins_15 rfl ?_
  refine g_iconstv (nI 1) d11_coins_16 rfl ?_
  refine g_ic_le (0) (1) 22 (by decide) (by decide) d11_coins_17 rfl (fun _ => ?_) (fun c17 => absurd c17 (by decide))
  refine g_aload_n d11_coins_22 rfl ?_
  refine g_iload_n d11_coins_23 rfl ?_
  refine g_WV1 vm11_lookAt ml11_218 c_0 (r11_lookAt g hg s0 h34 hs1 hs2 o lc hO c fr ti se fl coin per fine hC hT (Nat.le_refl 6)) (by omega) (Nat.le_of_ble_eq_true rfl) d11_coins_24 (fun x hx => ?_)
  obtain ⟨I2, L2⟩ := x
  obtain ⟨f1, w1, p1, z1⟩ := hx
  dsimp only at f1 w1 p1 z1 ⊢
  obtain ⟨v0, v1, v2, v3, v4, v5, v6, v7, v8, v9, v10, v11, v12, v13, v14, v15⟩ := id z1
  refine g_aload_n d11_coins_27 rfl ?_
  refine g_get fl11_59 d11_coins_28 f_0_7 ?_
  refine g_WV0 vm0_reckonFines ml11_221 c_29 (r0_fines (I := I2) (L := L2) g (I 3 5) w1 lc hO.lw s0 (cmR g (I 3 5) (lfO lc)) rfl c fr ti se fl coin per fine z1 p1 (Nat.le_refl 4)) (by omega) (Nat.le_of_ble_eq_true rfl) d11_coins_31 (fun y hy => ?_)
  obtain ⟨I3, L3⟩ := y
  obtain ⟨⟨f2, w2, z2, p2⟩, t2⟩ := hy
  dsimp only at f2 w2 z2 p2 t2 ⊢
  have F2 : FK [22, 23, 25, 26, 28, 30, 31, 36, 39, 40, 41, 51, 52] [22, 24, 27, 30, 32, 33, 34, 35, 37, 38, 39, 42, 43, 51, 53, 54] I L I3 L3 := (f1.up (by decide) (by decide)).tr (f2.up (by decide) (by decide))
  refine g_iload_n d11_coins_34 rfl ?_
  refine g_iz_ne (0) 55 (by decide) d11_coins_35 rfl (fun c35 => absurd c35 (by decide)) (fun _ => ?_)
  refine g_aload_n d11_coins_38 rfl ?_
  refine g_get fl11_59 d11_coins_39 f_0_7 ?_
  refine g_aload_n d11_coins_42 rfl ?_
  refine g_get fl11_50 d11_coins_43 f_0_6 ?_
  refine g_get fl11_199 d11_coins_46 f_28_7 ?_
  refine g_topI (nI (fine)) (z2.2.2.2.2.2.2.2.1) ?_
  refine g_EV1 vm0_bestFirst ml11_228 c_29 (r0_best (I := I3) (L := L3) (fun s => tdv (cpv (cmR g (I 3 5) (lfO lc)) s0) (sbR g (I 3 5) (lfO lc) c fr) (fun s k => fiO lc (ceR g (I 3 5) c fr s k)) s 12) (fun s => tav (cpv (cmR g (I 3 5) (lfO lc)) s0) (sbR g (I 3 5) (lfO lc) c fr) (fun s k => fiO lc (ceR g (I 3 5) c fr s k)) s 12) c fr ti se fl coin per fine z2 t2 fine v15 hbig (Nat.le_refl 3)) (by omega) (Nat.le_of_ble_eq_true rfl) d11_coins_49 ?_
  refine g_goto 69 d11_coins_52 rfl ?_
  exact g_iret rfl d11_coins_69 (⟨(I3, L3), F2, by rw [td_mf v15], rfl⟩)
set_option maxHeartbeats 400000 in
theorem r11_coins_1 {l : Launch} {K : cK} {d : Nat} {I : wI} {L : wL} {R : wR} {dy : cH} (g : Nat → Int32) (hg : g 9 = I 3 3 ∧ g 13 = I 3 7) (s0 : Nat) (h34 : I 3 4 = nI s0) (hs1 : 1 ≤ s0) (hs2 : s0 ≤ 12) (o : Option Nat) (lc : Option (List Cl)) (hO : CLF I R dy (I 1 5) o lc) (c fr ti se fl coin per fine : Nat) (hC : CC1 I c fr ti se fl) (hT : CT I coin per fine) (n : Nat) (hn : I 1 0 = nI n) (hn6 : n ≤ 6) (hcn : c < n) (hd : 7 ≤ d) : CX l K m11_coins d [.ref 0, .int (nI c), .int (nI 1)] (hp I L R dy) (α := wI × wL) (fun x => FK [22, 23, 25, 26, 28, 30, 31, 36, 39, 40, 41, 51, 52] [22, 24, 27, 30, 32, 33, 34, 35, 37, 38, 39, 42, 43, 51, 53, 54] I L x.1 x.2) (fun _ => .int (nI (fa (co1 coin per fr ti (fun s => mfv (cmR g (I 3 5) (lfO lc)) s0 (fnR g (I 3 5) (lfO lc) c fr fine) s 12)) 12).2.2)) (fun x => hp x.1 x.2 (uR R 21 1 o) dy) := by
  have hMl : ∀ s, (fun s => mfv (cmR g (I 3 5) (lfO lc)) s0 (fnR g (I 3 5) (lfO lc) c fr fine) s 12) s ≤ 99000000000000 := fun s => mfv_le _ s0 _ (cmR_le _ _ _) (fun a b => fnR_le _ _ _ _ _ a b hT.2.2.2.2.2.2) s
  have hbig : ∀ n, n ≤ 12 → co1 coin per fr ti (fun s => (fun s => tdv (cpv (cmR g (I 3 5) (lfO lc)) s0) (sbR g (I 3 5) (lfO lc) c fr) (fun s k => fiO lc (ceR g (I 3 5) c fr s k)) s 12) s + (fun s => tav (cpv (cmR g (I 3 5) (lfO lc)) s0) (sbR g (I 3 5) (lfO lc) c fr) (fun s k => fiO lc (ceR g (I 3 5) c fr s k)) s 12) s * fine) n < 4000000000000000000 := fun n h => by
    rw [td_mf hT.2.2.2.2.2.2]
    have := co1_le coin per fr ti hT.2.1 hC.2.2.2.2.2.2.1 _ hMl h
    omega
  refine CC.of ok11_coins (Nat.le_of_ble_eq_true rfl) ?_
  refine g_aload_n d11_coins_0 rfl ?_
  refine g_get fl11_10 d11_coins_1 f_0_0 ?_
  refine g_iload_n d11_coins_4 rfl ?_
  refine g_EV1 vm6_hasCar ml11_125 c_1 (r6_hasCarI (xi := ((c : Nat) : Int)) n (by exact hn) hn6 (nI_ti (by omega)) (Nat.le_refl 0)) (by omega) (Nat.le_of_ble_eq_true rfl) d11_coins_5 ?_
  refine g_bz 20 d11_coins_8 rfl (fun c8 => absurd (by omega) c8) (fun _ => ?_)
  refine g_iload_n d11_coins_11 rfl ?_
  refine g_iz_lt (1) 20 (by decide) d11_coins_12 rfl (fun c12 => absurd c12 (by decide)) (fun _ => ?_)
  refine g_iload_n d11_coins_15 rfl ?_
  refine g_iconstv (nI 1) d11_coins_16 rfl ?_
  refine g_ic_le (1) (1) 22 (by decide) (by decide) d11_coins_17 rfl (fun _ => ?_) (fun c17 => absurd c17 (by decide))
  refine g_aload_n d11_coins_22 rfl ?_
  refine g_iload_n d11_coins_23 rfl ?_
  refine g_WV1 vm11_lookAt ml11_218 c_0 (r11_lookAt g hg s0 h34 hs1 hs2 o lc hO c fr ti se fl coin per fine hC hT (Nat.le_refl 6)) (by omega) (Nat.le_of_ble_eq_true rfl) d11_coins_24 (fun x hx => ?_)
  obtain ⟨I2, L2⟩ := x
  obtain ⟨f1, w1, p1, z1⟩ := hx
  dsimp only at f1 w1 p1 z1 ⊢
  obtain ⟨v0, v1, v2, v3, v4, v5, v6, v7, v8, v9, v10, v11, v12, v13, v14, v15⟩ := id z1
  refine g_aload_n d11_coins_27 rfl ?_
  refine g_get fl11_59 d11_coins_28 f_0_7 ?_
  refine g_WV0 vm0_reckonFines ml11_221 c_29 (r0_fines (I := I2) (L := L2) g (I 3 5) w1 lc hO.lw s0 (cmR g (I 3 5) (lfO lc)) rfl c fr ti se fl coin per fine z1 p1 (Nat.le_refl 4)) (by omega) (Nat.le_of_ble_eq_true rfl) d11_coins_31 (fun y hy => ?_)
  obtain ⟨I3, L3⟩ := y
  obtain ⟨⟨f2, w2, z2, p2⟩, t2⟩ := hy
  dsimp only at f2 w2 z2 p2 t2 ⊢
  have F2 : FK [22, 23, 25, 26, 28, 30, 31, 36, 39, 40, 41, 51, 52] [22, 24, 27, 30, 32, 33, 34, 35, 37, 38, 39, 42, 43, 51, 53, 54] I L I3 L3 := (f1.up (by decide) (by decide)).tr (f2.up (by decide) (by decide))
  refine g_iload_n d11_coins_34 rfl ?_
  refine g_iz_ne (1) 55 (by decide) d11_coins_35 rfl (fun _ => ?_) (fun c35 => absurd c35 (by decide))
  refine g_aload_n d11_coins_55 rfl ?_
  refine g_get fl11_59 d11_coins_56 f_0_7 ?_
  refine g_aload_n d11_coins_59 rfl ?_
  refine g_get fl11_50 d11_coins_60 f_0_6 ?_
  refine g_get fl11_199 d11_coins_63 f_28_7 ?_
  refine g_topI (nI (fine)) (z2.2.2.2.2.2.2.2.1) ?_
  refine g_EV1 vm0_asGoodFirst ml11_231 c_29 (r0_alike (I := I3) (L := L3) (fun s => tdv (cpv (cmR g (I 3 5) (lfO lc)) s0) (sbR g (I 3 5) (lfO lc) c fr) (fun s k => fiO lc (ceR g (I 3 5) c fr s k)) s 12) (fun s => tav (cpv (cmR g (I 3 5) (lfO lc)) s0) (sbR g (I 3 5) (lfO lc) c fr) (fun s k => fiO lc (ceR g (I 3 5) c fr s k)) s 12) c fr ti se fl coin per fine z2 t2 fine v15 hbig (Nat.le_refl 4)) (by omega) (Nat.le_of_ble_eq_true rfl) d11_coins_66 ?_
  exact g_iret rfl d11_coins_69 (⟨(I3, L3), F2, by rw [td_mf v15], rfl⟩)
set_option maxHeartbeats 200000 in
theorem r11_down_n1 {l : Launch} {K : cK} {d : Nat} {I : wI} {L : wL} {R : wR} {dy : cH} (n : Nat) (hn : I 1 0 = nI n) (hn6 : n ≤ 6) (x w : Int32) (hbad : ¬ (0 ≤ x.toInt ∧ x.toInt < n)) (hd : 1 ≤ d) : CE l K m11_down d [.ref 0, .int x, .int w] (hp I L R dy) (.int (-1)) (hp I L R dy) := by
  refine CC.of ok11_down (Nat.le_of_ble_eq_true rfl) ?_
  refine g_aload_n d11_down_0 rfl ?_
  refine g_get fl11_10 d11_down_1 f_0_0 ?_
  refine g_iload_n d11_down_4 rfl ?_
  refine g_EV1 vm6_hasCar ml11_125 c_1 (r6_hasCarI  n (by exact hn) hn6 (rfl) (Nat.le_refl 0)) (by omega) (Nat.le_of_ble_eq_true rfl) d11_down_5 ?_
  refine g_bz 38 d11_down_8 rfl (fun _ => ?_) (fun c8 => absurd c8 (by omega))
  refine g_iconstv ((-1 : Int32)) d11_down_38 rfl ?_
  exact g_iret rfl d11_down_39 (⟨rfl, rfl⟩)
set_option maxHeartbeats 200000 in
theorem r11_down_n2 {l : Launch} {K : cK} {d : Nat} {I : wI} {L : wL} {R : wR} {dy : cH} (n : Nat) (hn : I 1 0 = nI n) (hn6 : n ≤ 6) (c fr ti se fl : Nat) (hC : CC1 I c fr ti se fl) (hc : c < n) (w : Int32) (hbad : ¬ (0 ≤ w.toInt ∧ w.toInt ≤ (ti : Int) - fr)) (hd : 1 ≤ d) : CE l K m11_down d [.ref 0, .int (nI c), .int w] (hp I L R dy) (.int (-1)) (hp I L R dy) := by
  refine CC.of ok11_down (Nat.le_of_ble_eq_true rfl) ?_
  obtain ⟨a0, a1, a2, a3, a4, a5, a6, a7, a8⟩ := id hC
  by_cases h0 : w.toInt < 0
  · skip
    refine g_aload_n d11_down_0 rfl ?_
    refine g_get fl11_10 d11_down_1 f_0_0 ?_
    refine g_iload_n d11_down_4 rfl ?_
    refine g_EV1 vm6_hasCar ml11_125 c_1 (r6_hasCarI (xi := ((c : Nat) : Int)) n (by exact hn) hn6 (nI_ti (by omega)) (Nat.le_refl 0)) (by omega) (Nat.le_of_ble_eq_true rfl) d11_down_5 ?_
    refine g_bz 38 d11_down_8 rfl (fun c8 => absurd (by omega) c8) (fun _ => ?_)
    refine g_iload_n d11_down_11 rfl ?_
    refine g_iz_lt _ 38 (rfl) d11_down_12 rfl (fun _ => ?_) (fun c12 => absurd c12 (by omega))
    refine g_iconstv ((-1 : Int32)) d11_down_38 rfl ?_
    exact g_iret rfl d11_down_39 (⟨rfl, rfl⟩)
  · skip
    refine g_aload_n d11_down_0 rfl ?_
    refine g_get fl11_10 d11_down_1 f_0_0 ?_
    refine g_iload_n d11_down_4 rfl ?_
    refine g_EV1 vm6_hasCar ml11_125 c_1 (r6_hasCarI (xi := ((c : Nat) : Int)) n (by exact hn) hn6 (nI_ti (by omega)) (Nat.le_refl 0)) (by omega) (Nat.le_of_ble_eq_true rfl) d11_down_5 ?_
    refine g_bz 38 d11_down_8 rfl (fun c8 => absurd (by omega) c8) (fun _ => ?_)
    refine g_iload_n d11_down_11 rfl ?_
    refine g_iz_lt _ 38 (rfl) d11_down_12 rfl (fun c12 => absurd c12 (by omega)) (fun _ => ?_)
    refine g_iload_n d11_down_15 rfl ?_
    refine g_aload_n d11_down_16 rfl ?_
    refine g_get fl11_10 d11_down_17 f_0_0 ?_
    refine g_iload_n d11_down_20 rfl ?_
    refine g_iconstv (nI 1) d11_down_21 rfl ?_
    refine g_EV2 vm6_factOf ml11_129 c_1 (r6_factOf (c) (1) (by omega) (by omega) (Nat.le_refl 0)) (by omega) (Nat.le_of_ble_eq_true rfl) d11_down_22 ?_
    refine g_topI (nI (ti)) (a2) ?_
    refine g_aload_n d11_down_25 rfl ?_
    refine g_get fl11_10 d11_down_26 f_0_0 ?_
    refine g_iload_n d11_down_29 rfl ?_
    refine g_iconstv (nI 0) d11_down_30 rfl ?_
    refine g_EV2 vm6_factOf ml11_129 c_1 (r6_factOf (c) (0) (by omega) (by omega) (Nat.le_refl 0)) (by omega) (Nat.le_of_ble_eq_true rfl) d11_down_31 ?_
    refine g_topI (nI (fr)) (a1) ?_
    refine g_isubN (by omega) d11_down_34 ?_
    refine g_ic_le _ (((ti - fr) : Nat) : Int) 40 (rfl) (nI_ti (by omega)) d11_down_35 rfl (fun c35 => absurd c35 (by omega)) (fun _ => ?_)
    refine g_iconstv ((-1 : Int32)) d11_down_38 rfl ?_
    exact g_iret rfl d11_down_39 (⟨rfl, rfl⟩)
set_option maxHeartbeats 400000 in
theorem r11_down_ok {l : Launch} {K : cK} {d : Nat} {I : wI} {L : wL} {R : wR} {dy : cH} (g : Nat → Int32) (hg : g 9 = I 3 3 ∧ g 13 = I 3 7) (s0 : Nat) (h34 : I 3 4 = nI s0) (hs1 : 1 ≤ s0) (hs2 : s0 ≤ 12) (o : Option Nat) (lc : Option (List Cl)) (hO : CLF I R dy (I 1 5) o lc) (c fr ti se fl coin per fine : Nat) (hC : CC1 I c fr ti se fl) (hT : CT I coin per fine) (n : Nat) (hn : I 1 0 = nI n) (hn6 : n ≤ 6) (hcn : c < n) (hc1 : 1 ≤ coin) (i : Nat) (hi : fr + i ≤ ti) (hd : 7 ≤ d) : CX l K m11_down d [.ref 0, .int (nI c), .int (nI i)] (hp I L R dy) (α := wI × wL) (fun x => FK [22, 23, 25, 26, 28, 30, 31, 36, 39, 40, 41, 51, 52] [22, 24, 27, 30, 32, 33, 34, 35, 37, 38, 39, 42, 43, 51, 53, 54] I L x.1 x.2) (fun _ => .int (nI (dI per (dB coin per fr ti fl (fun s => mfv (cmR g (I 3 5) (lfO lc)) s0 (fnR g (I 3 5) (lfO lc) c fr fine) s 12)) (ti - fr) (i + 1)))) (fun x => hp x.1 x.2 (uR R 21 1 o) dy) := by
  obtain ⟨a0, a1, a2, a3, a4, a5, a6, a7, a8⟩ := id hC
  have hMl : ∀ s, (fun s => mfv (cmR g (I 3 5) (lfO lc)) s0 (fnR g (I 3 5) (lfO lc) c fr fine) s 12) s ≤ 99000000000000 := fun s => mfv_le _ s0 _ (cmR_le _ _ _) (fun a b => fnR_le _ _ _ _ _ a b hT.2.2.2.2.2.2) s
  refine CC.of ok11_down (Nat.le_of_ble_eq_true rfl) ?_
  refine g_aload_n d11_down_0 rfl ?_
  refine g_get fl11_10 d11_down_1 f_0_0 ?_
  refine g_iload_n d11_down_4 rfl ?_
  refine g_EV1 vm6_hasCar ml11_125 c_1 (r6_hasCarI (xi := ((c : Nat) : Int)) n (by exact hn) hn6 (nI_ti (by omega)) (Nat.le_refl 0)) (by omega) (Nat.le_of_ble_eq_true rfl) d11_down_5 ?_
  refine g_bz 38 d11_down_8 rfl (fun c8 => absurd (by omega) c8) (fun _ => ?_)
  refine g_iload_n d11_down_11 rfl ?_
  refine g_iz_lt ((i : Nat) : Int) 38 (nI_ti (by omega)) d11_down_12 rfl (fun c12 => absurd c12 (by omega)) (fun _ => ?_)
  refine g_iload_n d11_down_15 rfl ?_
  refine g_aload_n d11_down_16 rfl ?_
  refine g_get fl11_10 d11_down_17 f_0_0 ?_
  refine g_iload_n d11_down_20 rfl ?_
  refine g_iconstv (nI 1) d11_down_21 rfl ?_
  refine g_EV2 vm6_factOf ml11_129 c_1 (r6_factOf (c) (1) (by omega) (by omega) (Nat.le_refl 0)) (by omega) (Nat.le_of_ble_eq_true rfl) d11_down_22 ?_
  refine g_topI (nI (ti)) (a2) ?_
  refine g_aload_n d11_down_25 rfl ?_
  refine g_get fl11_10 d11_down_26 f_0_0 ?_
  refine g_iload_n d11_down_29 rfl ?_
  refine g_iconstv (nI 0) d11_down_30 rfl ?_
  refine g_EV2 vm6_factOf ml11_129 c_1 (r6_factOf (c) (0) (by omega) (by omega) (Nat.le_refl 0)) (by omega) (Nat.le_of_ble_eq_true rfl) d11_down_31 ?_
  refine g_topI (nI (fr)) (a1) ?_
  refine g_isubN (by omega) d11_down_34 ?_
  refine g_ic_le ((i : Nat) : Int) (((ti - fr) : Nat) : Int) 40 (nI_ti (by omega)) (nI_ti (by omega)) d11_down_35 rfl (fun _ => ?_) (fun c35 => absurd c35 (by omega))
  refine g_aload_n d11_down_40 rfl ?_
  refine g_iload_n d11_down_41 rfl ?_
  refine g_WV1 vm11_lookAt ml11_218 c_0 (r11_lookAt g hg s0 h34 hs1 hs2 o lc hO c fr ti se fl coin per fine hC hT (Nat.le_refl 6)) (by omega) (Nat.le_of_ble_eq_true rfl) d11_down_42 (fun x hx => ?_)
  obtain ⟨I2, L2⟩ := x
  obtain ⟨f1, w1, p1, z1⟩ := hx
  dsimp only at f1 w1 p1 z1 ⊢
  obtain ⟨v0, v1, v2, v3, v4, v5, v6, v7, v8, v9, v10, v11, v12, v13, v14, v15⟩ := id z1
  refine g_aload_n d11_down_45 rfl ?_
  refine g_get fl11_59 d11_down_46 f_0_7 ?_
  refine g_WV0 vm0_reckonFines ml11_221 c_29 (r0_fines (I := I2) (L := L2) g (I 3 5) w1 lc hO.lw s0 (cmR g (I 3 5) (lfO lc)) rfl c fr ti se fl coin per fine z1 p1 (Nat.le_refl 4)) (by omega) (Nat.le_of_ble_eq_true rfl) d11_down_49 (fun y hy => ?_)
  obtain ⟨I3, L3⟩ := y
  obtain ⟨⟨f2, w2, z2, p2⟩, t2⟩ := hy
  dsimp only at f2 w2 z2 p2 t2 ⊢
  have F2 : FK [22, 23, 25, 26, 28, 30, 31, 36, 39, 40, 41, 51, 52] [22, 24, 27, 30, 32, 33, 34, 35, 37, 38, 39, 42, 43, 51, 53, 54] I L I3 L3 := (f1.up (by decide) (by decide)).tr (f2.up (by decide) (by decide))
  refine g_aload_n d11_down_52 rfl ?_
  refine g_get fl11_59 d11_down_53 f_0_7 ?_
  refine g_XV0 vm0_leastAhead ml11_238 c_29 (r0_least (I := I3) (L := L3) (fun s => tdv (cpv (cmR g (I 3 5) (lfO lc)) s0) (sbR g (I 3 5) (lfO lc) c fr) (fun s k => fiO lc (ceR g (I 3 5) c fr s k)) s 12) (fun s => tav (cpv (cmR g (I 3 5) (lfO lc)) s0) (sbR g (I 3 5) (lfO lc) c fr) (fun s k => fiO lc (ceR g (I 3 5) c fr s k)) s 12) c fr ti se fl coin per fine z2 hc1 (fun s => mfv (cmR g (I 3 5) (lfO lc)) s0 (fnR g (I 3 5) (lfO lc) c fr fine) s 12) (td_mf v15).symm hMl t2 (Nat.le_refl 4)) (by omega) (Nat.le_of_ble_eq_true rfl) d11_down_56 (fun q hq => ?_)
  obtain ⟨I4, L4⟩ := q
  obtain ⟨f3, d3, b3⟩ := hq
  dsimp only at f3 d3 b3 ⊢
  refine g_pop2L d11_down_59 rfl ?_
  refine g_aload_n d11_down_60 rfl ?_
  refine g_get fl11_59 d11_down_61 f_0_7 ?_
  refine g_iload_n d11_down_64 rfl ?_
  refine g_EV1 vm0_coinsAhead ml11_242 c_29 (r0_ahead (I := I4) (L := L4) c fr ti se fl coin per fine (z2.of (f3.1 28 (by decide))) (dB coin per fr ti fl (fun s => mfv (cmR g (I 3 5) (lfO lc)) s0 (fnR g (I 3 5) (lfO lc) c fr fine) s 12)) b3 (fun m q => (fa_le _ 12).2.1) i hi (Nat.le_refl 2)) (by omega) (Nat.le_of_ble_eq_true rfl) d11_down_65 ?_
  exact g_iret rfl d11_down_68 (⟨(I4, L4), F2.tr (f3.up (by decide) (by decide)), rfl, rfl⟩)
set_option maxHeartbeats 200000 in
theorem r11_asks_no {l : Launch} {K : cK} {d : Nat} {I : wI} {L : wL} {R : wR} {dy : cH} (s k c w : Int32) (hbad : ¬ ((0 ≤ s.toInt ∧ s.toInt < 12) ∧ (1 ≤ k.toInt ∧ k.toInt ≤ 12) ∧ 0 ≤ w.toInt ∧ w.toInt ≤ 2)) (hd : 1 ≤ d) : CE l K m11_asks d [.ref 0, .int s, .int k, .int c, .int w] (hp I L R dy) (.int (-1)) (hp I L R dy) := by
  refine CC.of ok11_asks (Nat.le_of_ble_eq_true rfl) ?_
  by_cases h1 : ¬ (0 ≤ s.toInt ∧ s.toInt ≤ 11)
  · skip
    refine g_iload_n d11_asks_0 rfl ?_
    refine g_ES1 sm11_isSlot ml11_181 (r11_isSlotI  (rfl) (Nat.le_refl 0)) (by omega) (Nat.le_of_ble_eq_true rfl) d11_asks_1 ?_
    refine g_bz 29 d11_asks_4 rfl (fun _ => ?_) (fun c4 => absurd c4 (h1))
    refine g_iconstv ((-1 : Int32)) d11_asks_29 rfl ?_
    exact g_iret rfl d11_asks_30 (⟨rfl, rfl⟩)
  by_cases h2 : k.toInt < 1
  · skip
    refine g_iload_n d11_asks_0 rfl ?_
    refine g_ES1 sm11_isSlot ml11_181 (r11_isSlotI  (rfl) (Nat.le_refl 0)) (by omega) (Nat.le_of_ble_eq_true rfl) d11_asks_1 ?_
    refine g_bz 29 d11_asks_4 rfl (fun c4 => absurd (by omega) c4) (fun _ => ?_)
    refine g_iload_n d11_asks_7 rfl ?_
    refine g_iconstv (nI 1) d11_asks_8 rfl ?_
    refine g_ic_lt _ (1) 29 (rfl) (by decide) d11_asks_9 rfl (fun _ => ?_) (fun c9 => absurd c9 (by omega))
    refine g_iconstv ((-1 : Int32)) d11_asks_29 rfl ?_
    exact g_iret rfl d11_asks_30 (⟨rfl, rfl⟩)
  by_cases h3 : 12 < k.toInt
  · skip
    refine g_iload_n d11_asks_0 rfl ?_
    refine g_ES1 sm11_isSlot ml11_181 (r11_isSlotI  (rfl) (Nat.le_refl 0)) (by omega) (Nat.le_of_ble_eq_true rfl) d11_asks_1 ?_
    refine g_bz 29 d11_asks_4 rfl (fun c4 => absurd (by omega) c4) (fun _ => ?_)
    refine g_iload_n d11_asks_7 rfl ?_
    refine g_iconstv (nI 1) d11_asks_8 rfl ?_
    refine g_ic_lt _ (1) 29 (rfl) (by decide) d11_asks_9 rfl (fun c9 => absurd c9 (by omega)) (fun _ => ?_)
    refine g_iload_n d11_asks_12 rfl ?_
    refine g_bipushv (nI 12) d11_asks_13 rfl ?_
    refine g_ic_gt _ (12) 29 (rfl) (by decide) d11_asks_15 rfl (fun _ => ?_) (fun c15 => absurd c15 (by omega))
    refine g_iconstv ((-1 : Int32)) d11_asks_29 rfl ?_
    exact g_iret rfl d11_asks_30 (⟨rfl, rfl⟩)
  by_cases h4 : w.toInt < 0
  · skip
    refine g_iload_n d11_asks_0 rfl ?_
    refine g_ES1 sm11_isSlot ml11_181 (r11_isSlotI  (rfl) (Nat.le_refl 0)) (by omega) (Nat.le_of_ble_eq_true rfl) d11_asks_1 ?_
    refine g_bz 29 d11_asks_4 rfl (fun c4 => absurd (by omega) c4) (fun _ => ?_)
    refine g_iload_n d11_asks_7 rfl ?_
    refine g_iconstv (nI 1) d11_asks_8 rfl ?_
    refine g_ic_lt _ (1) 29 (rfl) (by decide) d11_asks_9 rfl (fun c9 => absurd c9 (by omega)) (fun _ => ?_)
    refine g_iload_n d11_asks_12 rfl ?_
    refine g_bipushv (nI 12) d11_asks_13 rfl ?_
    refine g_ic_gt _ (12) 29 (rfl) (by decide) d11_asks_15 rfl (fun c15 => absurd c15 (by omega)) (fun _ => ?_)
    refine g_iload d11_asks_18 rfl ?_
    refine g_iz_lt _ 29 (rfl) d11_asks_20 rfl (fun _ => ?_) (fun c20 => absurd c20 (by omega))
    refine g_iconstv ((-1 : Int32)) d11_asks_29 rfl ?_
    exact g_iret rfl d11_asks_30 (⟨rfl, rfl⟩)
  refine g_iload_n d11_asks_0 rfl ?_
  refine g_ES1 sm11_isSlot ml11_181 (r11_isSlotI  (rfl) (Nat.le_refl 0)) (by omega) (Nat.le_of_ble_eq_true rfl) d11_asks_1 ?_
  refine g_bz 29 d11_asks_4 rfl (fun c4 => absurd (by omega) c4) (fun _ => ?_)
  refine g_iload_n d11_asks_7 rfl ?_
  refine g_iconstv (nI 1) d11_asks_8 rfl ?_
  refine g_ic_lt _ (1) 29 (rfl) (by decide) d11_asks_9 rfl (fun c9 => absurd c9 (by omega)) (fun _ => ?_)
  refine g_iload_n d11_asks_12 rfl ?_
  refine g_bipushv (nI 12) d11_asks_13 rfl ?_
  refine g_ic_gt _ (12) 29 (rfl) (by decide) d11_asks_15 rfl (fun c15 => absurd c15 (by omega)) (fun _ => ?_)
  refine g_iload d11_asks_18 rfl ?_
  refine g_iz_lt _ 29 (rfl) d11_asks_20 rfl (fun c20 => absurd c20 (by omega)) (fun _ => ?_)
  refine g_iload d11_asks_23 rfl ?_
  refine g_iconstv (nI 2) d11_asks_25 rfl ?_
  refine g_ic_le _ (2) 31 (rfl) (by decide) d11_asks_26 rfl (fun c26 => absurd c26 (by omega)) (fun _ => ?_)
  refine g_iconstv ((-1 : Int32)) d11_asks_29 rfl ?_
  exact g_iret rfl d11_asks_30 (⟨rfl, rfl⟩)
set_option maxHeartbeats 200000 in
theorem r11_asks_0 {l : Launch} {K : cK} {d : Nat} {I : wI} {L : wL} {R : wR} {dy : cH} (g : Nat → Int32) (hg : g 9 = I 3 3 ∧ g 13 = I 3 7) (o : Option Nat) (lc : Option (List Cl)) (hO : CLF I R dy (I 1 5) o lc) (s k : Nat) (hs : s < 12) (hk1 : 1 ≤ k) (hk2 : k ≤ 12) (c : Int32) (hd : 4 ≤ d) : CX l K m11_asks d [.ref 0, .int (nI s), .int (nI k), .int c, .int (nI 0)] (hp I L R dy) (α := wI × wL) (fun x => FK [22, 23, 25, 26, 28, 30, 31, 36, 39, 40, 41, 51, 52] [22, 24, 27, 30, 32, 33, 34, 35, 37, 38, 39, 42, 43, 51, 53, 54] I L x.1 x.2) (fun _ => .int (nI (cmR g (I 3 5) (lfO lc) s k))) (fun x => hp x.1 x.2 (uR R 21 1 o) dy) := by
  refine CC.of ok11_asks (Nat.le_of_ble_eq_true rfl) ?_
  refine g_iload_n d11_asks_0 rfl ?_
  refine g_ES1 sm11_isSlot ml11_181 (r11_isSlotI (xi := ((s : Nat) : Int)) (nI_ti (by omega)) (Nat.le_refl 0)) (by omega) (Nat.le_of_ble_eq_true rfl) d11_asks_1 ?_
  refine g_bz 29 d11_asks_4 rfl (fun c4 => absurd (by omega) c4) (fun _ => ?_)
  refine g_iload_n d11_asks_7 rfl ?_
  refine g_iconstv (nI 1) d11_asks_8 rfl ?_
  refine g_ic_lt ((k : Nat) : Int) (1) 29 (nI_ti (by omega)) (by decide) d11_asks_9 rfl (fun c9 => absurd c9 (by omega)) (fun _ => ?_)
  refine g_iload_n d11_asks_12 rfl ?_
  refine g_bipushv (nI 12) d11_asks_13 rfl ?_
  refine g_ic_gt ((k : Nat) : Int) (12) 29 (nI_ti (by omega)) (by decide) d11_asks_15 rfl (fun c15 => absurd c15 (by omega)) (fun _ => ?_)
  refine g_iload d11_asks_18 rfl ?_
  refine g_iz_lt (0) 29 (by decide) d11_asks_20 rfl (fun c20 => absurd c20 (by decide)) (fun _ => ?_)
  refine g_iload d11_asks_23 rfl ?_
  refine g_iconstv (nI 2) d11_asks_25 rfl ?_
  refine g_ic_le (0) (2) 31 (by decide) (by decide) d11_asks_26 rfl (fun _ => ?_) (fun c26 => absurd c26 (by decide))
  refine g_aload_n d11_asks_31 rfl ?_
  refine g_get fl11_43 d11_asks_32 f_0_5 ?_
  refine g_aload_n d11_asks_35 rfl ?_
  refine g_get fl11_10 d11_asks_36 f_0_0 ?_
  refine g_aload_n d11_asks_39 rfl ?_
  refine g_get fl11_10 d11_asks_40 f_0_0 ?_
  refine g_get fl11_178 d11_asks_43 f_1_5 ?_
  refine g_aload_n d11_asks_46 rfl ?_
  refine g_get fl11_10 d11_asks_47 f_0_0 ?_
  refine g_get fl11_142 d11_asks_50 f_1_2 ?_
  refine g_iconstv (nI 5) d11_asks_53 rfl ?_
  refine g_ialdN (5) d11_asks_54 a_3 (rfl) (by omega) (by decide) ?_
  refine g_VV3 vm10_serve ml11_184 c_21 (r10_serve (I 1 5) o lc hO (I 3 5) (Nat.le_refl 1)) (by omega) (Nat.le_of_ble_eq_true rfl) d11_asks_55 ?_
  refine g_iload d11_asks_58 rfl ?_
  refine g_iz_ne (0) 73 (by decide) d11_asks_60 rfl (fun c60 => absurd c60 (by decide)) (fun _ => ?_)
  refine g_aload_n d11_asks_63 rfl ?_
  refine g_get fl11_43 d11_asks_64 f_0_5 ?_
  refine g_iload_n d11_asks_67 rfl ?_
  refine g_iload_n d11_asks_68 rfl ?_
  refine g_XV2 vm10_comesOfTen ml11_188 c_21 (r10_comes (I := sv I (I 3 5)) (L := L) g (I 3 5) (sv_ww hg) lc hO.lw s k (by omega) (by omega) (Nat.le_refl 3)) (by omega) (Nat.le_of_ble_eq_true rfl) d11_asks_69 (fun x hx => ?_)
  exact g_iret rfl d11_asks_72 (⟨x, ((sv_fk (by decide)).tr (hx.1.up (by decide) (by decide))), rfl, rfl⟩)
set_option maxHeartbeats 200000 in
theorem r11_asks_n1 {l : Launch} {K : cK} {d : Nat} {I : wI} {L : wL} {R : wR} {dy : cH} (g : Nat → Int32) (hg : g 9 = I 3 3 ∧ g 13 = I 3 7) (o : Option Nat) (lc : Option (List Cl)) (hO : CLF I R dy (I 1 5) o lc) (s k : Nat) (hs : s < 12) (hk1 : 1 ≤ k) (hk2 : k ≤ 12) (n : Nat) (hn : I 1 0 = nI n) (hn6 : n ≤ 6) (c : Int32) (hc : ¬ (0 ≤ c.toInt ∧ c.toInt < n)) (w : Nat) (hw1 : 1 ≤ w) (hw2 : w ≤ 2) (hd : 4 ≤ d) : CE l K m11_asks d [.ref 0, .int (nI s), .int (nI k), .int c, .int (nI w)] (hp I L R dy) (.int (-1)) (hp (sv I (I 3 5)) L (uR R 21 1 o) dy) := by
  refine CC.of ok11_asks (Nat.le_of_ble_eq_true rfl) ?_
  refine g_iload_n d11_asks_0 rfl ?_
  refine g_ES1 sm11_isSlot ml11_181 (r11_isSlotI (xi := ((s : Nat) : Int)) (nI_ti (by omega)) (Nat.le_refl 0)) (by omega) (Nat.le_of_ble_eq_true rfl) d11_asks_1 ?_
  refine g_bz 29 d11_asks_4 rfl (fun c4 => absurd (by omega) c4) (fun _ => ?_)
  refine g_iload_n d11_asks_7 rfl ?_
  refine g_iconstv (nI 1) d11_asks_8 rfl ?_
  refine g_ic_lt ((k : Nat) : Int) (1) 29 (nI_ti (by omega)) (by decide) d11_asks_9 rfl (fun c9 => absurd c9 (by omega)) (fun _ => ?_)
  refine g_iload_n d11_asks_12 rfl ?_
  refine g_bipushv (nI 12) d11_asks_13 rfl ?_
  refine g_ic_gt ((k : Nat) : Int) (12) 29 (nI_ti (by omega)) (by decide) d11_asks_15 rfl (fun c15 => absurd c15 (by omega)) (fun _ => ?_)
  refine g_iload d11_asks_18 rfl ?_
  refine g_iz_lt ((w : Nat) : Int) 29 (nI_ti (by omega)) d11_asks_20 rfl (fun c20 => absurd c20 (by omega)) (fun _ => ?_)
  refine g_iload d11_asks_23 rfl ?_
  refine g_iconstv (nI 2) d11_asks_25 rfl ?_
  refine g_ic_le ((w : Nat) : Int) (2) 31 (nI_ti (by omega)) (by decide) d11_asks_26 rfl (fun _ => ?_) (fun c26 => absurd c26 (by omega))
  refine g_aload_n d11_asks_31 rfl ?_
  refine g_get fl11_43 d11_asks_32 f_0_5 ?_
  refine g_aload_n d11_asks_35 rfl ?_
  refine g_get fl11_10 d11_asks_36 f_0_0 ?_
  refine g_aload_n d11_asks_39 rfl ?_
  refine g_get fl11_10 d11_asks_40 f_0_0 ?_
  refine g_get fl11_178 d11_asks_43 f_1_5 ?_
  refine g_aload_n d11_asks_46 rfl ?_
  refine g_get fl11_10 d11_asks_47 f_0_0 ?_
  refine g_get fl11_142 d11_asks_50 f_1_2 ?_
  refine g_iconstv (nI 5) d11_asks_53 rfl ?_
  refine g_ialdN (5) d11_asks_54 a_3 (rfl) (by omega) (by decide) ?_
  refine g_VV3 vm10_serve ml11_184 c_21 (r10_serve (I 1 5) o lc hO (I 3 5) (Nat.le_refl 1)) (by omega) (Nat.le_of_ble_eq_true rfl) d11_asks_55 ?_
  refine g_iload d11_asks_58 rfl ?_
  refine g_iz_ne ((w : Nat) : Int) 73 (nI_ti (by omega)) d11_asks_60 rfl (fun _ => ?_) (fun c60 => absurd c60 (by omega))
  refine g_aload_n d11_asks_73 rfl ?_
  refine g_get fl11_10 d11_asks_74 f_0_0 ?_
  refine g_iload_n d11_asks_77 rfl ?_
  refine g_EV1 vm6_hasCar ml11_125 c_1 (r6_hasCarI  n (by exact hn) hn6 (rfl) (Nat.le_refl 0)) (by omega) (Nat.le_of_ble_eq_true rfl) d11_asks_78 ?_
  refine g_bz 110 d11_asks_81 rfl (fun _ => ?_) (fun c81 => absurd c81 (hc))
  refine g_iconstv ((-1 : Int32)) d11_asks_110 rfl ?_
  exact g_iret rfl d11_asks_111 (⟨rfl, rfl⟩)
set_option maxHeartbeats 200000 in
theorem r11_asks_n2 {l : Launch} {K : cK} {d : Nat} {I : wI} {L : wL} {R : wR} {dy : cH} (g : Nat → Int32) (hg : g 9 = I 3 3 ∧ g 13 = I 3 7) (o : Option Nat) (lc : Option (List Cl)) (hO : CLF I R dy (I 1 5) o lc) (s k : Nat) (hs : s < 12) (hk1 : 1 ≤ k) (hk2 : k ≤ 12) (n : Nat) (hn : I 1 0 = nI n) (hn6 : n ≤ 6) (c fr ti se fl : Nat) (hC : CC1 I c fr ti se fl) (hcn : c < n) (hbad : ¬ (fr ≤ s ∧ s ≤ ti)) (w : Nat) (hw1 : 1 ≤ w) (hw2 : w ≤ 2) (hd : 4 ≤ d) : CE l K m11_asks d [.ref 0, .int (nI s), .int (nI k), .int (nI c), .int (nI w)] (hp I L R dy) (.int (-1)) (hp (sv I (I 3 5)) L (uR R 21 1 o) dy) := by
  refine CC.of ok11_asks (Nat.le_of_ble_eq_true rfl) ?_
  obtain ⟨a0, a1, a2, a3, a4, a5, a6, a7, a8⟩ := id hC
  by_cases h0 : s < fr
  · skip
    refine g_iload_n d11_asks_0 rfl ?_
    refine g_ES1 sm11_isSlot ml11_181 (r11_isSlotI (xi := ((s : Nat) : Int)) (nI_ti (by omega)) (Nat.le_refl 0)) (by omega) (Nat.le_of_ble_eq_true rfl) d11_asks_1 ?_
    refine g_bz 29 d11_asks_4 rfl (fun c4 => absurd (by omega) c4) (fun _ => ?_)
    refine g_iload_n d11_asks_7 rfl ?_
    refine g_iconstv (nI 1) d11_asks_8 rfl ?_
    refine g_ic_lt ((k : Nat) : Int) (1) 29 (nI_ti (by omega)) (by decide) d11_asks_9 rfl (fun c9 => absurd c9 (by omega)) (fun _ => ?_)
    refine g_iload_n d11_asks_12 rfl ?_
    refine g_bipushv (nI 12) d11_asks_13 rfl ?_
    refine g_ic_gt ((k : Nat) : Int) (12) 29 (nI_ti (by omega)) (by decide) d11_asks_15 rfl (fun c15 => absurd c15 (by omega)) (fun _ => ?_)
    refine g_iload d11_asks_18 rfl ?_
    refine g_iz_lt ((w : Nat) : Int) 29 (nI_ti (by omega)) d11_asks_20 rfl (fun c20 => absurd c20 (by omega)) (fun _ => ?_)
    refine g_iload d11_asks_23 rfl ?_
    refine g_iconstv (nI 2) d11_asks_25 rfl ?_
    refine g_ic_le ((w : Nat) : Int) (2) 31 (nI_ti (by omega)) (by decide) d11_asks_26 rfl (fun _ => ?_) (fun c26 => absurd c26 (by omega))
    refine g_aload_n d11_asks_31 rfl ?_
    refine g_get fl11_43 d11_asks_32 f_0_5 ?_
    refine g_aload_n d11_asks_35 rfl ?_
    refine g_get fl11_10 d11_asks_36 f_0_0 ?_
    refine g_aload_n d11_asks_39 rfl ?_
    refine g_get fl11_10 d11_asks_40 f_0_0 ?_
    refine g_get fl11_178 d11_asks_43 f_1_5 ?_
    refine g_aload_n d11_asks_46 rfl ?_
    refine g_get fl11_10 d11_asks_47 f_0_0 ?_
    refine g_get fl11_142 d11_asks_50 f_1_2 ?_
    refine g_iconstv (nI 5) d11_asks_53 rfl ?_
    refine g_ialdN (5) d11_asks_54 a_3 (rfl) (by omega) (by decide) ?_
    refine g_VV3 vm10_serve ml11_184 c_21 (r10_serve (I 1 5) o lc hO (I 3 5) (Nat.le_refl 1)) (by omega) (Nat.le_of_ble_eq_true rfl) d11_asks_55 ?_
    refine g_iload d11_asks_58 rfl ?_
    refine g_iz_ne ((w : Nat) : Int) 73 (nI_ti (by omega)) d11_asks_60 rfl (fun _ => ?_) (fun c60 => absurd c60 (by omega))
    refine g_aload_n d11_asks_73 rfl ?_
    refine g_get fl11_10 d11_asks_74 f_0_0 ?_
    refine g_iload_n d11_asks_77 rfl ?_
    refine g_EV1 vm6_hasCar ml11_125 c_1 (r6_hasCarI (xi := ((c : Nat) : Int)) n (by exact hn) hn6 (nI_ti (by omega)) (Nat.le_refl 0)) (by omega) (Nat.le_of_ble_eq_true rfl) d11_asks_78 ?_
    refine g_bz 110 d11_asks_81 rfl (fun c81 => absurd (by omega) c81) (fun _ => ?_)
    refine g_iload_n d11_asks_84 rfl ?_
    refine g_aload_n d11_asks_85 rfl ?_
    refine g_get fl11_10 d11_asks_86 f_0_0 ?_
    refine g_iload_n d11_asks_89 rfl ?_
    refine g_iconstv (nI 0) d11_asks_90 rfl ?_
    refine g_EV2 vm6_factOf ml11_129 c_1 (r6_factOf (c) (0) (by omega) (by omega) (Nat.le_refl 0)) (by omega) (Nat.le_of_ble_eq_true rfl) d11_asks_91 ?_
    refine g_topI (nI (fr)) (by exact a1) ?_
    refine g_ic_lt ((s : Nat) : Int) ((fr : Nat) : Int) 110 (nI_ti (by omega)) (nI_ti (by omega)) d11_asks_94 rfl (fun _ => ?_) (fun c94 => absurd c94 (by omega))
    refine g_iconstv ((-1 : Int32)) d11_asks_110 rfl ?_
    exact g_iret rfl d11_asks_111 (⟨rfl, rfl⟩)
  · skip
    refine g_iload_n d11_asks_0 rfl ?_
    refine g_ES1 sm11_isSlot ml11_181 (r11_isSlotI (xi := ((s : Nat) : Int)) (nI_ti (by omega)) (Nat.le_refl 0)) (by omega) (Nat.le_of_ble_eq_true rfl) d11_asks_1 ?_
    refine g_bz 29 d11_asks_4 rfl (fun c4 => absurd (by omega) c4) (fun _ => ?_)
    refine g_iload_n d11_asks_7 rfl ?_
    refine g_iconstv (nI 1) d11_asks_8 rfl ?_
    refine g_ic_lt ((k : Nat) : Int) (1) 29 (nI_ti (by omega)) (by decide) d11_asks_9 rfl (fun c9 => absurd c9 (by omega)) (fun _ => ?_)
    refine g_iload_n d11_asks_12 rfl ?_
    refine g_bipushv (nI 12) d11_asks_13 rfl ?_
    refine g_ic_gt ((k : Nat) : Int) (12) 29 (nI_ti (by omega)) (by decide) d11_asks_15 rfl (fun c15 => absurd c15 (by omega)) (fun _ => ?_)
    refine g_iload d11_asks_18 rfl ?_
    refine g_iz_lt ((w : Nat) : Int) 29 (nI_ti (by omega)) d11_asks_20 rfl (fun c20 => absurd c20 (by omega)) (fun _ => ?_)
    refine g_iload d11_asks_23 rfl ?_
    refine g_iconstv (nI 2) d11_asks_25 rfl ?_
    refine g_ic_le ((w : Nat) : Int) (2) 31 (nI_ti (by omega)) (by decide) d11_asks_26 rfl (fun _ => ?_) (fun c26 => absurd c26 (by omega))
    refine g_aload_n d11_asks_31 rfl ?_
    refine g_get fl11_43 d11_asks_32 f_0_5 ?_
    refine g_aload_n d11_asks_35 rfl ?_
    refine g_get fl11_10 d11_asks_36 f_0_0 ?_
    refine g_aload_n d11_asks_39 rfl ?_
    refine g_get fl11_10 d11_asks_40 f_0_0 ?_
    refine g_get fl11_178 d11_asks_43 f_1_5 ?_
    refine g_aload_n d11_asks_46 rfl ?_
    refine g_get fl11_10 d11_asks_47 f_0_0 ?_
    refine g_get fl11_142 d11_asks_50 f_1_2 ?_
    refine g_iconstv (nI 5) d11_asks_53 rfl ?_
    refine g_ialdN (5) d11_asks_54 a_3 (rfl) (by omega) (by decide) ?_
    refine g_VV3 vm10_serve ml11_184 c_21 (r10_serve (I 1 5) o lc hO (I 3 5) (Nat.le_refl 1)) (by omega) (Nat.le_of_ble_eq_true rfl) d11_asks_55 ?_
    refine g_iload d11_asks_58 rfl ?_
    refine g_iz_ne ((w : Nat) : Int) 73 (nI_ti (by omega)) d11_asks_60 rfl (fun _ => ?_) (fun c60 => absurd c60 (by omega))
    refine g_aload_n d11_asks_73 rfl ?_
    refine g_get fl11_10 d11_asks_74 f_0_0 ?_
    refine g_iload_n d11_asks_77 rfl ?_
    refine g_EV1 vm6_hasCar ml11_125 c_1 (r6_hasCarI (xi := ((c : Nat) : Int)) n (by exact hn) hn6 (nI_ti (by omega)) (Nat.le_refl 0)) (by omega) (Nat.le_of_ble_eq_true rfl) d11_asks_78 ?_
    refine g_bz 110 d11_asks_81 rfl (fun c81 => absurd (by omega) c81) (fun _ => ?_)
    refine g_iload_n d11_asks_84 rfl ?_
    refine g_aload_n d11_asks_85 rfl ?_
    refine g_get fl11_10 d11_asks_86 f_0_0 ?_
    refine g_iload_n d11_asks_89 rfl ?_
    refine g_iconstv (nI 0) d11_asks_90 rfl ?_
    refine g_EV2 vm6_factOf ml11_129 c_1 (r6_factOf (c) (0) (by omega) (by omega) (Nat.le_refl 0)) (by omega) (Nat.le_of_ble_eq_true rfl) d11_asks_91 ?_
    refine g_topI (nI (fr)) (by exact a1) ?_
    refine g_ic_lt ((s : Nat) : Int) ((fr : Nat) : Int) 110 (nI_ti (by omega)) (nI_ti (by omega)) d11_asks_94 rfl (fun c94 => absurd c94 (by omega)) (fun _ => ?_)
    refine g_iload_n d11_asks_97 rfl ?_
    refine g_aload_n d11_asks_98 rfl ?_
    refine g_get fl11_10 d11_asks_99 f_0_0 ?_
    refine g_iload_n d11_asks_102 rfl ?_
    refine g_iconstv (nI 1) d11_asks_103 rfl ?_
    refine g_EV2 vm6_factOf ml11_129 c_1 (r6_factOf (c) (1) (by omega) (by omega) (Nat.le_refl 0)) (by omega) (Nat.le_of_ble_eq_true rfl) d11_asks_104 ?_
    refine g_topI (nI (ti)) (by exact a2) ?_
    refine g_ic_le ((s : Nat) : Int) ((ti : Nat) : Int) 112 (nI_ti (by omega)) (nI_ti (by omega)) d11_asks_107 rfl (fun c107 => absurd c107 (by omega)) (fun _ => ?_)
    refine g_iconstv ((-1 : Int32)) d11_asks_110 rfl ?_
    exact g_iret rfl d11_asks_111 (⟨rfl, rfl⟩)
set_option maxHeartbeats 400000 in
theorem r11_asks_1 {l : Launch} {K : cK} {d : Nat} {I : wI} {L : wL} {R : wR} {dy : cH} (g : Nat → Int32) (hg : g 9 = I 3 3 ∧ g 13 = I 3 7) (o : Option Nat) (lc : Option (List Cl)) (hO : CLF I R dy (I 1 5) o lc) (s k : Nat) (hs : s < 12) (hk1 : 1 ≤ k) (hk2 : k ≤ 12) (n : Nat) (hn : I 1 0 = nI n) (hn6 : n ≤ 6) (c fr ti se fl coin per fine : Nat) (hC : CC1 I c fr ti se fl) (hT : CT I coin per fine) (hcn : c < n) (hs1 : fr ≤ s) (hs2 : s ≤ ti) (hd : 4 ≤ d) : CX l K m11_asks d [.ref 0, .int (nI s), .int (nI k), .int (nI c), .int (nI 1)] (hp I L R dy) (α := wI × wL) (fun x => FK [22, 23, 25, 26, 28, 30, 31, 36, 39, 40, 41, 51, 52] [22, 24, 27, 30, 32, 33, 34, 35, 37, 38, 39, 42, 43, 51, 53, 54] I L x.1 x.2) (fun _ => .int (nI (fiF (lfO lc) (ceR g (I 3 5) c fr s k) fine))) (fun x => hp x.1 x.2 (uR R 21 1 o) dy) := by
  refine CC.of ok11_asks (Nat.le_of_ble_eq_true rfl) ?_
  obtain ⟨a0, a1, a2, a3, a4, a5, a6, a7, a8⟩ := id hC
  rw [fiO_F hT.2.2.2.2.2.2]
  cases hfo : fiO lc (ceR g (I 3 5) c fr s k) with
  | none =>
    refine g_iload_n d11_asks_0 rfl ?_
    refine g_ES1 sm11_isSlot ml11_181 (r11_isSlotI (xi := ((s : Nat) : Int)) (nI_ti (by omega)) (Nat.le_refl 0)) (by omega) (Nat.le_of_ble_eq_true rfl) d11_asks_1 ?_
    refine g_bz 29 d11_asks_4 rfl (fun c4 => absurd (by omega) c4) (fun _ => ?_)
    refine g_iload_n d11_asks_7 rfl ?_
    refine g_iconstv (nI 1) d11_asks_8 rfl ?_
    refine g_ic_lt ((k : Nat) : Int) (1) 29 (nI_ti (by omega)) (by decide) d11_asks_9 rfl (fun c9 => absurd c9 (by omega)) (fun _ => ?_)
    refine g_iload_n d11_asks_12 rfl ?_
    refine g_bipushv (nI 12) d11_asks_13 rfl ?_
    refine g_ic_gt ((k : Nat) : Int) (12) 29 (nI_ti (by omega)) (by decide) d11_asks_15 rfl (fun c15 => absurd c15 (by omega)) (fun _ => ?_)
    refine g_iload d11_asks_18 rfl ?_
    refine g_iz_lt (1) 29 (by decide) d11_asks_20 rfl (fun c20 => absurd c20 (by decide)) (fun _ => ?_)
    refine g_iload d11_asks_23 rfl ?_
    refine g_iconstv (nI 2) d11_asks_25 rfl ?_
    refine g_ic_le (1) (2) 31 (by decide) (by decide) d11_asks_26 rfl (fun _ => ?_) (fun c26 => absurd c26 (by decide))
    refine g_aload_n d11_asks_31 rfl ?_
    refine g_get fl11_43 d11_asks_32 f_0_5 ?_
    refine g_aload_n d11_asks_35 rfl ?_
    refine g_get fl11_10 d11_asks_36 f_0_0 ?_
    refine g_aload_n d11_asks_39 rfl ?_
    refine g_get fl11_10 d11_asks_40 f_0_0 ?_
    refine g_get fl11_178 d11_asks_43 f_1_5 ?_
    refine g_aload_n d11_asks_46 rfl ?_
    refine g_get fl11_10 d11_asks_47 f_0_0 ?_
    refine g_get fl11_142 d11_asks_50 f_1_2 ?_
    refine g_iconstv (nI 5) d11_asks_53 rfl ?_
    refine g_ialdN (5) d11_asks_54 a_3 (rfl) (by omega) (by decide) ?_
    refine g_VV3 vm10_serve ml11_184 c_21 (r10_serve (I 1 5) o lc hO (I 3 5) (Nat.le_refl 1)) (by omega) (Nat.le_of_ble_eq_true rfl) d11_asks_55 ?_
    refine g_iload d11_asks_58 rfl ?_
    refine g_iz_ne (1) 73 (by decide) d11_asks_60 rfl (fun _ => ?_) (fun c60 => absurd c60 (by decide))
    refine g_aload_n d11_asks_73 rfl ?_
    refine g_get fl11_10 d11_asks_74 f_0_0 ?_
    refine g_iload_n d11_asks_77 rfl ?_
    refine g_EV1 vm6_hasCar ml11_125 c_1 (r6_hasCarI (xi := ((c : Nat) : Int)) n (by exact hn) hn6 (nI_ti (by omega)) (Nat.le_refl 0)) (by omega) (Nat.le_of_ble_eq_true rfl) d11_asks_78 ?_
    refine g_bz 110 d11_asks_81 rfl (fun c81 => absurd (by omega) c81) (fun _ => ?_)
    refine g_iload_n d11_asks_84 rfl ?_
    refine g_aload_n d11_asks_85 rfl ?_
    refine g_get fl11_10 d11_asks_86 f_0_0 ?_
    refine g_iload_n d11_asks_89 rfl ?_
    refine g_iconstv (nI 0) d11_asks_90 rfl ?_
    refine g_EV2 vm6_factOf ml11_129 c_1 (r6_factOf (c) (0) (by omega) (by omega) (Nat.le_refl 0)) (by omega) (Nat.le_of_ble_eq_true rfl) d11_asks_91 ?_
    refine g_topI (nI (fr)) (by exact a1) ?_
    refine g_ic_lt ((s : Nat) : Int) ((fr : Nat) : Int) 110 (nI_ti (by omega)) (nI_ti (by omega)) d11_asks_94 rfl (fun c94 => absurd c94 (by omega)) (fun _ => ?_)
    refine g_iload_n d11_asks_97 rfl ?_
    refine g_aload_n d11_asks_98 rfl ?_
    refine g_get fl11_10 d11_asks_99 f_0_0 ?_
    refine g_iload_n d11_asks_102 rfl ?_
    refine g_iconstv (nI 1) d11_asks_103 rfl ?_
    refine g_EV2 vm6_factOf ml11_129 c_1 (r6_factOf (c) (1) (by omega) (by omega) (Nat.le_refl 0)) (by omega) (Nat.le_of_ble_eq_true rfl) d11_asks_104 ?_
    refine g_topI (nI (ti)) (by exact a2) ?_
    refine g_ic_le ((s : Nat) : Int) ((ti : Nat) : Int) 112 (nI_ti (by omega)) (nI_ti (by omega)) d11_asks_107 rfl (fun _ => ?_) (fun c107 => absurd c107 (by omega))
    refine g_aload_n d11_asks_112 rfl ?_
    refine g_get fl11_50 d11_asks_113 f_0_6 ?_
    refine g_aload_n d11_asks_116 rfl ?_
    refine g_get fl11_10 d11_asks_117 f_0_0 ?_
    refine g_iload_n d11_asks_120 rfl ?_
    refine g_VV2 vm7_take ml11_191 c_28 (r7_take0 (I := sv I (I 3 5)) c a0 (Nat.le_refl 1)) (by omega) (Nat.le_of_ble_eq_true rfl) d11_asks_121 ?_
    have z1 : STA (stI8 (sv I (I 3 5)) c) c fr ti se fl coin per fine := stI8_st (hC.of rfl) (hT.of rfl)
    have w1 : WW (stI8 (sv I (I 3 5)) c) g (I 3 5) := (sv_ww hg).of (stI8_n (by decide))
    have f1 : FK [22, 23, 25, 26, 28, 30, 31, 36, 39, 40, 41, 51, 52] [22, 24, 27, 30, 32, 33, 34, 35, 37, 38, 39, 42, 43, 51, 53, 54] I L (stI8 (sv I (I 3 5)) c) L := (sv_fk (by decide)).tr (stI8_fk (by decide))
    refine g_iload d11_asks_124 rfl ?_
    refine g_iconstv (nI 1) d11_asks_126 rfl ?_
    refine g_ic_ne (1) (1) 164 (by decide) (by decide) d11_asks_127 rfl (fun c127 => absurd c127 (by decide)) (fun _ => ?_)
    refine g_aload_n d11_asks_130 rfl ?_
    refine g_get fl11_43 d11_asks_131 f_0_5 ?_
    refine g_iload_n d11_asks_134 rfl ?_
    refine g_iload_n d11_asks_135 rfl ?_
    refine g_aload_n d11_asks_136 rfl ?_
    refine g_get fl11_50 d11_asks_137 f_0_6 ?_
    refine g_XV3 vm10_finesTold ml11_195 c_21 (r10_told (I := stI8 (sv I (I 3 5)) c) (L := L) g (I 3 5) w1 lc hO.lw c fr ti se fl coin per fine z1 s k hs1 (by omega) (by omega) (Nat.le_refl 3)) (by omega) (Nat.le_of_ble_eq_true rfl) d11_asks_140 (fun x hx => ?_)
    rw [hfo]
    refine g_topI (-1) rfl ?_
    refine g_istore d11_asks_143 (by decide) ?_
    refine g_iload d11_asks_145 rfl ?_
    refine g_iconstv ((-1 : Int32)) d11_asks_147 rfl ?_
    refine g_ic_ne (-1) (-1) 161 (by decide) (by decide) d11_asks_148 rfl (fun c148 => absurd c148 (fun z => z rfl)) (fun _ => ?_)
    refine g_aload_n d11_asks_151 rfl ?_
    refine g_get fl11_50 d11_asks_152 f_0_6 ?_
    refine g_get fl11_199 d11_asks_155 f_28_7 ?_
    refine g_topI (nI (fine)) ((congrFun (hx.1.1 28 (by decide)) 7).trans z1.2.2.2.2.2.2.2.1) ?_
    refine g_goto 163 d11_asks_158 rfl ?_
    exact g_iret rfl d11_asks_163 (⟨x, f1.tr (hx.1.up (by decide) (by decide)), rfl, rfl⟩)
  | some t =>
    have ht9 := fiO_le hfo
    refine g_iload_n d11_asks_0 rfl ?_
    refine g_ES1 sm11_isSlot ml11_181 (r11_isSlotI (xi := ((s : Nat) : Int)) (nI_ti (by omega)) (Nat.le_refl 0)) (by omega) (Nat.le_of_ble_eq_true rfl) d11_asks_1 ?_
    refine g_bz 29 d11_asks_4 rfl (fun c4 => absurd (by omega) c4) (fun _ => ?_)
    refine g_iload_n d11_asks_7 rfl ?_
    refine g_iconstv (nI 1) d11_asks_8 rfl ?_
    refine g_ic_lt ((k : Nat) : Int) (1) 29 (nI_ti (by omega)) (by decide) d11_asks_9 rfl (fun c9 => absurd c9 (by omega)) (fun _ => ?_)
    refine g_iload_n d11_asks_12 rfl ?_
    refine g_bipushv (nI 12) d11_asks_13 rfl ?_
    refine g_ic_gt ((k : Nat) : Int) (12) 29 (nI_ti (by omega)) (by decide) d11_asks_15 rfl (fun c15 => absurd c15 (by omega)) (fun _ => ?_)
    refine g_iload d11_asks_18 rfl ?_
    refine g_iz_lt (1) 29 (by decide) d11_asks_20 rfl (fun c20 => absurd c20 (by decide)) (fun _ => ?_)
    refine g_iload d11_asks_23 rfl ?_
    refine g_iconstv (nI 2) d11_asks_25 rfl ?_
    refine g_ic_le (1) (2) 31 (by decide) (by decide) d11_asks_26 rfl (fun _ => ?_) (fun c26 => absurd c26 (by decide))
    refine g_aload_n d11_asks_31 rfl ?_
    refine g_get fl11_43 d11_asks_32 f_0_5 ?_
    refine g_aload_n d11_asks_35 rfl ?_
    refine g_get fl11_10 d11_asks_36 f_0_0 ?_
    refine g_aload_n d11_asks_39 rfl ?_
    refine g_get fl11_10 d11_asks_40 f_0_0 ?_
    refine g_get fl11_178 d11_asks_43 f_1_5 ?_
    refine g_aload_n d11_asks_46 rfl ?_
    refine g_get fl11_10 d11_asks_47 f_0_0 ?_
    refine g_get fl11_142 d11_asks_50 f_1_2 ?_
    refine g_iconstv (nI 5) d11_asks_53 rfl ?_
    refine g_ialdN (5) d11_asks_54 a_3 (rfl) (by omega) (by decide) ?_
    refine g_VV3 vm10_serve ml11_184 c_21 (r10_serve (I 1 5) o lc hO (I 3 5) (Nat.le_refl 1)) (by omega) (Nat.le_of_ble_eq_true rfl) d11_asks_55 ?_
    refine g_iload d11_asks_58 rfl ?_
    refine g_iz_ne (1) 73 (by decide) d11_asks_60 rfl (fun _ => ?_) (fun c60 => absurd c60 (by decide))
    refine g_aload_n d11_asks_73 rfl ?_
    refine g_get fl11_10 d11_asks_74 f_0_0 ?_
    refine g_iload_n d11_asks_77 rfl ?_
    refine g_EV1 vm6_hasCar ml11_125 c_1 (r6_hasCarI (xi := ((c : Nat) : Int)) n (by exact hn) hn6 (nI_ti (by omega)) (Nat.le_refl 0)) (by omega) (Nat.le_of_ble_eq_true rfl) d11_asks_78 ?_
    refine g_bz 110 d11_asks_81 rfl (fun c81 => absurd (by omega) c81) (fun _ => ?_)
    refine g_iload_n d11_asks_84 rfl ?_
    refine g_aload_n d11_asks_85 rfl ?_
    refine g_get fl11_10 d11_asks_86 f_0_0 ?_
    refine g_iload_n d11_asks_89 rfl ?_
    refine g_iconstv (nI 0) d11_asks_90 rfl ?_
    refine g_EV2 vm6_factOf ml11_129 c_1 (r6_factOf (c) (0) (by omega) (by omega) (Nat.le_refl 0)) (by omega) (Nat.le_of_ble_eq_true rfl) d11_asks_91 ?_
    refine g_topI (nI (fr)) (by exact a1) ?_
    refine g_ic_lt ((s : Nat) : Int) ((fr : Nat) : Int) 110 (nI_ti (by omega)) (nI_ti (by omega)) d11_asks_94 rfl (fun c94 => absurd c94 (by omega)) (fun _ => ?_)
    refine g_iload_n d11_asks_97 rfl ?_
    refine g_aload_n d11_asks_98 rfl ?_
    refine g_get fl11_10 d11_asks_99 f_0_0 ?_
    refine g_iload_n d11_asks_102 rfl ?_
    refine g_iconstv (nI 1) d11_asks_103 rfl ?_
    refine g_EV2 vm6_factOf ml11_129 c_1 (r6_factOf (c) (1) (by omega) (by omega) (Nat.le_refl 0)) (by omega) (Nat.le_of_ble_eq_true rfl) d11_asks_104 ?_
    refine g_topI (nI (ti)) (by exact a2) ?_
    refine g_ic_le ((s : Nat) : Int) ((ti : Nat) : Int) 112 (nI_ti (by omega)) (nI_ti (by omega)) d11_asks_107 rfl (fun _ => ?_) (fun c107 => absurd c107 (by omega))
    refine g_aload_n d11_asks_112 rfl ?_
    refine g_get fl11_50 d11_asks_113 f_0_6 ?_
    refine g_aload_n d11_asks_116 rfl ?_
    refine g_get fl11_10 d11_asks_117 f_0_0 ?_
    refine g_iload_n d11_asks_120 rfl ?_
    refine g_VV2 vm7_take ml11_191 c_28 (r7_take0 (I := sv I (I 3 5)) c a0 (Nat.le_refl 1)) (by omega) (Nat.le_of_ble_eq_true rfl) d11_asks_121 ?_
    have z1 : STA (stI8 (sv I (I 3 5)) c) c fr ti se fl coin per fine := stI8_st (hC.of rfl) (hT.of rfl)
    have w1 : WW (stI8 (sv I (I 3 5)) c) g (I 3 5) := (sv_ww hg).of (stI8_n (by decide))
    have f1 : FK [22, 23, 25, 26, 28, 30, 31, 36, 39, 40, 41, 51, 52] [22, 24, 27, 30, 32, 33, 34, 35, 37, 38, 39, 42, 43, 51, 53, 54] I L (stI8 (sv I (I 3 5)) c) L := (sv_fk (by decide)).tr (stI8_fk (by decide))
    refine g_iload d11_asks_124 rfl ?_
    refine g_iconstv (nI 1) d11_asks_126 rfl ?_
    refine g_ic_ne (1) (1) 164 (by decide) (by decide) d11_asks_127 rfl (fun c127 => absurd c127 (by decide)) (fun _ => ?_)
    refine g_aload_n d11_asks_130 rfl ?_
    refine g_get fl11_43 d11_asks_131 f_0_5 ?_
    refine g_iload_n d11_asks_134 rfl ?_
    refine g_iload_n d11_asks_135 rfl ?_
    refine g_aload_n d11_asks_136 rfl ?_
    refine g_get fl11_50 d11_asks_137 f_0_6 ?_
    refine g_XV3 vm10_finesTold ml11_195 c_21 (r10_told (I := stI8 (sv I (I 3 5)) c) (L := L) g (I 3 5) w1 lc hO.lw c fr ti se fl coin per fine z1 s k hs1 (by omega) (by omega) (Nat.le_refl 3)) (by omega) (Nat.le_of_ble_eq_true rfl) d11_asks_140 (fun x hx => ?_)
    rw [hfo]
    refine g_topI (nI t) rfl ?_
    refine g_istore d11_asks_143 (by decide) ?_
    refine g_iload d11_asks_145 rfl ?_
    refine g_iconstv ((-1 : Int32)) d11_asks_147 rfl ?_
    refine g_ic_ne ((t : Nat) : Int) (-1) 161 (nI_ti (by omega)) (by decide) d11_asks_148 rfl (fun _ => ?_) (fun c148 => absurd c148 (by omega))
    refine g_iload d11_asks_161 rfl ?_
    exact g_iret rfl d11_asks_163 (⟨x, f1.tr (hx.1.up (by decide) (by decide)), rfl, rfl⟩)
set_option maxHeartbeats 400000 in
theorem r11_asks_2 {l : Launch} {K : cK} {d : Nat} {I : wI} {L : wL} {R : wR} {dy : cH} (g : Nat → Int32) (hg : g 9 = I 3 3 ∧ g 13 = I 3 7) (o : Option Nat) (lc : Option (List Cl)) (hO : CLF I R dy (I 1 5) o lc) (s k : Nat) (hs : s < 12) (hk1 : 1 ≤ k) (hk2 : k ≤ 12) (n : Nat) (hn : I 1 0 = nI n) (hn6 : n ≤ 6) (c fr ti se fl coin per fine : Nat) (hC : CC1 I c fr ti se fl) (hT : CT I coin per fine) (hcn : c < n) (hs1 : fr ≤ s) (hs2 : s ≤ ti) (hd : 4 ≤ d) : CX l K m11_asks d [.ref 0, .int (nI s), .int (nI k), .int (nI c), .int (nI 2)] (hp I L R dy) (α := wI × wL) (fun x => FK [22, 23, 25, 26, 28, 30, 31, 36, 39, 40, 41, 51, 52] [22, 24, 27, 30, 32, 33, 34, 35, 37, 38, 39, 42, 43, 51, 53, 54] I L x.1 x.2) (fun _ => .int (if spB (lfO lc) (ceR g (I 3 5) c fr s k) = true then 1 else 0)) (fun x => hp x.1 x.2 (uR R 21 1 o) dy) := by
  refine CC.of ok11_asks (Nat.le_of_ble_eq_true rfl) ?_
  obtain ⟨a0, a1, a2, a3, a4, a5, a6, a7, a8⟩ := id hC
  refine g_iload_n d11_asks_0 rfl ?_
  refine g_ES1 sm11_isSlot ml11_181 (r11_isSlotI (xi := ((s : Nat) : Int)) (nI_ti (by omega)) (Nat.le_refl 0)) (by omega) (Nat.le_of_ble_eq_true rfl) d11_asks_1 ?_
  refine g_bz 29 d11_asks_4 rfl (fun c4 => absurd (by omega) c4) (fun _ => ?_)
  refine g_iload_n d11_asks_7 rfl ?_
  refine g_iconstv (nI 1) d11_asks_8 rfl ?_
  refine g_ic_lt ((k : Nat) : Int) (1) 29 (nI_ti (by omega)) (by decide) d11_asks_9 rfl (fun c9 => absurd c9 (by omega)) (fun _ => ?_)
  refine g_iload_n d11_asks_12 rfl ?_
  refine g_bipushv (nI 12) d11_asks_13 rfl ?_
  refine g_ic_gt ((k : Nat) : Int) (12) 29 (nI_ti (by omega)) (by decide) d11_asks_15 rfl (fun c15 => absurd c15 (by omega)) (fun _ => ?_)
  refine g_iload d11_asks_18 rfl ?_
  refine g_iz_lt (2) 29 (by decide) d11_asks_20 rfl (fun c20 => absurd c20 (by decide)) (fun _ => ?_)
  refine g_iload d11_asks_23 rfl ?_
  refine g_iconstv (nI 2) d11_asks_25 rfl ?_
  refine g_ic_le (2) (2) 31 (by decide) (by decide) d11_asks_26 rfl (fun _ => ?_) (fun c26 => absurd c26 (by decide))
  refine g_aload_n d11_asks_31 rfl ?_
  refine g_get fl11_43 d11_asks_32 f_0_5 ?_
  refine g_aload_n d11_asks_35 rfl ?_
  refine g_get fl11_10 d11_asks_36 f_0_0 ?_
  refine g_aload_n d11_asks_39 rfl ?_
  refine g_get fl11_10 d11_asks_40 f_0_0 ?_
  refine g_get fl11_178 d11_asks_43 f_1_5 ?_
  refine g_aload_n d11_asks_46 rfl ?_
  refine g_get fl11_10 d11_asks_47 f_0_0 ?_
  refine g_get fl11_142 d11_asks_50 f_1_2 ?_
  refine g_iconstv (nI 5) d11_asks_53 rfl ?_
  refine g_ialdN (5) d11_asks_54 a_3 (rfl) (by omega) (by decide) ?_
  refine g_VV3 vm10_serve ml11_184 c_21 (r10_serve (I 1 5) o lc hO (I 3 5) (Nat.le_refl 1)) (by omega) (Nat.le_of_ble_eq_true rfl) d11_asks_55 ?_
  refine g_iload d11_asks_58 rfl ?_
  refine g_iz_ne (2) 73 (by decide) d11_asks_60 rfl (fun _ => ?_) (fun c60 => absurd c60 (by decide))
  refine g_aload_n d11_asks_73 rfl ?_
  refine g_get fl11_10 d11_asks_74 f_0_0 ?_
  refine g_iload_n d11_asks_77 rfl ?_
  refine g_EV1 vm6_hasCar ml11_125 c_1 (r6_hasCarI (xi := ((c : Nat) : Int)) n (by exact hn) hn6 (nI_ti (by omega)) (Nat.le_refl 0)) (by omega) (Nat.le_of_ble_eq_true rfl) d11_asks_78 ?_
  refine g_bz 110 d11_asks_81 rfl (fun c81 => absurd (by omega) c81) (fun _ => ?_)
  refine g_iload_n d11_asks_84 rfl ?_
  refine g_aload_n d11_asks_85 rfl ?_
  refine g_get fl11_10 d11_asks_86 f_0_0 ?_
  refine g_iload_n d11_asks_89 rfl ?_
  refine g_iconstv (nI 0) d11_asks_90 rfl ?_
  refine g_EV2 vm6_factOf ml11_129 c_1 (r6_factOf (c) (0) (by omega) (by omega) (Nat.le_refl 0)) (by omega) (Nat.le_of_ble_eq_true rfl) d11_asks_91 ?_
  refine g_topI (nI (fr)) (by exact a1) ?_
  refine g_ic_lt ((s : Nat) : Int) ((fr : Nat) : Int) 110 (nI_ti (by omega)) (nI_ti (by omega)) d11_asks_94 rfl (fun c94 => absurd c94 (by omega)) (fun _ => ?_)
  refine g_iload_n d11_asks_97 rfl ?_
  refine g_aload_n d11_asks_98 rfl ?_
  refine g_get fl11_10 d11_asks_99 f_0_0 ?_
  refine g_iload_n d11_asks_102 rfl ?_
  refine g_iconstv (nI 1) d11_asks_103 rfl ?_
  refine g_EV2 vm6_factOf ml11_129 c_1 (r6_factOf (c) (1) (by omega) (by omega) (Nat.le_refl 0)) (by omega) (Nat.le_of_ble_eq_true rfl) d11_asks_104 ?_
  refine g_topI (nI (ti)) (by exact a2) ?_
  refine g_ic_le ((s : Nat) : Int) ((ti : Nat) : Int) 112 (nI_ti (by omega)) (nI_ti (by omega)) d11_asks_107 rfl (fun _ => ?_) (fun c107 => absurd c107 (by omega))
  refine g_aload_n d11_asks_112 rfl ?_
  refine g_get fl11_50 d11_asks_113 f_0_6 ?_
  refine g_aload_n d11_asks_116 rfl ?_
  refine g_get fl11_10 d11_asks_117 f_0_0 ?_
  refine g_iload_n d11_asks_120 rfl ?_
  refine g_VV2 vm7_take ml11_191 c_28 (r7_take0 (I := sv I (I 3 5)) c a0 (Nat.le_refl 1)) (by omega) (Nat.le_of_ble_eq_true rfl) d11_asks_121 ?_
  have z1 : STA (stI8 (sv I (I 3 5)) c) c fr ti se fl coin per fine := stI8_st (hC.of rfl) (hT.of rfl)
  have w1 : WW (stI8 (sv I (I 3 5)) c) g (I 3 5) := (sv_ww hg).of (stI8_n (by decide))
  have f1 : FK [22, 23, 25, 26, 28, 30, 31, 36, 39, 40, 41, 51, 52] [22, 24, 27, 30, 32, 33, 34, 35, 37, 38, 39, 42, 43, 51, 53, 54] I L (stI8 (sv I (I 3 5)) c) L := (sv_fk (by decide)).tr (stI8_fk (by decide))
  refine g_iload d11_asks_124 rfl ?_
  refine g_iconstv (nI 1) d11_asks_126 rfl ?_
  refine g_ic_ne (2) (1) 164 (by decide) (by decide) d11_asks_127 rfl (fun _ => ?_) (fun c127 => absurd c127 (by decide))
  refine g_aload_n d11_asks_164 rfl ?_
  refine g_get fl11_43 d11_asks_165 f_0_5 ?_
  refine g_iload_n d11_asks_168 rfl ?_
  refine g_iload_n d11_asks_169 rfl ?_
  refine g_aload_n d11_asks_170 rfl ?_
  refine g_get fl11_50 d11_asks_171 f_0_6 ?_
  refine g_XV3 vm10_sparesCar ml11_202 c_21 (r10_spares (I := stI8 (sv I (I 3 5)) c) (L := L) g (I 3 5) w1 lc hO.lw c fr ti se fl coin per fine z1 s k hs1 (by omega) (by omega) (Nat.le_refl 3)) (by omega) (Nat.le_of_ble_eq_true rfl) d11_asks_174 (fun x hx => ?_)
  refine g_bz 184 d11_asks_177 rfl (fun c177 => ?_) (fun c177 => ?_)
  · have c177 : ¬ spB (lfO lc) (ceR g (I 3 5) c fr s k) = true := c177
    rw [if_neg c177]
    refine g_iconstv (nI 0) d11_asks_184 rfl ?_
    exact g_iret rfl d11_asks_185 (⟨x, f1.tr (hx.1.up (by decide) (by decide)), rfl, rfl⟩)
  · have c177 : spB (lfO lc) (ceR g (I 3 5) c fr s k) = true := c177
    rw [if_pos c177]
    refine g_iconstv (nI 1) d11_asks_180 rfl ?_
    refine g_goto 185 d11_asks_181 rfl ?_
    exact g_iret rfl d11_asks_185 (⟨x, f1.tr (hx.1.up (by decide) (by decide)), rfl, rfl⟩)
