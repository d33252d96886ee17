set_option maxHeartbeats 1000000 in
theorem r3_leL {l : Launch} {K : cK} {d : Nat} {I : wI} {L : wL} {R : wR} {dy : cH} (g : Nat → Int32) (wa : Int32) (lc : Option (List Cl)) (hL : LWc dy (R 21 1) lc) (c fr ti se fl coin per fine : Nat) (cm fn : Nat → Nat → Nat) (hcm : cm = cmR g wa (lfO lc)) (hfn : fn = fnR g wa (lfO lc) c fr fine) (s : Nat) (hs1 : fr ≤ s) (hs2 : s ≤ ti) (hd : 4 ≤ d) :
    ∀ (n k : Nat) (I2 : wI) (L2 : wL), k + n = 12 → (FK [22, 23, 40, 41] [22, 24] I L I2 L2 ∧ WW I2 g wa ∧ STA I2 c fr ti se fl coin per fine ∧ ∀ k2, 1 ≤ k2 → k2 ≤ k → I2 40 k2 = nI (cm s k2) ∧ I2 41 k2 = nI (fnK cm fn s k2)) → GL l K m3_learn d 0 0 2 [(0, .ref 39), (1, .int (nI s)), (2, .int (nI (k + 1)))] [] (hp I2 L2 R dy) (fun r h => ∃ x : wI × wL, (FK [22, 23, 40, 41] [22, 24] I L x.1 x.2 ∧ WW x.1 g wa ∧ STA x.1 c fr ti se fl coin per fine ∧ ∀ k2, 1 ≤ k2 → k2 ≤ 12 → x.1 40 k2 = nI (cm s k2) ∧ x.1 41 k2 = nI (fnK cm fn s k2)) ∧ r = none ∧ h = hp x.1 x.2 R dy) := by
  have hcm9 : ∀ s k, cm s k ≤ 10 := fun s k => by rw [hcm]; exact cmR_le g wa (lfO lc) s k
  intro n
  induction n with
  | zero =>
    intro k I2 L2 hk hI
    obtain rfl : k = 12 := by omega
    refine g_iload_n d3_learn_2 rfl ?_
    refine g_bipushv (nI 12) d3_learn_3 rfl ?_
    refine g_ic_gt (13) (12) 61 (by decide) (by decide) d3_learn_5 rfl (fun _ => ?_) (fun c5 => absurd c5 (by decide))
    exact g_vret rfl d3_learn_61 (⟨(I2, L2), hI, rfl, rfl⟩)
  | succ n ih =>
    intro k I2 L2 hk hI
    obtain ⟨i1, i2, i3, i4⟩ := hI
    obtain ⟨u0, u1, u2, u3, u4, u5, u6, u7, u8, u9, u10, u11, u12, u13, u14, u15⟩ := id i3
    have hc9 := hcm9 s (k + 1)
    by_cases h0 : cm s (k + 1) = 0
    · have e0 : fnK cm fn s (k + 1) = 0 := if_pos h0
      refine g_iload_n d3_learn_2 rfl ?_
      refine g_bipushv (nI 12) d3_learn_3 rfl ?_
      refine g_ic_gt (((k + 1) : Nat) : Int) (12) 61 (nI_ti (by omega)) (by decide) d3_learn_5 rfl (fun c5 => absurd c5 (by omega)) (fun _ => ?_)
      refine g_aload_n d3_learn_8 rfl ?_
      refine g_get fl3_9 d3_learn_9 f_39_2 ?_
      refine g_iload_n d3_learn_12 rfl ?_
      refine g_aload_n d3_learn_13 rfl ?_
      refine g_get fl3_25 d3_learn_14 f_39_0 ?_
      refine g_iload_n d3_learn_17 rfl ?_
      refine g_iload_n d3_learn_18 rfl ?_
      refine g_XV2 vm10_comesOfTen ml3_81 c_21 (r10_comes (I := I2) (L := L2) g wa i2 lc hL s (k + 1) (by omega) (by omega) (Nat.le_refl 3)) (by omega) (Nat.le_of_ble_eq_true rfl) d3_learn_19 (fun x hx => ?_)
      obtain ⟨I4, L4⟩ := x
      obtain ⟨f1, w1⟩ := hx
      dsimp only at f1 w1 ⊢
      rw [← hcm]
      have g40 : I4 40 = I2 40 := f1.1 40 (by decide)
      have g41 : I4 41 = I2 41 := f1.1 41 (by decide)
      have z4 : STA I4 c fr ti se fl coin per fine := i3.of (f1.1 28 (by decide))
      have F4 : FK [22, 23, 40, 41] [22, 24] I L I4 L4 := i1.tr (f1.up (by decide) (by decide))
      refine g_iastN ((k + 1)) _ d3_learn_22 a_40 (rfl) (by omega) (by decide) t_40 ?_
      refine g_aload_n d3_learn_23 rfl ?_
      refine g_get fl3_15 d3_learn_24 f_39_3 ?_
      refine g_iload_n d3_learn_27 rfl ?_
      refine g_aload_n d3_learn_28 rfl ?_
      refine g_get fl3_9 d3_learn_29 f_39_2 ?_
      refine g_iload_n d3_learn_32 rfl ?_
      refine g_ialdN ((k + 1)) d3_learn_33 a_40 (rfl) (by omega) (by decide) ?_
      refine g_topI (nI ((cm s (k + 1)))) (uI_ss) ?_
      refine g_iz_ne (((cm s (k + 1)) : Nat) : Int) 41 (nI_ti (by omega)) d3_learn_34 rfl (fun c34 => absurd c34 (by omega)) (fun _ => ?_)
      refine g_iconstv (nI 0) d3_learn_37 rfl ?_
      refine g_goto 54 d3_learn_38 rfl ?_
      refine g_iastN ((k + 1)) _ d3_learn_54 a_41 (rfl) (by omega) (by decide) t_41 ?_
      refine g_iincN d3_learn_55 rfl (by decide) ?_
      refine g_goto 2 d3_learn_58 rfl ?_
      refine g_lo [(0, .ref 39), (1, .int (nI s)), (2, .int (nI (k + 1 + 1)))] ⟨rfl, rfl, rfl, trivial⟩ ?_
      refine ih (k + 1) _ L4 (by omega) ⟨(F4.ui (by decide)).ui (by decide), w1.of (by rw [uI_n (by decide), uI_n (by decide)]), z4.of (by rw [uI_n (by decide), uI_n (by decide)]), fun k2 a b => ?_⟩
      rw [uI_n (by decide)]
      by_cases e : k2 = k + 1
      · subst e; rw [uI_ss, uI_ss, e0]; exact ⟨rfl, rfl⟩
      · rw [uI_sn e, uI_sn e, uI_n (by decide), g40, g41]; exact i4 k2 a (by omega)
    · have e0 : fnK cm fn s (k + 1) = fn s (k + 1) := if_neg h0
      refine g_iload_n d3_learn_2 rfl ?_
      refine g_bipushv (nI 12) d3_learn_3 rfl ?_
      refine g_ic_gt (((k + 1) : Nat) : Int) (12) 61 (nI_ti (by omega)) (by decide) d3_learn_5 rfl (fun c5 => absurd c5 (by omega)) (fun _ => ?_)
      refine g_aload_n d3_learn_8 rfl ?_
      refine g_get fl3_9 d3_learn_9 f_39_2 ?_
      refine g_iload_n d3_learn_12 rfl ?_
      refine g_aload_n d3_learn_13 rfl ?_
      refine g_get fl3_25 d3_learn_14 f_39_0 ?_
      refine g_iload_n d3_learn_17 rfl ?_
      refine g_iload_n d3_learn_18 rfl ?_
      refine g_XV2 vm10_comesOfTen ml3_81 c_21 (r10_comes (I := I2) (L := L2) g wa i2 lc hL s (k + 1) (by omega) (by omega) (Nat.le_refl 3)) (by omega) (Nat.le_of_ble_eq_true rfl) d3_learn_19 (fun x hx => ?_)
      obtain ⟨I4, L4⟩ := x
      obtain ⟨f1, w1⟩ := hx
      dsimp only at f1 w1 ⊢
      rw [← hcm]
      have g40 : I4 40 = I2 40 := f1.1 40 (by decide)
      have g41 : I4 41 = I2 41 := f1.1 41 (by decide)
      have z4 : STA I4 c fr ti se fl coin per fine := i3.of (f1.1 28 (by decide))
      have F4 : FK [22, 23, 40, 41] [22, 24] I L I4 L4 := i1.tr (f1.up (by decide) (by decide))
      refine g_iastN ((k + 1)) _ d3_learn_22 a_40 (rfl) (by omega) (by decide) t_40 ?_
      refine g_aload_n d3_learn_23 rfl ?_
      refine g_get fl3_15 d3_learn_24 f_39_3 ?_
      refine g_iload_n d3_learn_27 rfl ?_
      refine g_aload_n d3_learn_28 rfl ?_
      refine g_get fl3_9 d3_learn_29 f_39_2 ?_
      refine g_iload_n d3_learn_32 rfl ?_
      refine g_ialdN ((k + 1)) d3_learn_33 a_40 (rfl) (by omega) (by decide) ?_
      refine g_topI (nI ((cm s (k + 1)))) (uI_ss) ?_
      refine g_iz_ne (((cm s (k + 1)) : Nat) : Int) 41 (nI_ti (by omega)) d3_learn_34 rfl (fun _ => ?_) (fun c34 => absurd c34 (by omega))
      refine g_aload_n d3_learn_41 rfl ?_
      refine g_get fl3_25 d3_learn_42 f_39_0 ?_
      refine g_iload_n d3_learn_45 rfl ?_
      refine g_iload_n d3_learn_46 rfl ?_
      refine g_aload_n d3_learn_47 rfl ?_
      refine g_get fl3_29 d3_learn_48 f_39_1 ?_
      refine g_XV3 vm10_finesOf ml3_85 c_21 (r10_finesOf (I := uI I4 40 (k + 1) (nI (cm s (k + 1)))) (L := L4) g wa (w1.of (uI_n (by decide))) lc hL c fr ti se fl coin per fine (z4.of (uI_n (by decide))) s (k + 1) hs1 (by omega) (by omega) (Nat.le_refl 3)) (by omega) (Nat.le_of_ble_eq_true rfl) d3_learn_51 (fun y hy => ?_)
      obtain ⟨I5, L5⟩ := y
      obtain ⟨f2, w2⟩ := hy
      dsimp only at f2 w2 ⊢
      rw [← hfn]
      have F5 : FK [22, 23, 40, 41] [22, 24] I L I5 L5 := (F4.ui (by decide)).tr (f2.up (by decide) (by decide))
      have z5 : STA I5 c fr ti se fl coin per fine := z4.of ((f2.1 28 (by decide)).trans (uI_n (by decide)))
      refine g_iastN ((k + 1)) _ d3_learn_54 a_41 (rfl) (by omega) (by decide) t_41 ?_
      refine g_iincN d3_learn_55 rfl (by decide) ?_
      refine g_goto 2 d3_learn_58 rfl ?_
      refine g_lo [(0, .ref 39), (1, .int (nI s)), (2, .int (nI (k + 1 + 1)))] ⟨rfl, rfl, rfl, trivial⟩ ?_
      refine ih (k + 1) _ L5 (by omega) ⟨F5.ui (by decide), w2.of (uI_n (by decide)), z5.of (uI_n (by decide)), fun k2 a b => ?_⟩
      rw [uI_n (by decide), f2.1 40 (by decide)]
      by_cases e : k2 = k + 1
      · subst e; rw [uI_ss, uI_ss, e0]; exact ⟨rfl, rfl⟩
      · rw [uI_sn e, uI_sn e, f2.1 41 (by decide), uI_n (by decide), g40, g41]; exact i4 k2 a (by omega)
set_option maxHeartbeats 200000 in
theorem r3_learn {l : Launch} {K : cK} {d : Nat} {I : wI} {L : wL} {R : wR} {dy : cH} (g : Nat → Int32) (wa : Int32) (hw : WW I g wa) (lc : Option (List Cl)) (hL : LWc dy (R 21 1) lc) (c fr ti se fl coin per fine : Nat) (hS : STA I c fr ti se fl coin per fine) (cm fn : Nat → Nat → Nat) (hcm : cm = cmR g wa (lfO lc)) (hfn : fn = fnR g wa (lfO lc) c fr fine) (s : Nat) (hs1 : fr ≤ s) (hs2 : s ≤ ti) (hd : 4 ≤ d) : CW l K m3_learn d [.ref 39, .int (nI s)] (hp I L R dy) (α := wI × wL) (fun x => (FK [22, 23, 40, 41] [22, 24] I L x.1 x.2 ∧ WW x.1 g wa ∧ STA x.1 c fr ti se fl coin per fine ∧ ∀ k2, 1 ≤ k2 → k2 ≤ 12 → x.1 40 k2 = nI (cm s k2) ∧ x.1 41 k2 = nI (fnK cm fn s k2))) (fun x => hp x.1 x.2 R dy) := by
  refine CC.of ok3_learn (Nat.le_of_ble_eq_true rfl) ?_
  refine g_iconstv (nI 1) d3_learn_0 rfl ?_
  refine g_istore_n d3_learn_1 (by decide) ?_
  refine g_lo [(0, .ref 39), (1, .int (nI s)), (2, .int (nI (0 + 1)))] ⟨rfl, rfl, rfl, trivial⟩ ?_
  exact r3_leL (I := I) (L := L) g wa lc hL c fr ti se fl coin per fine cm fn hcm hfn s hs1 hs2 hd 12 0 I L (by omega) ⟨FK.rf, hw, hS, fun k2 a b => by omega⟩
set_option maxHeartbeats 1000000 in
theorem r3_rb1 {l : Launch} {K : cK} {d : Nat} {I : wI} {L : wL} {R : wR} {dy : cH} {Q : Option Value → cH → Prop} (g : Nat → Int32) (wa : Int32) (lc : Option (List Cl)) (hL : LWc dy (R 21 1) lc) (c fr ti se fl coin per fine : Nat) (cm fn : Nat → Nat → Nat) (hcm : cm = cmR g wa (lfO lc)) (hfn : fn = fnR g wa (lfO lc) c fr fine) (wn : Bool) (hp1 : 1 ≤ per) (hc1 : 1 ≤ coin) (fst s m : Nat) (hf1 : fr ≤ fst) (hms : s + m = ti) (hfs : fst < s) (hd : 4 ≤ d)
    (kk : ∀ (I3 : wI) (L3 : wL), (FK [22, 23, 39, 40, 41] [22, 24, 42, 43] I L I3 L3 ∧ WW I3 g wa ∧ STA I3 c fr ti se fl coin per fine ∧ I3 39 6 = (if wn = true then 1 else 0)) ∧ (∀ q, 13 ≤ q → q < 169 → L3 42 q = lN (10 ^ (11 - ti) * (rD coin per fr ti fl wn cm (fnK cm fn) nSb (m + 1) (q / 13) (q % 13)))) → GL l K m3_reckonBehind d 0 0 61 [(0, .ref 39), (1, .int (nI fst)), (2, .int (nI s))] [] (hp I3 L3 R dy) Q) :
    ∀ (n q : Nat) (I2 : wI) (L2 : wL), q + n = 169 → 13 ≤ q → (FK [22, 23, 39, 40, 41] [22, 24, 42, 43] I L I2 L2 ∧ WW I2 g wa ∧ STA I2 c fr ti se fl coin per fine ∧ I2 39 6 = (if wn = true then 1 else 0)) ∧ (∀ k2, 1 ≤ k2 → k2 ≤ 12 → I2 40 k2 = nI (cm s k2) ∧ I2 41 k2 = nI (fnK cm fn s k2)) ∧ (∀ j q, 1 ≤ j → j ≤ 12 → q ≤ 12 → L2 43 (13 * j + q) = lN (10 ^ (11 - ti) * (rD coin per fr ti fl wn cm (fnK cm fn) nSb m j q))) ∧ (∀ r, 13 ≤ r → r < q → L2 42 r = lN (10 ^ (11 - ti) * (rD coin per fr ti fl wn cm (fnK cm fn) nSb (m + 1) (r / 13) (r % 13)))) → GL l K m3_reckonBehind d 0 0 29 [(0, .ref 39), (1, .int (nI fst)), (2, .int (nI s)), (3, .int (nI q))] [] (hp I2 L2 R dy) Q := by
  have hcm9 : ∀ s k, cm s k ≤ 10 := fun s k => by rw [hcm]; exact cmR_le g wa (lfO lc) s k
  intro n
  induction n with
  | zero =>
    intro q I2 L2 hq hq1 hI
    obtain rfl : q = 169 := by omega
    obtain ⟨⟨i1, i2, i3, i4⟩, i5, i6, i7⟩ := hI
    refine g_iload_n d3_reckonBehind_29 rfl ?_
    refine g_sipushv (nI 169) d3_reckonBehind_30 rfl ?_
    refine g_ic_ge (169) (169) 61 (by decide) (by decide) d3_reckonBehind_33 rfl (fun _ => ?_) (fun c33 => absurd c33 (by decide))
    refine g_lo [(0, .ref 39), (1, .int (nI fst)), (2, .int (nI s))] ⟨rfl, rfl, rfl, trivial⟩ ?_
    exact kk I2 L2 ⟨⟨i1, i2, i3, i4⟩, i7⟩
  | succ n ih =>
    intro q I2 L2 hq hq1 hI
    obtain ⟨⟨i1, i2, i3, i4⟩, i5, i6, i7⟩ := hI
    obtain ⟨u0, u1, u2, u3, u4, u5, u6, u7, u8, u9, u10, u11, u12, u13, u14, u15⟩ := id i3
    have hfn9 : ∀ s k, fn s k ≤ 99 := fun s k => by rw [hfn]; exact fnR_le g wa (lfO lc) c fr s k u15
    obtain ⟨l1, l2⟩ := i5 (q / 13) (by omega) (by omega)
    refine g_iload_n d3_reckonBehind_29 rfl ?_
    refine g_sipushv (nI 169) d3_reckonBehind_30 rfl ?_
    refine g_ic_ge ((q : Nat) : Int) (169) 61 (nI_ti (by omega)) (by decide) d3_reckonBehind_33 rfl (fun c33 => absurd c33 (by omega)) (fun _ => ?_)
    refine g_aload_n d3_reckonBehind_36 rfl ?_
    refine g_get fl3_18 d3_reckonBehind_37 f_39_4 ?_
    refine g_iload_n d3_reckonBehind_40 rfl ?_
    refine g_aload_n d3_reckonBehind_41 rfl ?_
    refine g_iload_n d3_reckonBehind_42 rfl ?_
    refine g_iload_n d3_reckonBehind_43 rfl ?_
    refine g_bipushv (nI 13) d3_reckonBehind_44 rfl ?_
    refine g_idiv d3_reckonBehind_46 (by decide) ?_
    refine g_topI (nI (q / 13)) (pk_div (d := 13) (by omega) (by omega) (by omega)) ?_
    refine g_iload_n d3_reckonBehind_47 rfl ?_
    refine g_bipushv (nI 13) d3_reckonBehind_48 rfl ?_
    refine g_irem d3_reckonBehind_50 (by decide) ?_
    refine g_topI (nI (q % 13)) (pk_rem (d := 13) (by omega) (by omega) (by omega)) ?_
    refine g_EV3 vm3_choose ml3_56 c_39 (r3_choose (I := I2) (L := L2) c fr ti se fl coin per fine i3 hp1 hc1 wn i4 cm fn hcm9 hfn9 m s (q / 13) (q % 13) hms (by omega) (by omega) (by omega) (by omega) l1 l2 i6 (Nat.le_refl 3)) (by omega) (Nat.le_of_ble_eq_true rfl) d3_reckonBehind_51 ?_
    refine g_lastN (q) _ d3_reckonBehind_54 a_42 (rfl) (by omega) (by decide) t_42 ?_
    refine g_iincN d3_reckonBehind_55 rfl (by decide) ?_
    refine g_goto 29 d3_reckonBehind_58 rfl ?_
    refine g_lo [(0, .ref 39), (1, .int (nI fst)), (2, .int (nI s)), (3, .int (nI (q + 1)))] ⟨rfl, rfl, rfl, rfl, trivial⟩ ?_
    refine ih (q + 1) _ _ (by omega) (by omega) ⟨⟨(i1.ui (by decide)).ul (by decide), i2.of (uI_n (by decide)), i3.of (uI_n (by decide)), by rw [uI_sn (by decide)]; exact i4⟩, fun k2 a b => by rw [uI_n (by decide), uI_n (by decide)]; exact i5 k2 a b, fun j r a b c => by rw [uL_n (by decide)]; exact i6 j r a b c, fun r a b => ?_⟩
    by_cases e : r = q
    · subst e; exact uL_ss
    · rw [uL_sn e]; exact i7 r a (by omega)
set_option maxHeartbeats 1000000 in
theorem r3_rb2 {l : Launch} {K : cK} {d : Nat} {I : wI} {L : wL} {R : wR} {dy : cH} {Q : Option Value → cH → Prop} (g : Nat → Int32) (wa : Int32) (lc : Option (List Cl)) (hL : LWc dy (R 21 1) lc) (c fr ti se fl coin per fine : Nat) (cm fn : Nat → Nat → Nat) (hcm : cm = cmR g wa (lfO lc)) (hfn : fn = fnR g wa (lfO lc) c fr fine) (wn : Bool) (hp1 : 1 ≤ per) (hc1 : 1 ≤ coin) (fst : Nat) (hf1 : fr ≤ fst) (hf2 : fst ≤ ti) (hti : ti ≤ 11) (hd : 5 ≤ d)
    (kk : ∀ (I3 : wI) (L3 : wL), (FK [22, 23, 39, 40, 41] [22, 24, 42, 43] I L I3 L3 ∧ WW I3 g wa ∧ STA I3 c fr ti se fl coin per fine ∧ I3 39 6 = (if wn = true then 1 else 0)) ∧ (∀ j q, 1 ≤ j → j ≤ 12 → q ≤ 12 → L3 43 (13 * j + q) = lN (10 ^ (11 - ti) * (rD coin per fr ti fl wn cm (fnK cm fn) nSb (ti - fst) j q))) → GL l K m3_reckonBehind d 0 0 85 [(0, .ref 39), (1, .int (nI fst))] [] (hp I3 L3 R dy) Q) :
    ∀ (n m : Nat) (I2 : wI) (L2 : wL), m + n = ti - fst → (FK [22, 23, 39, 40, 41] [22, 24, 42, 43] I L I2 L2 ∧ WW I2 g wa ∧ STA I2 c fr ti se fl coin per fine ∧ I2 39 6 = (if wn = true then 1 else 0)) ∧ (∀ j q, 1 ≤ j → j ≤ 12 → q ≤ 12 → L2 43 (13 * j + q) = lN (10 ^ (11 - ti) * (rD coin per fr ti fl wn cm (fnK cm fn) nSb m j q))) → GL l K m3_reckonBehind d 0 0 16 [(0, .ref 39), (1, .int (nI fst)), (2, .int (nI (ti - m)))] [] (hp I2 L2 R dy) Q := by
  intro n
  induction n with
  | zero =>
    intro m I2 L2 hm hI
    obtain rfl : m = ti - fst := by omega
    refine g_iload_n d3_reckonBehind_16 rfl ?_
    refine g_iload_n d3_reckonBehind_17 rfl ?_
    refine g_ic_le (((ti - (ti - fst)) : Nat) : Int) ((fst : Nat) : Int) 85 (nI_ti (by omega)) (nI_ti (by omega)) d3_reckonBehind_18 rfl (fun _ => ?_) (fun c18 => absurd c18 (by omega))
    refine g_lo [(0, .ref 39), (1, .int (nI fst))] ⟨rfl, rfl, trivial⟩ ?_
    exact kk I2 L2 hI
  | succ n ih =>
    intro m I2 L2 hm hI
    obtain ⟨⟨i1, i2, i3, i4⟩, i6⟩ := hI
    obtain ⟨s, hs⟩ : ∃ s, s + m = ti := ⟨ti - m, by omega⟩
    rw [show ti - m = s by omega]
    refine g_iload_n d3_reckonBehind_16 rfl ?_
    refine g_iload_n d3_reckonBehind_17 rfl ?_
    refine g_ic_le ((s : Nat) : Int) ((fst : Nat) : Int) 85 (nI_ti (by omega)) (nI_ti (by omega)) d3_reckonBehind_18 rfl (fun c18 => absurd c18 (by omega)) (fun _ => ?_)
    refine g_aload_n d3_reckonBehind_21 rfl ?_
    refine g_iload_n d3_reckonBehind_22 rfl ?_
    refine g_WV1 vm3_learn ml3_72 c_39 (r3_learn (I := I2) (L := L2) g wa i2 lc hL c fr ti se fl coin per fine i3 cm fn hcm hfn s (by omega) (by omega) (Nat.le_refl 4)) (by omega) (Nat.le_of_ble_eq_true rfl) d3_reckonBehind_23 (fun x hx => ?_)
    obtain ⟨I4, L4⟩ := x
    obtain ⟨f1, w1, z1, l1⟩ := hx
    dsimp only at f1 w1 z1 l1 ⊢
    refine g_bipushv (nI 13) d3_reckonBehind_26 rfl ?_
    refine g_istore_n d3_reckonBehind_28 (by decide) ?_
    refine g_lo [(0, .ref 39), (1, .int (nI fst)), (2, .int (nI s)), (3, .int (nI 13))] ⟨rfl, rfl, rfl, rfl, trivial⟩ ?_
    refine r3_rb1 (I := I) (L := L) g wa lc hL c fr ti se fl coin per fine cm fn hcm hfn wn hp1 hc1 fst s m hf1 hs (by omega) (by omega) (fun I3 L3 hO => ?_) 156 13 I4 L4 (by omega) (Nat.le_refl _) ⟨⟨i1.tr (f1.up (by decide) (by decide)), w1, z1, by rw [f1.1 39 (by decide)]; exact i4⟩, l1, fun j q a b c => by rw [f1.2 43 (by decide)]; exact i6 j q a b c, fun q a b => by omega⟩
    obtain ⟨⟨o1, o2, o3, o4⟩, o5⟩ := hO
    refine g_aload_n d3_reckonBehind_61 rfl ?_
    refine g_get fl3_18 d3_reckonBehind_62 f_39_4 ?_
    refine g_iconstv (nI 0) d3_reckonBehind_65 rfl ?_
    refine g_aload_n d3_reckonBehind_66 rfl ?_
    refine g_get fl3_22 d3_reckonBehind_67 f_39_5 ?_
    refine g_iconstv (nI 0) d3_reckonBehind_70 rfl ?_
    refine g_aload_n d3_reckonBehind_71 rfl ?_
    refine g_get fl3_22 d3_reckonBehind_72 f_39_5 ?_
    refine g_alenL d3_reckonBehind_75 a_43 ?_
    refine g_cpL (h2 := hp I3 (cL L3 43 (va_cpy (L3 42) (L3 43) 0 0 169)) R dy) 0 0 169 mw3_75 a_42 a_43 (by decide) (by decide) (by decide) (by decide) rfl (by omega) (Nat.le_of_ble_eq_true rfl) d3_reckonBehind_76 ?_
    refine g_idecN (by omega) d3_reckonBehind_79 rfl (by decide) ?_
    refine g_goto 16 d3_reckonBehind_82 rfl ?_
    refine g_lo [(0, .ref 39), (1, .int (nI fst)), (2, .int (nI (ti - (m + 1))))] ⟨rfl, rfl, by rw [show ti - (m + 1) = s - 1 by omega]; rfl, trivial⟩ ?_
    refine ih (m + 1) I3 _ (by omega) ⟨⟨o1.cl (by decide), o2, o3, o4⟩, fun j q a b c => ?_⟩
    rw [cL_s]
    show (if 0 ≤ 13 * j + q ∧ 13 * j + q < 0 + 169 then L3 42 (0 + (13 * j + q - 0)) else _) = _
    rw [if_pos (by omega), show 0 + (13 * j + q - 0) = 13 * j + q by omega, o5 (13 * j + q) (by omega) (by omega), show (13 * j + q) / 13 = j by omega, show (13 * j + q) % 13 = q by omega]
set_option maxHeartbeats 600000 in
theorem r3_behind {l : Launch} {K : cK} {d : Nat} {I : wI} {L : wL} {R : wR} {dy : cH} (g : Nat → Int32) (wa : Int32) (hw : WW I g wa) (lc : Option (List Cl)) (hL : LWc dy (R 21 1) lc) (c fr ti se fl coin per fine : Nat) (hS : STA I c fr ti se fl coin per fine) (cm fn : Nat → Nat → Nat) (hcm : cm = cmR g wa (lfO lc)) (hfn : fn = fnR g wa (lfO lc) c fr fine) (wn : Bool) (hwn : I 39 6 = if wn = true then 1 else 0) (hp1 : 1 ≤ per) (hc1 : 1 ≤ coin) (s : Nat) (hf1 : fr ≤ s) (hf2 : s ≤ ti) (hd : 5 ≤ d) : CW l K m3_reckonBehind d [.ref 39, .int (nI s)] (hp I L R dy) (α := wI × wL) (fun x => (FK [22, 23, 39, 40, 41] [22, 24, 42, 43] I L x.1 x.2 ∧ WW x.1 g wa ∧ STA x.1 c fr ti se fl coin per fine ∧ x.1 39 6 = (if wn = true then 1 else 0)) ∧ (∀ k2, 1 ≤ k2 → k2 ≤ 12 → x.1 40 k2 = nI (cm s k2) ∧ x.1 41 k2 = nI (fnK cm fn s k2)) ∧ (∀ j q, 1 ≤ j → j ≤ 12 → q ≤ 12 → x.2 43 (13 * j + q) = lN (10 ^ (11 - ti) * (rD coin per fr ti fl wn cm (fnK cm fn) nSb (ti - s) j q)))) (fun x => hp x.1 x.2 R dy) := by
  obtain ⟨u0, u1, u2, u3, u4, u5, u6, u7, u8, u9, u10, u11, u12, u13, u14, u15⟩ := id hS
  refine CC.of ok3_reckonBehind (Nat.le_of_ble_eq_true rfl) ?_
  refine g_aload_n d3_reckonBehind_0 rfl ?_
  refine g_get fl3_22 d3_reckonBehind_1 f_39_5 ?_
  refine g_lconstv (0) d3_reckonBehind_4 rfl ?_
  refine g_VS2 smAr_fillL ml3_63 (rAr_fill_43 0 (Nat.le_refl 0)) (by omega) (Nat.le_of_ble_eq_true rfl) d3_reckonBehind_5 ?_
  refine g_aload_n d3_reckonBehind_8 rfl ?_
  refine g_get fl3_29 d3_reckonBehind_9 f_39_1 ?_
  refine g_get fl3_69 d3_reckonBehind_12 f_28_2 ?_
  refine g_topI (nI (ti)) (u2) ?_
  refine g_istore_n d3_reckonBehind_15 (by decide) ?_
  refine g_lo [(0, .ref 39), (1, .int (nI s)), (2, .int (nI (ti - 0)))] ⟨rfl, rfl, rfl, trivial⟩ ?_
  refine r3_rb2 (I := I) (L := L) g wa lc hL c fr ti se fl coin per fine cm fn hcm hfn wn hp1 hc1 s hf1 hf2 u10 hd (fun I3 L3 hO => ?_) (ti - s) 0 I _ (by omega) ⟨⟨FK.rf.cl (by decide), hw, hS, hwn⟩, fun j q a b c => ?_⟩
  rotate_left
  · rw [cL_s]; exact (if_pos (by omega)).trans (by show (0 : Int64) = lN (10 ^ (11 - ti) * 0); rw [Nat.mul_zero]; rfl)
  obtain ⟨⟨o1, o2, o3, o4⟩, o5⟩ := hO
  refine g_aload_n d3_reckonBehind_85 rfl ?_
  refine g_iload_n d3_reckonBehind_86 rfl ?_
  refine g_WV1 vm3_learn ml3_72 c_39 (r3_learn (I := I3) (L := L3) g wa o2 lc hL c fr ti se fl coin per fine o3 cm fn hcm hfn s hf1 hf2 (Nat.le_refl 4)) (by omega) (Nat.le_of_ble_eq_true rfl) d3_reckonBehind_87 (fun x hx => ?_)
  obtain ⟨I4, L4⟩ := x
  obtain ⟨f1, w1, z1, l1⟩ := hx
  dsimp only at f1 w1 z1 l1 ⊢
  exact g_vret rfl d3_reckonBehind_90 (⟨(I4, L4), ⟨⟨o1.tr (f1.up (by decide) (by decide)), w1, z1, (congrFun (f1.1 39 (by decide)) 6).trans o4⟩, l1, fun j q a b c => (congrFun (f1.2 43 (by decide)) _).trans (o5 j q a b c)⟩, rfl, rfl⟩)
/-- the same sum, in the class's parts -/
theorem ways_eq {m : Nat → Nat} {cm : Nat → Nat → Nat} {s0 fr ti k X : Nat} (hft : fr ≤ ti) (ht : ti ≤ 11) : pt m cm s0 fr k / 10 ^ (12 - fr) * (10 ^ (11 - ti) * X) = pt m cm s0 fr k / 10 ^ (ti - fr + 1) * X := by
  obtain ⟨q, hq⟩ := pt_dvd m cm s0 fr (by omega) k
  have e : 10 ^ (12 - fr) = 10 ^ (11 - ti) * 10 ^ (ti - fr + 1) := by rw [← Nat.pow_add]; congr 1; omega
  have p1 : 0 < 10 ^ (12 - fr) := Nat.pow_pos (by decide)
  have p2 : 0 < 10 ^ (ti - fr + 1) := Nat.pow_pos (by decide)
  have e2 : pt m cm s0 fr k / 10 ^ (12 - fr) = q := by rw [hq]; exact Nat.mul_div_cancel_left q p1
  have e3 : pt m cm s0 fr k / 10 ^ (ti - fr + 1) = 10 ^ (11 - ti) * q := by
    rw [hq, e, Nat.mul_right_comm]; exact Nat.mul_div_cancel _ p2
  rw [e2, e3, Nat.mul_left_comm, Nat.mul_assoc]
set_option maxHeartbeats 1000000 in
theorem r3_lsL {l : Launch} {K : cK} {d : Nat} {I : wI} {L : wL} {R : wR} {dy : cH} (g : Nat → Int32) (wa : Int32) (lc : Option (List Cl)) (hL : LWc dy (R 21 1) lc) (c fr ti se fl coin per fine : Nat) (cm fn : Nat → Nat → Nat) (hcm : cm = cmR g wa (lfO lc)) (hfn : fn = fnR g wa (lfO lc) c fr fine) (wn : Bool) (hp1 : 1 ≤ per) (hc1 : 1 ≤ coin) (s0 : Nat) (hd : 4 ≤ d) :
    ∀ (n k : Nat) (I2 : wI) (L2 : wL), k + n = 12 → (FK [22, 23, 39, 40, 41] [22, 24, 42, 43] I L I2 L2 ∧ WW I2 g wa ∧ STA I2 c fr ti se fl coin per fine ∧ I2 39 6 = (if wn = true then 1 else 0)) ∧ (∀ k2, 1 ≤ k2 → k2 ≤ 12 → I2 40 k2 = nI (cm fr k2) ∧ I2 41 k2 = nI (fnK cm fn fr k2)) ∧ (∀ j q, 1 ≤ j → j ≤ 12 → q ≤ 12 → L2 43 (13 * j + q) = lN (10 ^ (11 - ti) * (rD coin per fr ti fl wn cm (fnK cm fn) nSb (ti - fr) j q))) ∧ SPD I2 L2 fr2 cm s0 → GL l K m3_leastByState d 0 0 21 [(0, .ref 39), (2, .long (lN (sm (rcv (pt fr2 cm s0 fr) (10 ^ (ti - fr + 1)) (fun k => (rD coin per fr ti fl wn cm (fnK cm fn) nSb (ti + 1 - fr) k 0))) k))), (4, .int (nI (k + 1)))] [] (hp I2 L2 R dy) (fun r h => ∃ x : wI × wL, (FK [22, 23, 39, 40, 41] [22, 24, 42, 43] I L x.1 x.2 ∧ WW x.1 g wa ∧ STA x.1 c fr ti se fl coin per fine ∧ x.1 39 6 = (if wn = true then 1 else 0)) ∧ r = some (.long (lN (sm (rcv (pt fr2 cm s0 fr) (10 ^ (ti - fr + 1)) (fun k => (rD coin per fr ti fl wn cm (fnK cm fn) nSb (ti + 1 - fr) k 0))) 12))) ∧ h = hp x.1 x.2 R dy) := by
  have hcm9 : ∀ s k, cm s k ≤ 10 := fun s k => by rw [hcm]; exact cmR_le g wa (lfO lc) s k
  intro n
  induction n with
  | zero =>
    intro k I2 L2 hk hI
    obtain rfl : k = 12 := by omega
    refine g_iload d3_leastByState_21 rfl ?_
    refine g_bipushv (nI 12) d3_leastByState_23 rfl ?_
    refine g_ic_gt (13) (12) 94 (by decide) (by decide) d3_leastByState_25 rfl (fun _ => ?_) (fun c25 => absurd c25 (by decide))
    refine g_lload_n d3_leastByState_94 rfl ?_
    exact g_lret rfl d3_leastByState_95 (⟨(I2, L2), hI.1, rfl, rfl⟩)
  | succ n ih =>
    intro k I2 L2 hk hI
    obtain ⟨⟨i1, i2, i3, i4⟩, i5, i6, i7⟩ := hI
    obtain ⟨u0, u1, u2, u3, u4, u5, u6, u7, u8, u9, u10, u11, u12, u13, u14, u15⟩ := id i3
    have hfn9 : ∀ s k, fn s k ≤ 99 := fun s k => by rw [hfn]; exact fnR_le g wa (lfO lc) c fr s k u15
    obtain ⟨l1, l2⟩ := i5 (k + 1) (by omega) (by omega)
    have hP9 : pt fr2 cm s0 fr (k + 1) ≤ 1000000000000 := pt_le fr2 cm s0 hcm9 (by omega) (by omega)
    have hdv := Nat.div_le_self (pt fr2 cm s0 fr (k + 1)) (10 ^ (12 - fr))
    have hpw : 0 < 10 ^ (12 - fr) := Nat.pow_pos (by decide)
    have hpw2 := pw12 (m := 12 - fr) (by omega)
    have hwe := ways_eq (m := fr2) (cm := cm) (s0 := s0) (k := k + 1) (X := (rD coin per fr ti fl wn cm (fnK cm fn) nSb (ti + 1 - fr) (k + 1) 0)) u9 u10
    have hS1 : (sm (rcv (pt fr2 cm s0 fr) (10 ^ (ti - fr + 1)) (fun k => (rD coin per fr ti fl wn cm (fnK cm fn) nSb (ti + 1 - fr) k 0))) (k + 1)) = (sm (rcv (pt fr2 cm s0 fr) (10 ^ (ti - fr + 1)) (fun k => (rD coin per fr ti fl wn cm (fnK cm fn) nSb (ti + 1 - fr) k 0))) k) + pt fr2 cm s0 fr (k + 1) / 10 ^ (ti - fr + 1) * (rD coin per fr ti fl wn cm (fnK cm fn) nSb (ti + 1 - fr) (k + 1) 0) := rfl
    rw [← hwe] at hS1
    by_cases h0 : (pt fr2 cm s0 fr (k + 1) / 10 ^ (12 - fr)) = 0
    · rw [h0, Nat.zero_mul, Nat.add_zero] at hS1
      refine g_iload d3_leastByState_21 rfl ?_
      refine g_bipushv (nI 12) d3_leastByState_23 rfl ?_
      refine g_ic_gt (((k + 1) : Nat) : Int) (12) 94 (nI_ti (by omega)) (by decide) d3_leastByState_25 rfl (fun c25 => absurd c25 (by omega)) (fun _ => ?_)
      refine g_aload_n d3_leastByState_28 rfl ?_
      refine g_get fl3_25 d3_leastByState_29 f_39_0 ?_
      refine g_aload_n d3_leastByState_32 rfl ?_
      refine g_get fl3_29 d3_leastByState_33 f_39_1 ?_
      refine g_get fl3_37 d3_leastByState_36 f_28_1 ?_
      refine g_topI (nI (fr)) (u1) ?_
      refine g_iload d3_leastByState_39 rfl ?_
      refine g_EV2 vm10_partsAt ml3_47 c_21 (r10_partsAt (I := I2) (L := L2) fr (k + 1) (pt fr2 cm s0 fr (k + 1)) (by omega) (by omega) (i7.1 fr (by omega) (k + 1) (by omega)) (Nat.le_refl 0)) (by omega) (Nat.le_of_ble_eq_true rfl) d3_leastByState_41 ?_
      refine g_getsN (j := 0) rfl (by decide +kernel) d3_leastByState_44 ?_
      refine g_bipushv (nI 12) d3_leastByState_47 rfl ?_
      refine g_aload_n d3_leastByState_49 rfl ?_
      refine g_get fl3_29 d3_leastByState_50 f_39_1 ?_
      refine g_get fl3_37 d3_leastByState_53 f_28_1 ?_
      refine g_topI (nI (fr)) (u1) ?_
      refine g_isubN (by omega) d3_leastByState_56 ?_
      refine g_laSN ((12 - fr)) rfl (rfl) (by omega) (by decide) d3_leastByState_57 ?_
      refine g_topL (lN ((10 ^ (12 - fr)))) (by rw [tens_v _ (by omega)]) ?_
      refine g_ldiv d3_leastByState_58 (lN_ne hpw (by omega)) ?_
      refine g_topL (lN ((pt fr2 cm s0 fr (k + 1)) / (10 ^ (12 - fr)))) (pk_lDiv (b := (10 ^ (12 - fr))) (by omega) (by omega) (by omega)) ?_
      refine g_lstore d3_leastByState_59 (by decide) ?_
      refine g_lload d3_leastByState_61 rfl ?_
      refine g_lconstv (0) d3_leastByState_63 rfl ?_
      refine g_lx_le ((((pt fr2 cm s0 fr (k + 1)) / (10 ^ (12 - fr))) : Nat) : Int) (0) 88 (pk_lT (by omega)) (by decide) d3_leastByState_64 d3_leastByState_65 rfl (fun _ => ?_) (fun c64 => absurd c64 (fun z => z (by rw [h0]; exact Int.le_refl 0)))
      refine g_iincN d3_leastByState_88 rfl (by decide) ?_
      refine g_goto 21 d3_leastByState_91 rfl ?_
      refine g_lo [(0, .ref 39), (2, .long (lN (sm (rcv (pt fr2 cm s0 fr) (10 ^ (ti - fr + 1)) (fun k => (rD coin per fr ti fl wn cm (fnK cm fn) nSb (ti + 1 - fr) k 0))) (k + 1)))), (4, .int (nI (k + 1 + 1)))] ⟨rfl, by rw [hS1]; rfl, rfl, trivial⟩ ?_
      exact ih (k + 1) I2 L2 (by omega) ⟨⟨i1, i2, i3, i4⟩, i5, i6, i7⟩
    · skip
      refine g_iload d3_leastByState_21 rfl ?_
      refine g_bipushv (nI 12) d3_leastByState_23 rfl ?_
      refine g_ic_gt (((k + 1) : Nat) : Int) (12) 94 (nI_ti (by omega)) (by decide) d3_leastByState_25 rfl (fun c25 => absurd c25 (by omega)) (fun _ => ?_)
      refine g_aload_n d3_leastByState_28 rfl ?_
      refine g_get fl3_25 d3_leastByState_29 f_39_0 ?_
      refine g_aload_n d3_leastByState_32 rfl ?_
      refine g_get fl3_29 d3_leastByState_33 f_39_1 ?_
      refine g_get fl3_37 d3_leastByState_36 f_28_1 ?_
      refine g_topI (nI (fr)) (u1) ?_
      refine g_iload d3_leastByState_39 rfl ?_
      refine g_EV2 vm10_partsAt ml3_47 c_21 (r10_partsAt (I := I2) (L := L2) fr (k + 1) (pt fr2 cm s0 fr (k + 1)) (by omega) (by omega) (i7.1 fr (by omega) (k + 1) (by omega)) (Nat.le_refl 0)) (by omega) (Nat.le_of_ble_eq_true rfl) d3_leastByState_41 ?_
      refine g_getsN (j := 0) rfl (by decide +kernel) d3_leastByState_44 ?_
      refine g_bipushv (nI 12) d3_leastByState_47 rfl ?_
      refine g_aload_n d3_leastByState_49 rfl ?_
      refine g_get fl3_29 d3_leastByState_50 f_39_1 ?_
      refine g_get fl3_37 d3_leastByState_53 f_28_1 ?_
      refine g_topI (nI (fr)) (u1) ?_
      refine g_isubN (by omega) d3_leastByState_56 ?_
      refine g_laSN ((12 - fr)) rfl (rfl) (by omega) (by decide) d3_leastByState_57 ?_
      refine g_topL (lN ((10 ^ (12 - fr)))) (by rw [tens_v _ (by omega)]) ?_
      refine g_ldiv d3_leastByState_58 (lN_ne hpw (by omega)) ?_
      refine g_topL (lN ((pt fr2 cm s0 fr (k + 1)) / (10 ^ (12 - fr)))) (pk_lDiv (b := (10 ^ (12 - fr))) (by omega) (by omega) (by omega)) ?_
      refine g_lstore d3_leastByState_59 (by decide) ?_
      refine g_lload d3_leastByState_61 rfl ?_
      refine g_lconstv (0) d3_leastByState_63 rfl ?_
      refine g_lx_le ((((pt fr2 cm s0 fr (k + 1)) / (10 ^ (12 - fr))) : Nat) : Int) (0) 88 (pk_lT (by omega)) (by decide) d3_leastByState_64 d3_leastByState_65 rfl (fun c64 => absurd c64 (fun z => h0 (Nat.le_zero.mp (Int.ofNat_le.mp z)))) (fun _ => ?_)
      refine g_lload_n d3_leastByState_68 rfl ?_
      refine g_lload d3_leastByState_69 rfl ?_
      refine g_aload_n d3_leastByState_71 rfl ?_
      refine g_aload_n d3_leastByState_72 rfl ?_
      refine g_get fl3_29 d3_leastByState_73 f_39_1 ?_
      refine g_get fl3_37 d3_leastByState_76 f_28_1 ?_
      refine g_topI (nI (fr)) (u1) ?_
      refine g_iload d3_leastByState_79 rfl ?_
      refine g_iconstv (nI 0) d3_leastByState_81 rfl ?_
      refine g_EV3 vm3_choose ml3_56 c_39 (r3_choose (I := I2) (L := L2) c fr ti se fl coin per fine i3 hp1 hc1 wn i4 cm fn hcm9 hfn9 (ti - fr) fr (k + 1) 0 (by omega) (by omega) (by omega) (by omega) (by omega) l1 l2 i6 (Nat.le_refl 3)) (by omega) (Nat.le_of_ble_eq_true rfl) d3_leastByState_82 ?_
      refine g_topL (lN ((10 ^ (11 - ti) * (rD coin per fr ti fl wn cm (fnK cm fn) nSb (ti + 1 - fr) (k + 1) 0)))) (by rw [show ti - fr + 1 = ti + 1 - fr by omega]) ?_
      refine g_lmul d3_leastByState_85 ?_
      refine g_topL (lN (((pt fr2 cm s0 fr (k + 1)) / (10 ^ (12 - fr))) * (10 ^ (11 - ti) * (rD coin per fr ti fl wn cm (fnK cm fn) nSb (ti + 1 - fr) (k + 1) 0)))) (lN_mul _ _) ?_
      refine g_ladd d3_leastByState_86 ?_
      refine g_topL (lN ((sm (rcv (pt fr2 cm s0 fr) (10 ^ (ti - fr + 1)) (fun k => (rD coin per fr ti fl wn cm (fnK cm fn) nSb (ti + 1 - fr) k 0))) k) + (((pt fr2 cm s0 fr (k + 1)) / (10 ^ (12 - fr))) * (10 ^ (11 - ti) * (rD coin per fr ti fl wn cm (fnK cm fn) nSb (ti + 1 - fr) (k + 1) 0))))) (lN_add _ _) ?_
      refine g_lstore_n d3_leastByState_87 (by decide) ?_
      refine g_iincN d3_leastByState_88 rfl (by decide) ?_
      refine g_goto 21 d3_leastByState_91 rfl ?_
      refine g_lo [(0, .ref 39), (2, .long (lN (sm (rcv (pt fr2 cm s0 fr) (10 ^ (ti - fr + 1)) (fun k => (rD coin per fr ti fl wn cm (fnK cm fn) nSb (ti + 1 - fr) k 0))) (k + 1)))), (4, .int (nI (k + 1 + 1)))] ⟨rfl, by rw [hS1]; rfl, rfl, trivial⟩ ?_
      exact ih (k + 1) _ L2 (by omega) ⟨⟨i1.ui (by decide), i2.of (uI_n (by decide)), i3.of (uI_n (by decide)), by rw [uI_sn (by decide)]; exact i4⟩, fun k2 a b => by rw [uI_n (by decide), uI_n (by decide)]; exact i5 k2 a b, i6, i7.of (uI_n (by decide)) rfl⟩
set_option maxHeartbeats 600000 in
theorem r3_least {l : Launch} {K : cK} {d : Nat} {I : wI} {L : wL} {R : wR} {dy : cH} (g : Nat → Int32) (wa : Int32) (hw : WW I g wa) (lc : Option (List Cl)) (hL : LWc dy (R 21 1) lc) (c fr ti se fl coin per fine : Nat) (hS : STA I c fr ti se fl coin per fine) (cm fn : Nat → Nat → Nat) (hcm : cm = cmR g wa (lfO lc)) (hfn : fn = fnR g wa (lfO lc) c fr fine) (wn : Bool) (hp1 : 1 ≤ per) (hc1 : 1 ≤ coin) (s0 : Nat) (hSP : SPD I L fr2 cm s0) (hd : 6 ≤ d) : CX l K m3_leastByState d [.ref 39, .int (if wn = true then 1 else 0)] (hp I L R dy) (α := wI × wL) (fun x => (FK [22, 23, 39, 40, 41] [22, 24, 42, 43] I L x.1 x.2 ∧ WW x.1 g wa ∧ STA x.1 c fr ti se fl coin per fine ∧ x.1 39 6 = (if wn = true then 1 else 0))) (fun _ => .long (lN (sm (rcv (pt fr2 cm s0 fr) (10 ^ (ti - fr + 1)) (fun k => (rD coin per fr ti fl wn cm (fnK cm fn) nSb (ti + 1 - fr) k 0))) 12))) (fun x => hp x.1 x.2 R dy) := by
  obtain ⟨u0, u1, u2, u3, u4, u5, u6, u7, u8, u9, u10, u11, u12, u13, u14, u15⟩ := id hS
  refine CC.of ok3_leastByState (Nat.le_of_ble_eq_true rfl) ?_
  refine g_aload_n d3_leastByState_0 rfl ?_
  refine g_iload_n d3_leastByState_1 rfl ?_
  refine g_putZh _ fl3_33 d3_leastByState_2 f_39_6 (b01 _) s_39_6 ?_
  refine g_aload_n d3_leastByState_5 rfl ?_
  refine g_aload_n d3_leastByState_6 rfl ?_
  refine g_get fl3_29 d3_leastByState_7 f_39_1 ?_
  refine g_get fl3_37 d3_leastByState_10 f_28_1 ?_
  refine g_topI (nI (fr)) (u1) ?_
  refine g_WV1 vm3_reckonBehind ml3_43 c_39 (r3_behind (I := (uI I 39 6 (if wn = true then 1 else 0))) (L := L) g wa (hw.of (uI_n (by decide))) lc hL c fr ti se fl coin per fine (hS.of (uI_n (by decide))) cm fn hcm hfn wn uI_ss hp1 hc1 fr (Nat.le_refl _) u9 (Nat.le_refl 5)) (by omega) (Nat.le_of_ble_eq_true rfl) d3_leastByState_13 (fun x hx => ?_)
  obtain ⟨I3, L3⟩ := x
  obtain ⟨⟨o1, o2, o3, o4⟩, o5, o6⟩ := hx
  dsimp only at o1 o2 o3 o4 o5 o6 ⊢
  refine g_lconstv (0) d3_leastByState_16 rfl ?_
  refine g_lstore_n d3_leastByState_17 (by decide) ?_
  refine g_iconstv (nI 1) d3_leastByState_18 rfl ?_
  refine g_istore d3_leastByState_19 (by decide) ?_
  refine g_lo [(0, .ref 39), (2, .long (lN (sm (rcv (pt fr2 cm s0 fr) (10 ^ (ti - fr + 1)) (fun k => (rD coin per fr ti fl wn cm (fnK cm fn) nSb (ti + 1 - fr) k 0))) 0))), (4, .int (nI (0 + 1)))] ⟨rfl, rfl, rfl, trivial⟩ ?_
  exact r3_lsL (I := I) (L := L) g wa lc hL c fr ti se fl coin per fine cm fn hcm hfn wn hp1 hc1 s0 (by omega) 12 0 I3 L3 (by omega) ⟨⟨(FK.rf.ui (by decide)).tr o1, o2, o3, o4⟩, o5, o6, hSP.of ((o1.1 26 (by decide)).trans (uI_n (by decide))) (o1.2 27 (by decide))⟩
set_option maxHeartbeats 600000 in
theorem r3_coins {l : Launch} {K : cK} {d : Nat} {I : wI} {L : wL} {R : wR} {dy : cH} (g : Nat → Int32) (wa : Int32) (hw : WW I g wa) (lc : Option (List Cl)) (hL : LWc dy (R 21 1) lc) (c fr ti se fl coin per fine : Nat) (hS : STA I c fr ti se fl coin per fine) (cm fn : Nat → Nat → Nat) (hcm : cm = cmR g wa (lfO lc)) (hfn : fn = fnR g wa (lfO lc) c fr fine) (hp1 : 1 ≤ per) (hc1 : 1 ≤ coin) (s k left : Nat) (hf1 : fr ≤ s) (hf2 : s ≤ ti) (hk1 : 1 ≤ k) (hk2 : k ≤ 12) (hl : left ≤ 12) (hd : 6 ≤ d) : CX l K m3_coinsByState d [.ref 39, .int (nI s), .int (nI k), .int (nI left)] (hp I L R dy) (α := wI × wL) (fun x => FK [22, 23, 39, 40, 41] [22, 24, 42, 43] I L x.1 x.2) (fun _ => .int (nI (rB2 coin per fr ti fl false cm (fnK cm fn) nSb (ti - s) k left))) (fun x => hp x.1 x.2 R dy) := by
  obtain ⟨u0, u1, u2, u3, u4, u5, u6, u7, u8, u9, u10, u11, u12, u13, u14, u15⟩ := id hS
  have hcm9 : ∀ s k, cm s k ≤ 10 := fun s k => by rw [hcm]; exact cmR_le g wa (lfO lc) s k
  have hfn9 : ∀ s k, fn s k ≤ 99 := fun s k => by rw [hfn]; exact fnR_le g wa (lfO lc) c fr s k u15
  refine CC.of ok3_coinsByState (Nat.le_of_ble_eq_true rfl) ?_
  refine g_aload_n d3_coinsByState_0 rfl ?_
  refine g_iconstv (nI 0) d3_coinsByState_1 rfl ?_
  refine g_putZh _ fl3_33 d3_coinsByState_2 f_39_6 (by decide) s_39_6 ?_
  refine g_aload_n d3_coinsByState_5 rfl ?_
  refine g_iload_n d3_coinsByState_6 rfl ?_
  refine g_WV1 vm3_reckonBehind ml3_43 c_39 (r3_behind (I := uI I 39 6 0) (L := L) g wa (hw.of (uI_n (by decide))) lc hL c fr ti se fl coin per fine (hS.of (uI_n (by decide))) cm fn hcm hfn false uI_ss hp1 hc1 s hf1 hf2 (Nat.le_refl 5)) (by omega) (Nat.le_of_ble_eq_true rfl) d3_coinsByState_7 (fun x hx => ?_)
  obtain ⟨I3, L3⟩ := x
  obtain ⟨⟨o1, o2, o3, o4⟩, o5, o6⟩ := hx
  dsimp only at o1 o2 o3 o4 o5 o6 ⊢
  obtain ⟨l1, l2⟩ := o5 k hk1 hk2
  refine g_aload_n d3_coinsByState_10 rfl ?_
  refine g_iload_n d3_coinsByState_11 rfl ?_
  refine g_iload_n d3_coinsByState_12 rfl ?_
  refine g_iload_n d3_coinsByState_13 rfl ?_
  refine g_EV3 vm3_choose ml3_56 c_39 (r3_choose (I := I3) (L := L3) c fr ti se fl coin per fine o3 hp1 hc1 false o4 cm fn hcm9 hfn9 (ti - s) s k left (by omega) hf1 hk1 hk2 hl l1 l2 o6 (Nat.le_refl 3)) (by omega) (Nat.le_of_ble_eq_true rfl) d3_coinsByState_14 ?_
  refine g_pop2L d3_coinsByState_17 rfl ?_
  refine g_aload_n d3_coinsByState_18 rfl ?_
  refine g_get fl3_60 d3_coinsByState_19 f_39_7 ?_
  refine g_topI (nI ((rB2 coin per fr ti fl false cm (fnK cm fn) nSb (ti - s) k left))) (uI_ss) ?_
  exact g_iret rfl d3_coinsByState_22 (⟨(uI I3 39 7 (nI (rB2 coin per fr ti fl false cm (fnK cm fn) nSb (ti - s) k left)), L3), ((FK.rf.ui (by decide)).tr o1).ui (by decide), rfl, rfl⟩)
