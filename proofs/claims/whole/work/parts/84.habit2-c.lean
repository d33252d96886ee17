set_option maxHeartbeats 400000 in
theorem r0_hc0 {l : Launch} {K : cK} {d : Nat} {I : wI} {L : wL} {R : wR} {dy : cH} {Q : Option Value → cH → Prop} (c fr ti se fl coin per fine : Nat) (hS : STA I c fr ti se fl coin per fine) (T : Nat) (Pp : Nat → Nat) (hP : ∀ k, k ≤ 12 → L 27 (fr * 13 + k) = lN (Pp k)) (hd : 1 ≤ d)
    (kk : ∀ L3 : wL, (∀ k, k ≠ 37 → L3 k = L k) → (∀ q, q < 169 → L3 37 q = lN (if q % 13 = 0 ∧ 0 < q then Pp (q / 13) else 0)) → GL l K m0_habitCost d 0 0 46 [(0, .ref 29), (1, .ref T)] [] (hp I L3 R dy) Q) :
    ∀ (n k : Nat) (L2 : wL), k + n = 12 → (∀ k, k ≠ 37 → L2 k = L k) → (∀ q, q < 169 → L2 37 q = lN (if q % 13 = 0 ∧ 0 < q ∧ q / 13 ≤ k then Pp (q / 13) else 0)) → GL l K m0_habitCost d 0 0 10 [(0, .ref 29), (1, .ref T), (2, .int (nI (k + 1)))] [] (hp I L2 R dy) Q := by
  obtain ⟨u0, u1, u2, u3, u4, u5, u6, u7, u8, u9, u10, u11, u12, u13, u14, u15⟩ := id hS
  intro n
  induction n with
  | zero =>
    intro k L2 hk h1 h2
    obtain rfl : k = 12 := by omega
    refine g_iload_n d0_habitCost_10 rfl ?_
    refine g_bipushv (nI 12) d0_habitCost_11 rfl ?_
    refine g_ic_gt (13) (12) 46 (by decide) (by decide) d0_habitCost_13 rfl (fun _ => ?_) (fun c13 => absurd c13 (by decide))
    refine g_lo [(0, .ref 29), (1, .ref T)] ⟨rfl, rfl, trivial⟩ ?_
    refine kk L2 h1 (fun q hq => ?_)
    rw [h2 q hq]
    by_cases e : q % 13 = 0 ∧ 0 < q
    · rw [if_pos e, if_pos ⟨e.1, e.2, by omega⟩]
    · rw [if_neg e, if_neg (fun z => e ⟨z.1, z.2.1⟩)]
  | succ n ih =>
    intro k L2 hk h1 h2
    refine g_iload_n d0_habitCost_10 rfl ?_
    refine g_bipushv (nI 12) d0_habitCost_11 rfl ?_
    refine g_ic_gt (((k + 1) : Nat) : Int) (12) 46 (nI_ti (by omega)) (by decide) d0_habitCost_13 rfl (fun c13 => absurd c13 (by omega)) (fun _ => ?_)
    refine g_aload_n d0_habitCost_16 rfl ?_
    refine g_get fl0_32 d0_habitCost_17 f_29_7 ?_
    refine g_iload_n d0_habitCost_20 rfl ?_
    refine g_bipushv (nI 13) d0_habitCost_21 rfl ?_
    refine g_imulN d0_habitCost_23 ?_
    refine g_aload_n d0_habitCost_24 rfl ?_
    refine g_get fl0_38 d0_habitCost_25 f_29_0 ?_
    refine g_aload_n d0_habitCost_28 rfl ?_
    refine g_get fl0_42 d0_habitCost_29 f_29_1 ?_
    refine g_get fl0_58 d0_habitCost_32 f_28_1 ?_
    refine g_topI (nI (fr)) (u1) ?_
    refine g_iload_n d0_habitCost_35 rfl ?_
    refine g_EV2 vm10_partsAt ml0_132 c_21 (r10_partsAt (I := I) (L := L2) fr (k + 1) (Pp (k + 1)) (by omega) (by omega) (by rw [h1 27 (by decide)]; exact hP (k + 1) (by omega)) (Nat.le_refl 0)) (by omega) (Nat.le_of_ble_eq_true rfl) d0_habitCost_36 ?_
    refine g_lastN (((k + 1) * 13)) _ d0_habitCost_39 a_37 (rfl) (by omega) (by decide) t_37 ?_
    refine g_iincN d0_habitCost_40 rfl (by decide) ?_
    refine g_goto 10 d0_habitCost_43 rfl ?_
    refine g_lo [(0, .ref 29), (1, .ref T), (2, .int (nI (k + 1 + 1)))] ⟨rfl, rfl, rfl, trivial⟩ ?_
    refine ih (k + 1) _ (by omega) (fun a b => by rw [uL_n b]; exact h1 a b) (fun q hq => ?_)
    by_cases e : q = (k + 1) * 13
    · subst e; rw [uL_ss, if_pos ⟨by omega, by omega, by omega⟩, show (k + 1) * 13 / 13 = k + 1 by omega]
    · rw [uL_sn e, h2 q hq]
      by_cases e2 : q % 13 = 0 ∧ 0 < q ∧ q / 13 ≤ k
      · rw [if_pos e2, if_pos ⟨e2.1, e2.2.1, by omega⟩]
      · rw [if_neg e2, if_neg (fun z => e2 ⟨z.1, z.2.1, by omega⟩)]
set_option maxHeartbeats 1000000 in
theorem r0_hc1 {l : Launch} {K : cK} {d : Nat} {I : wI} {L : wL} {R : wR} {dy : cH} {Q : Option Value → cH → Prop} (g : Nat → Int32) (wa : Int32) (lc : Option (List Cl)) (hL : LWc dy (R 21 1) lc) (c fr ti se fl coin per fine : Nat) (T : Nat) (cs : List Cl) (hC : CTX dy T cs) (s0 : Nat) (cm fn : Nat → Nat → Nat) (hcm : cm = cmR g wa (lfO lc)) (hfn : fn = fnR g wa (lfO lc) c fr fine) (co : Nat → Nat → Nat → Nat) (hco : co = thr (txF cs) coin per fr ti se) (m : Nat) (hm : fr + m ≤ ti) (hti : ti ≤ 11) (hd : 5 ≤ d)
    (kk : ∀ (I3 : wI) (L3 : wL), (FK [22, 23, 30, 31] [22, 24, 30, 32, 37, 38] I L I3 L3 ∧ WW I3 g wa ∧ STA I3 c fr ti se fl coin per fine ∧ SPD I3 L3 fr2 cm s0) ∧ (∀ q, q < 169 → L3 37 q = lN ((hS per fr cm co (pt fr2 cm s0 fr) m) q)) ∧ (∀ q, q < 169 → L3 38 q = lN (hxs per cm co (hS per fr cm co (pt fr2 cm s0 fr) m) (fr + m) 156 q)) → GL l K m0_habitCost d 0 0 119 [(0, .ref 29), (1, .ref T), (2, .long (lN ((hV coin per fr fl cm fn co (pt fr2 cm s0 fr) m) + hvs coin per fr fl cm fn co (hS per fr cm co (pt fr2 cm s0 fr) m) (fr + m) 156))), (4, .int (nI (fr + m)))] [] (hp I3 L3 R dy) Q) :
    ∀ (n j : Nat) (I2 : wI) (L2 : wL), j + n = 156 → (FK [22, 23, 30, 31] [22, 24, 30, 32, 37, 38] I L I2 L2 ∧ WW I2 g wa ∧ STA I2 c fr ti se fl coin per fine ∧ SPD I2 L2 fr2 cm s0) ∧ (∀ q, q < 169 → L2 37 q = lN ((hS per fr cm co (pt fr2 cm s0 fr) m) q)) ∧ (∀ q, q < 169 → L2 38 q = lN (hxs per cm co (hS per fr cm co (pt fr2 cm s0 fr) m) (fr + m) j q)) → GL l K m0_habitCost d 0 0 81 [(0, .ref 29), (1, .ref T), (2, .long (lN ((hV coin per fr fl cm fn co (pt fr2 cm s0 fr) m) + hvs coin per fr fl cm fn co (hS per fr cm co (pt fr2 cm s0 fr) m) (fr + m) j))), (4, .int (nI (fr + m))), (5, .int (nI (13 + j)))] [] (hp I2 L2 R dy) Q := by
  have hcm9 : ∀ s k, cm s k ≤ 10 := fun s k => by rw [hcm]; exact cmR_le g wa (lfO lc) s k
  have hSd := hS_dvd (per := per) (cm := cm) (co := co) (pt_dvd fr2 cm s0 fr (by omega)) m (by omega)
  intro n
  induction n with
  | zero =>
    intro j I2 L2 hj hI
    obtain rfl : j = 156 := by omega
    refine g_iload d0_habitCost_81 rfl ?_
    refine g_sipushv (nI 169) d0_habitCost_83 rfl ?_
    refine g_ic_ge (169) (169) 119 (by decide) (by decide) d0_habitCost_86 rfl (fun _ => ?_) (fun c86 => absurd c86 (by decide))
    refine g_lo [(0, .ref 29), (1, .ref T), (2, .long (lN ((hV coin per fr fl cm fn co (pt fr2 cm s0 fr) m) + hvs coin per fr fl cm fn co (hS per fr cm co (pt fr2 cm s0 fr) m) (fr + m) 156))), (4, .int (nI (fr + m)))] ⟨rfl, rfl, rfl, rfl, trivial⟩ ?_
    exact kk I2 L2 hI
  | succ n ih =>
    intro j I2 L2 hj hI
    obtain ⟨⟨i1, i2, i3, i4⟩, i5, i6⟩ := hI
    obtain ⟨u0, u1, u2, u3, u4, u5, u6, u7, u8, u9, u10, u11, u12, u13, u14, u15⟩ := id i3
    have hp9 := hS_le per fr cm co (pt fr2 cm s0 fr) hcm9 (pt_sum fr2 cm s0 hcm9 fr) m (k := 13 + j) (by omega) (by omega)
    have h5 := i5 (13 + j) (by omega)
    have hx1 : ∀ q, hxs per cm co (hS per fr cm co (pt fr2 cm s0 fr) m) (fr + m) (j + 1) q = hxs per cm co (hS per fr cm co (pt fr2 cm s0 fr) m) (fr + m) j q + (if q = 13 + les (hpd per co (fr + m) (13 + j)) then (hS per fr cm co (pt fr2 cm s0 fr) m) (13 + j) / 10 * cm (fr + m) ((13 + j) / 13) else 0) + (if q = 13 * lat ((13 + j) / 13) + les (hpd per co (fr + m) (13 + j)) then (hS per fr cm co (pt fr2 cm s0 fr) m) (13 + j) / 10 * (10 - cm (fr + m) ((13 + j) / 13)) else 0) := fun _ => rfl
    have hv1 : hvs coin per fr fl cm fn co (hS per fr cm co (pt fr2 cm s0 fr) m) (fr + m) (j + 1) = hvs coin per fr fl cm fn co (hS per fr cm co (pt fr2 cm s0 fr) m) (fr + m) j + ((hS per fr cm co (pt fr2 cm s0 fr) m) (13 + j) * prc coin fr fl (fr + m) (co (fr + m) ((13 + j) / 13) ((13 + j) % 13)) + (if 0 < hpd per co (fr + m) (13 + j) then 0 else (hS per fr cm co (pt fr2 cm s0 fr) m) (13 + j) / 10 * cm (fr + m) ((13 + j) / 13) * fn (fr + m) ((13 + j) / 13))) := rfl
    by_cases h0 : (hS per fr cm co (pt fr2 cm s0 fr) m) (13 + j) = 0
    · rw [h0] at h5
      refine g_iload d0_habitCost_81 rfl ?_
      refine g_sipushv (nI 169) d0_habitCost_83 rfl ?_
      refine g_ic_ge (((13 + j) : Nat) : Int) (169) 119 (nI_ti (by omega)) (by decide) d0_habitCost_86 rfl (fun c86 => absurd c86 (by omega)) (fun _ => ?_)
      refine g_aload_n d0_habitCost_89 rfl ?_
      refine g_get fl0_32 d0_habitCost_90 f_29_7 ?_
      refine g_iload d0_habitCost_93 rfl ?_
      refine g_laldN ((13 + j)) d0_habitCost_95 a_37 (rfl) (by omega) (by decide) ?_
      refine g_topL (lN (0)) (h5) ?_
      refine g_lconstv (0) d0_habitCost_96 rfl ?_
      refine g_lx_eq ((0 : Nat) : Int) (0) 113 (pk_lT (by omega)) (by decide) d0_habitCost_97 d0_habitCost_98 rfl (fun _ => ?_) (fun c97 => absurd c97 (by omega))
      refine g_iincN d0_habitCost_113 rfl (by decide) ?_
      refine g_goto 81 d0_habitCost_116 rfl ?_
      refine g_lo [(0, .ref 29), (1, .ref T), (2, .long (lN ((hV coin per fr fl cm fn co (pt fr2 cm s0 fr) m) + hvs coin per fr fl cm fn co (hS per fr cm co (pt fr2 cm s0 fr) m) (fr + m) (j + 1)))), (4, .int (nI (fr + m))), (5, .int (nI (13 + (j + 1))))] ⟨rfl, rfl, by rw [hv1, h0]; simp; rfl, rfl, rfl, trivial⟩ ?_
      refine ih (j + 1) I2 L2 (by omega) ⟨⟨i1, i2, i3, i4⟩, i5, fun q hq => ?_⟩
      rw [hx1, h0, i6 q hq]; simp
    · have hnz := hS_nz (per := per) (fr := fr) (cm := cm) (co := co) (s0 := s0) m (by omega) (13 + j) h0
      have hcv := i4.2 (fr + m) (by omega) ((13 + j) / 13) (by omega) (by omega) hnz
      have hdv : 10 ∣ (hS per fr cm co (pt fr2 cm s0 fr) m) (13 + j) := Nat.dvd_trans (by rw [show 12 - (fr + m) = (11 - (fr + m)) + 1 by omega, Nat.pow_succ]; exact Nat.dvd_mul_left _ _) (hSd (13 + j))
      have hten : (hS per fr cm co (pt fr2 cm s0 fr) m) (13 + j) = 10 * ((hS per fr cm co (pt fr2 cm s0 fr) m) (13 + j) / 10) := by omega
      refine g_iload d0_habitCost_81 rfl ?_
      refine g_sipushv (nI 169) d0_habitCost_83 rfl ?_
      refine g_ic_ge (((13 + j) : Nat) : Int) (169) 119 (nI_ti (by omega)) (by decide) d0_habitCost_86 rfl (fun c86 => absurd c86 (by omega)) (fun _ => ?_)
      refine g_aload_n d0_habitCost_89 rfl ?_
      refine g_get fl0_32 d0_habitCost_90 f_29_7 ?_
      refine g_iload d0_habitCost_93 rfl ?_
      refine g_laldN ((13 + j)) d0_habitCost_95 a_37 (rfl) (by omega) (by decide) ?_
      refine g_topL (lN (((hS per fr cm co (pt fr2 cm s0 fr) m) (13 + j)))) (h5) ?_
      refine g_lconstv (0) d0_habitCost_96 rfl ?_
      refine g_lx_eq ((((hS per fr cm co (pt fr2 cm s0 fr) m) (13 + j)) : Nat) : Int) (0) 113 (pk_lT (by omega)) (by decide) d0_habitCost_97 d0_habitCost_98 rfl (fun c97 => absurd c97 (by omega)) (fun _ => ?_)
      refine g_lload_n d0_habitCost_101 rfl ?_
      refine g_aload_n d0_habitCost_102 rfl ?_
      refine g_aload_n d0_habitCost_103 rfl ?_
      refine g_iload d0_habitCost_104 rfl ?_
      refine g_iload d0_habitCost_106 rfl ?_
      refine g_XV3 vm0_walk ml0_135 c_29 (r0_walk (I := I2) (L := L2) g wa i2 lc hL c fr ti se fl coin per fine i3 T cs hC (fr + m) (13 + j) ((hS per fr cm co (pt fr2 cm s0 fr) m) (13 + j)) (cm (fr + m) ((13 + j) / 13)) (by omega) (by omega) (by omega) (by omega) h5 hp9 hten hcv (hcm9 _ _) (hxs per cm co (hS per fr cm co (pt fr2 cm s0 fr) m) (fr + m) j) i6 (Nat.le_refl 4)) (by omega) (Nat.le_of_ble_eq_true rfl) d0_habitCost_108 (fun x hx => ?_)
      obtain ⟨I4, L4⟩ := x
      obtain ⟨f1, w1, n1⟩ := hx
      dsimp only at f1 w1 n1 ⊢
      rw [← hfn, ← hco]
      refine g_ladd d0_habitCost_111 ?_
      refine g_topL (lN (((hV coin per fr fl cm fn co (pt fr2 cm s0 fr) m) + hvs coin per fr fl cm fn co (hS per fr cm co (pt fr2 cm s0 fr) m) (fr + m) (j + 1)))) (by rw [lN_add, hv1, Nat.add_assoc]; rfl) ?_
      refine g_lstore_n d0_habitCost_112 (by decide) ?_
      refine g_iincN d0_habitCost_113 rfl (by decide) ?_
      refine g_goto 81 d0_habitCost_116 rfl ?_
      refine g_lo [(0, .ref 29), (1, .ref T), (2, .long (lN ((hV coin per fr fl cm fn co (pt fr2 cm s0 fr) m) + hvs coin per fr fl cm fn co (hS per fr cm co (pt fr2 cm s0 fr) m) (fr + m) (j + 1)))), (4, .int (nI (fr + m))), (5, .int (nI (13 + (j + 1))))] ⟨rfl, rfl, rfl, rfl, rfl, trivial⟩ ?_
      refine ih (j + 1) I4 L4 (by omega) ⟨⟨i1.tr (f1.up (by decide) (by decide)), w1, i3.of (f1.1 28 (by decide)), i4.of (f1.1 26 (by decide)) (f1.2 27 (by decide))⟩, fun q hq => by rw [f1.2 37 (by decide)]; exact i5 q hq, fun q hq => ?_⟩
      rw [hx1, n1 q hq, hco]; rfl
set_option maxHeartbeats 1000000 in
theorem r0_hc2 {l : Launch} {K : cK} {d : Nat} {I : wI} {L : wL} {R : wR} {dy : cH} (g : Nat → Int32) (wa : Int32) (lc : Option (List Cl)) (hL : LWc dy (R 21 1) lc) (c fr ti se fl coin per fine : Nat) (T : Nat) (cs : List Cl) (hC : CTX dy T cs) (s0 : Nat) (cm fn : Nat → Nat → Nat) (hcm : cm = cmR g wa (lfO lc)) (hfn : fn = fnR g wa (lfO lc) c fr fine) (co : Nat → Nat → Nat → Nat) (hco : co = thr (txF cs) coin per fr ti se) (hft : fr ≤ ti) (hti : ti ≤ 11) (hd : 5 ≤ d) :
    ∀ (n m : Nat) (I2 : wI) (L2 : wL), m + n = ti + 1 - fr → (FK [22, 23, 30, 31] [22, 24, 30, 32, 37, 38] I L I2 L2 ∧ WW I2 g wa ∧ STA I2 c fr ti se fl coin per fine ∧ SPD I2 L2 fr2 cm s0) ∧ (∀ q, q < 169 → L2 37 q = lN (hS per fr cm co (pt fr2 cm s0 fr) m q)) → GL l K m0_habitCost d 0 0 57 [(0, .ref 29), (1, .ref T), (2, .long (lN (hV coin per fr fl cm fn co (pt fr2 cm s0 fr) m))), (4, .int (nI (fr + m)))] [] (hp I2 L2 R dy) (fun r h => ∃ x : wI × wL, (FK [22, 23, 30, 31] [22, 24, 30, 32, 37, 38] I L x.1 x.2 ∧ WW x.1 g wa ∧ STA x.1 c fr ti se fl coin per fine ∧ SPD x.1 x.2 fr2 cm s0) ∧ r = some (.long (lN (hV coin per fr fl cm fn co (pt fr2 cm s0 fr) (ti + 1 - fr)))) ∧ h = hp x.1 x.2 R dy) := by
  intro n
  induction n with
  | zero =>
    intro m I2 L2 hm hI
    obtain rfl : m = ti + 1 - fr := by omega
    obtain ⟨⟨i1, i2, i3, i4⟩, i5⟩ := id hI
    obtain ⟨u0, u1, u2, u3, u4, u5, u6, u7, u8, u9, u10, u11, u12, u13, u14, u15⟩ := id i3
    refine g_iload d0_habitCost_57 rfl ?_
    refine g_aload_n d0_habitCost_59 rfl ?_
    refine g_get fl0_42 d0_habitCost_60 f_29_1 ?_
    refine g_get fl0_52 d0_habitCost_63 f_28_2 ?_
    refine g_topI (nI (ti)) (u2) ?_
    refine g_ic_gt (((fr + (ti + 1 - fr)) : Nat) : Int) ((ti : Nat) : Int) 143 (nI_ti (by omega)) (nI_ti (by omega)) d0_habitCost_66 rfl (fun _ => ?_) (fun c66 => absurd c66 (by omega))
    refine g_lload_n d0_habitCost_143 rfl ?_
    exact g_lret rfl d0_habitCost_144 (⟨(I2, L2), hI.1, rfl, rfl⟩)
  | succ n ih =>
    intro m I2 L2 hm hI
    obtain ⟨⟨i1, i2, i3, i4⟩, i5⟩ := id hI
    obtain ⟨u0, u1, u2, u3, u4, u5, u6, u7, u8, u9, u10, u11, u12, u13, u14, u15⟩ := id i3
    refine g_iload d0_habitCost_57 rfl ?_
    refine g_aload_n d0_habitCost_59 rfl ?_
    refine g_get fl0_42 d0_habitCost_60 f_29_1 ?_
    refine g_get fl0_52 d0_habitCost_63 f_28_2 ?_
    refine g_topI (nI (ti)) (u2) ?_
    refine g_ic_gt (((fr + m) : Nat) : Int) ((ti : Nat) : Int) 143 (nI_ti (by omega)) (nI_ti (by omega)) d0_habitCost_66 rfl (fun c66 => absurd c66 (by omega)) (fun _ => ?_)
    refine g_aload_n d0_habitCost_69 rfl ?_
    refine g_get fl0_35 d0_habitCost_70 f_29_8 ?_
    refine g_lconstv (0) d0_habitCost_73 rfl ?_
    refine g_VS2 smAr_fillL ml0_46 (rAr_fill_38 0 (Nat.le_refl 0)) (by omega) (Nat.le_of_ble_eq_true rfl) d0_habitCost_74 ?_
    refine g_bipushv (nI 13) d0_habitCost_77 rfl ?_
    refine g_istore d0_habitCost_79 (by decide) ?_
    refine g_lo [(0, .ref 29), (1, .ref T), (2, .long (lN ((hV coin per fr fl cm fn co (pt fr2 cm s0 fr) m) + hvs coin per fr fl cm fn co (hS per fr cm co (pt fr2 cm s0 fr) m) (fr + m) 0))), (4, .int (nI (fr + m))), (5, .int (nI (13 + 0)))] ⟨rfl, rfl, rfl, rfl, rfl, trivial⟩ ?_
    refine r0_hc1 (I := I) (L := L) g wa lc hL c fr ti se fl coin per fine T cs hC s0 cm fn hcm hfn co hco m (by omega) hti hd (fun I3 L3 hO => ?_) 156 0 I2 _ (by omega) ⟨⟨i1.cl (by decide), i2, i3, i4.of rfl (cL_n (by decide))⟩, fun q hq => by rw [cL_n (by decide)]; exact i5 q hq, fun q hq => by rw [cL_s]; exact if_pos hq⟩
    obtain ⟨⟨o1, o2, o3, o4⟩, o5, o6⟩ := hO
    refine g_aload_n d0_habitCost_119 rfl ?_
    refine g_get fl0_35 d0_habitCost_120 f_29_8 ?_
    refine g_iconstv (nI 0) d0_habitCost_123 rfl ?_
    refine g_aload_n d0_habitCost_124 rfl ?_
    refine g_get fl0_32 d0_habitCost_125 f_29_7 ?_
    refine g_iconstv (nI 0) d0_habitCost_128 rfl ?_
    refine g_aload_n d0_habitCost_129 rfl ?_
    refine g_get fl0_32 d0_habitCost_130 f_29_7 ?_
    refine g_alenL d0_habitCost_133 a_37 ?_
    refine g_cpL (h2 := hp I3 (cL L3 37 (va_cpy (L3 38) (L3 37) 0 0 169)) R dy) 0 0 169 mw0_139 a_38 a_37 (by decide) (by decide) (by decide) (by decide) rfl (by omega) (Nat.le_of_ble_eq_true rfl) d0_habitCost_134 ?_
    refine g_iincN d0_habitCost_137 rfl (by decide) ?_
    refine g_goto 57 d0_habitCost_140 rfl ?_
    refine g_lo [(0, .ref 29), (1, .ref T), (2, .long (lN (hV coin per fr fl cm fn co (pt fr2 cm s0 fr) (m + 1)))), (4, .int (nI (fr + (m + 1))))] ⟨rfl, rfl, rfl, rfl, trivial⟩ ?_
    refine ih (m + 1) I3 _ (by omega) ⟨⟨o1.cl (by decide), o2, o3, o4.of rfl (cL_n (by decide))⟩, fun q hq => ?_⟩
    rw [cL_s]
    show (if 0 ≤ q ∧ q < 0 + 169 then L3 38 (0 + (q - 0)) else _) = _
    rw [if_pos (by omega), show 0 + (q - 0) = q by omega, o6 q hq]; rfl
set_option maxHeartbeats 600000 in
theorem r0_habit {l : Launch} {K : cK} {d : Nat} {I : wI} {L : wL} {R : wR} {dy : cH} (g : Nat → Int32) (wa : Int32) (hw : WW I g wa) (lc : Option (List Cl)) (hL : LWc dy (R 21 1) lc) (c fr ti se fl coin per fine : Nat) (hS : STA I c fr ti se fl coin per fine) (T : Nat) (cs : List Cl) (hC : CTX dy T cs) (s0 : Nat) (cm fn : Nat → Nat → Nat) (hcm : cm = cmR g wa (lfO lc)) (hfn : fn = fnR g wa (lfO lc) c fr fine) (hSP : SPD I L fr2 cm s0) (hd : 5 ≤ d) : CX l K m0_habitCost d [.ref 29, .ref T] (hp I L R dy) (α := wI × wL) (fun x => (FK [22, 23, 30, 31] [22, 24, 30, 32, 37, 38] I L x.1 x.2 ∧ WW x.1 g wa ∧ STA x.1 c fr ti se fl coin per fine ∧ SPD x.1 x.2 fr2 cm s0)) (fun _ => .long (lN (hV coin per fr fl cm fn (thr (txF cs) coin per fr ti se) (pt fr2 cm s0 fr) (ti + 1 - fr)))) (fun x => hp x.1 x.2 R dy) := by
  obtain ⟨u0, u1, u2, u3, u4, u5, u6, u7, u8, u9, u10, u11, u12, u13, u14, u15⟩ := id hS
  refine CC.of ok0_habitCost (Nat.le_of_ble_eq_true rfl) ?_
  refine g_aload_n d0_habitCost_0 rfl ?_
  refine g_get fl0_32 d0_habitCost_1 f_29_7 ?_
  refine g_lconstv (0) d0_habitCost_4 rfl ?_
  refine g_VS2 smAr_fillL ml0_46 (rAr_fill_37 0 (Nat.le_refl 0)) (by omega) (Nat.le_of_ble_eq_true rfl) d0_habitCost_5 ?_
  refine g_iconstv (nI 1) d0_habitCost_8 rfl ?_
  refine g_istore_n d0_habitCost_9 (by decide) ?_
  refine g_lo [(0, .ref 29), (1, .ref T), (2, .int (nI (0 + 1)))] ⟨rfl, rfl, rfl, trivial⟩ ?_
  refine r0_hc0 (I := I) (L := L) c fr ti se fl coin per fine hS T (pt fr2 cm s0 fr) (fun k hk => hSP.1 fr (by omega) k hk) (by omega) (fun L3 h1 h2 => ?_) 12 0 _ (by omega) (fun k hk => cL_n hk) (fun q hq => ?_)
  rotate_left
  · rw [cL_s]
    refine (if_pos hq).trans ?_
    by_cases e : q % 13 = 0 ∧ 0 < q ∧ q / 13 ≤ 0
    · omega
    · rw [if_neg e]; rfl
  refine g_lconstv (0) d0_habitCost_46 rfl ?_
  refine g_lstore_n d0_habitCost_47 (by decide) ?_
  refine g_aload_n d0_habitCost_48 rfl ?_
  refine g_get fl0_42 d0_habitCost_49 f_29_1 ?_
  refine g_get fl0_58 d0_habitCost_52 f_28_1 ?_
  refine g_topI (nI (fr)) (u1) ?_
  refine g_istore d0_habitCost_55 (by decide) ?_
  refine g_lo [(0, .ref 29), (1, .ref T), (2, .long (lN (hV coin per fr fl cm fn (thr (txF cs) coin per fr ti se) (pt fr2 cm s0 fr) 0))), (4, .int (nI (fr + 0)))] ⟨rfl, rfl, rfl, rfl, trivial⟩ ?_
  exact r0_hc2 (I := I) (L := L) g wa lc hL c fr ti se fl coin per fine T cs hC s0 cm fn hcm hfn _ rfl u9 u10 hd (ti + 1 - fr) 0 I L3 (by omega) ⟨⟨⟨fun _ _ => rfl, fun k hk => h1 k (fun z => hk (by rw [z]; decide))⟩, hw, hS, hSP.of rfl (h1 27 (by decide))⟩, h2⟩
/-- the habits -/
def HBC (I : wI) (R : wR) (dy : cH) (nh : Nat) (Tf : Nat → Nat) (Cf : Nat → List Cl) : Prop := I 1 6 = nI nh ∧ nh ≤ 6 ∧ ∀ h, h < nh → R 5 h = some (Tf h) ∧ CTX dy (Tf h) (Cf h)
set_option maxHeartbeats 200000 in
theorem r11_habits_n1 {l : Launch} {K : cK} {d : Nat} {I : wI} {L : wL} {R : wR} {dy : cH} (n : Nat) (hn : I 1 0 = nI n) (hn6 : n ≤ 6) (x w : Int32) (hbad : ¬ (0 ≤ x.toInt ∧ x.toInt < n)) (hd : 1 ≤ d) : CE l K m11_habits d [.ref 0, .int x, .int w] (hp I L R dy) (.long (-1)) (hp I L R dy) := by
  refine CC.of ok11_habits (Nat.le_of_ble_eq_true rfl) ?_
  refine g_aload_n d11_habits_0 rfl ?_
  refine g_get fl11_10 d11_habits_1 f_0_0 ?_
  refine g_iload_n d11_habits_4 rfl ?_
  refine g_EV1 vm6_hasCar ml11_125 c_1 (r6_hasCarI  n (by exact hn) hn6 (rfl) (Nat.le_refl 0)) (by omega) (Nat.le_of_ble_eq_true rfl) d11_habits_5 ?_
  refine g_bz 22 d11_habits_8 rfl (fun _ => ?_) (fun c8 => absurd c8 (by omega))
  refine g_ldc2 d11_habits_22 kl11_206 ?_
  exact g_lret rfl d11_habits_25 (⟨rfl, rfl⟩)
set_option maxHeartbeats 200000 in
theorem r11_habits_n2 {l : Launch} {K : cK} {d : Nat} {I : wI} {L : wL} {R : wR} {dy : cH} (n : Nat) (hn : I 1 0 = nI n) (hn6 : n ≤ 6) (nh : Nat) (Tf : Nat → Nat) (Cf : Nat → List Cl) (hH : HBC I R dy nh Tf Cf) (c : Nat) (hc : c < n) (w : Int32) (hbad : ¬ (0 ≤ w.toInt ∧ w.toInt < nh)) (hd : 1 ≤ d) : CE l K m11_habits d [.ref 0, .int (nI c), .int w] (hp I L R dy) (.long (-1)) (hp I L R dy) := by
  refine CC.of ok11_habits (Nat.le_of_ble_eq_true rfl) ?_
  refine g_aload_n d11_habits_0 rfl ?_
  refine g_get fl11_10 d11_habits_1 f_0_0 ?_
  refine g_iload_n d11_habits_4 rfl ?_
  refine g_EV1 vm6_hasCar ml11_125 c_1 (r6_hasCarI (xi := ((c : Nat) : Int)) n (by exact hn) hn6 (nI_ti (by omega)) (Nat.le_refl 0)) (by omega) (Nat.le_of_ble_eq_true rfl) d11_habits_5 ?_
  refine g_bz 22 d11_habits_8 rfl (fun c8 => absurd (by omega) c8) (fun _ => ?_)
  refine g_aload_n d11_habits_11 rfl ?_
  refine g_get fl11_10 d11_habits_12 f_0_0 ?_
  refine g_iload_n d11_habits_15 rfl ?_
  refine g_EV1 vm6_hasHabit ml11_249 c_1 (r6_hasHabitI  nh hH.1 hH.2.1 rfl (Nat.le_refl 0)) (by omega) (Nat.le_of_ble_eq_true rfl) d11_habits_16 ?_
  refine g_bnz 26 d11_habits_19 rfl (fun c19 => absurd c19 (hbad)) (fun _ => ?_)
  refine g_ldc2 d11_habits_22 kl11_206 ?_
  exact g_lret rfl d11_habits_25 (⟨rfl, rfl⟩)
set_option maxHeartbeats 400000 in
theorem r11_habits_ok {l : Launch} {K : cK} {d : Nat} {I : wI} {L : wL} {R : wR} {dy : cH} (g : Nat → Int32) (hg : g 9 = I 3 3 ∧ g 13 = I 3 7) (s0 : Nat) (h34 : I 3 4 = nI s0) (hs1 : 1 ≤ s0) (hs2 : s0 ≤ 12) (o : Option Nat) (lc : Option (List Cl)) (hO : CLF I R dy (I 1 5) o lc) (c fr ti se fl coin per fine : Nat) (hC : CC1 I c fr ti se fl) (hT : CT I coin per fine) (n : Nat) (hn : I 1 0 = nI n) (hn6 : n ≤ 6) (hcn : c < n) (nh : Nat) (Tf : Nat → Nat) (Cf : Nat → List Cl) (hH : HBC I R dy nh Tf Cf) (h : Nat) (hh : h < nh) (hd : 7 ≤ d) : CX l K m11_habits d [.ref 0, .int (nI c), .int (nI h)] (hp I L R dy) (α := wI × wL) (fun x => FK [22, 23, 25, 26, 28, 30, 31, 36, 39, 40, 41, 51, 52] [22, 24, 27, 30, 32, 33, 34, 35, 37, 38, 39, 42, 43, 51, 53, 54] I L x.1 x.2) (fun _ => .long (lN (hV coin per fr fl (cmR g (I 3 5) (lfO lc)) (fnR g (I 3 5) (lfO lc) c fr fine) (thr (txF (Cf h)) coin per fr ti se) (pt fr2 (cmR g (I 3 5) (lfO lc)) s0 fr) (ti + 1 - fr)))) (fun x => hp x.1 x.2 (uR R 21 1 o) dy) := by
  have hh6 := hH.2.1
  obtain ⟨hr5, hcx⟩ := hH.2.2 h hh
  refine CC.of ok11_habits (Nat.le_of_ble_eq_true rfl) ?_
  refine g_aload_n d11_habits_0 rfl ?_
  refine g_get fl11_10 d11_habits_1 f_0_0 ?_
  refine g_iload_n d11_habits_4 rfl ?_
  refine g_EV1 vm6_hasCar ml11_125 c_1 (r6_hasCarI (xi := ((c : Nat) : Int)) n (by exact hn) hn6 (nI_ti (by omega)) (Nat.le_refl 0)) (by omega) (Nat.le_of_ble_eq_true rfl) d11_habits_5 ?_
  refine g_bz 22 d11_habits_8 rfl (fun c8 => absurd (by omega) c8) (fun _ => ?_)
  refine g_aload_n d11_habits_11 rfl ?_
  refine g_get fl11_10 d11_habits_12 f_0_0 ?_
  refine g_iload_n d11_habits_15 rfl ?_
  refine g_EV1 vm6_hasHabit ml11_249 c_1 (r6_hasHabitI (xi := ((h : Nat) : Int)) nh hH.1 hH.2.1 (nI_ti (by omega)) (Nat.le_refl 0)) (by omega) (Nat.le_of_ble_eq_true rfl) d11_habits_16 ?_
  refine g_bnz 26 d11_habits_19 rfl (fun _ => ?_) (fun c19 => absurd (by omega) c19)
  refine g_aload_n d11_habits_26 rfl ?_
  refine g_iload_n d11_habits_27 rfl ?_
  refine g_WV1 vm11_lookAt ml11_218 c_0 (r11_lookAt g hg s0 h34 hs1 hs2 o lc hO c fr ti se fl coin per fine hC hT (Nat.le_refl 6)) (by omega) (Nat.le_of_ble_eq_true rfl) d11_habits_28 (fun x hx => ?_)
  obtain ⟨I2, L2⟩ := x
  obtain ⟨f1, w1, p1, z1⟩ := hx
  dsimp only at f1 w1 p1 z1 ⊢
  obtain ⟨v0, v1, v2, v3, v4, v5, v6, v7, v8, v9, v10, v11, v12, v13, v14, v15⟩ := id z1
  refine g_aload_n d11_habits_31 rfl ?_
  refine g_get fl11_59 d11_habits_32 f_0_7 ?_
  refine g_aload_n d11_habits_35 rfl ?_
  refine g_get fl11_10 d11_habits_36 f_0_0 ?_
  refine g_get fl11_169 d11_habits_39 f_1_7 ?_
  refine g_iload_n d11_habits_42 rfl ?_
  refine g_aaldN (h) 3 "CoinsWarden$Text" (by decide) d11_habits_43 a_5 (rfl) (by omega) (by decide) ?_
  refine g_topV (.ref (Tf h)) (by rw [uR_n (by decide), hr5]; rfl) ?_
  refine g_XV1 vm0_habitCost ml11_252 c_29 (r0_habit (I := I2) (L := L2) g (I 3 5) w1 lc hO.lw c fr ti se fl coin per fine z1 (Tf h) (Cf h) (hH.2.2 h (by omega)).2 s0 (cmR g (I 3 5) (lfO lc)) (fnR g (I 3 5) (lfO lc) c fr fine) rfl rfl p1 (Nat.le_refl 5)) (by omega) (Nat.le_of_ble_eq_true rfl) d11_habits_44 (fun y hy => ?_)
  exact g_lret rfl d11_habits_47 (⟨y, (f1.up (by decide) (by decide)).tr (hy.1.up (by decide) (by decide)), rfl, rfl⟩)
set_option maxHeartbeats 200000 in
theorem r11_advice_no {l : Launch} {K : cK} {d : Nat} {I : wI} {L : wL} {R : wR} {dy : cH} (n : Nat) (hn : I 1 0 = nI n) (hn6 : n ≤ 6) (x : Int32) (hbad : ¬ (0 ≤ x.toInt ∧ x.toInt < n)) (hd : 1 ≤ d) : CE l K m11_advice d [.ref 0, .int x] (hp I L R dy) (.int (-1)) (hp I L R dy) := by
  refine CC.of ok11_advice (Nat.le_of_ble_eq_true rfl) ?_
  refine g_aload_n d11_advice_0 rfl ?_
  refine g_get fl11_10 d11_advice_1 f_0_0 ?_
  refine g_iload_n d11_advice_4 rfl ?_
  refine g_EV1 vm6_hasCar ml11_125 c_1 (r6_hasCarI  n (by exact hn) hn6 (rfl) (Nat.le_refl 0)) (by omega) (Nat.le_of_ble_eq_true rfl) d11_advice_5 ?_
  refine g_bnz 13 d11_advice_8 rfl (fun c8 => absurd c8 (hbad)) (fun _ => ?_)
  refine g_iconstv ((-1 : Int32)) d11_advice_11 rfl ?_
  exact g_iret rfl d11_advice_12 (⟨rfl, rfl⟩)
theorem av_n {v : Nat → Nat} : ∀ j, (∀ i, i < j → v i < 4000000000000000000) → 0 < j → ∃ b, b < j ∧ (av v j).2 = nI b
  | 0, _, h => absurd h (by decide)
  | j + 1, hv, _ => by
    have e : av v (j + 1) = if v j < (av v j).1 then (v j, nI j) else av v j := rfl
    by_cases h : v j < (av v j).1
    · rw [e, if_pos h]; exact ⟨j, by omega, rfl⟩
    · by_cases h0 : j = 0
      · subst h0; exact absurd (hv 0 (by omega)) h
      · obtain ⟨b, h1, h2⟩ := av_n (v := v) j (fun i hi => hv i (by omega)) (by omega)
        rw [e, if_neg h]; exact ⟨b, by omega, h2⟩
set_option maxHeartbeats 1000000 in
theorem r11_adL {l : Launch} {K : cK} {d : Nat} {I : wI} {L : wL} {R : wR} {dy : cH} (g : Nat → Int32) (hg : g 9 = I 3 3 ∧ g 13 = I 3 7) (s0 : Nat) (h34 : I 3 4 = nI s0) (hs1 : 1 ≤ s0) (hs2 : s0 ≤ 12) (o : Option Nat) (lc : Option (List Cl)) (hO : CLF I R dy (I 1 5) o lc) (c fr ti se fl coin per fine : Nat) (hC : CC1 I c fr ti se fl) (hT : CT I coin per fine) (n : Nat) (hn : I 1 0 = nI n) (hn6 : n ≤ 6) (hcn : c < n) (nh : Nat) (Tf : Nat → Nat) (Cf : Nat → List Cl) (hH : HBC I R dy nh Tf Cf) (hbig : ∀ h, h < nh → (fun h => (hV coin per fr fl (cmR g (I 3 5) (lfO lc)) (fnR g (I 3 5) (lfO lc) c fr fine) (thr (txF (Cf h)) coin per fr ti se) (pt fr2 (cmR g (I 3 5) (lfO lc)) s0 fr) (ti + 1 - fr))) h < 4000000000000000000) (hd : 6 ≤ d) :
    ∀ (m j : Nat) (I2 : wI) (L2 : wL) (bst : Int32) (lst : Int64), j + m = nh → (FK [22, 23, 25, 26, 28, 30, 31, 36, 39, 40, 41, 51, 52] [22, 24, 27, 30, 32, 33, 34, 35, 37, 38, 39, 42, 43, 51, 53, 54] I L I2 L2 ∧ WW I2 g (I 3 5) ∧ STA I2 c fr ti se fl coin per fine ∧ SPD I2 L2 fr2 (cmR g (I 3 5) (lfO lc)) s0) → (j = 0 ∧ bst = -1 ∨ 0 < j ∧ bst = (av (fun h => (hV coin per fr fl (cmR g (I 3 5) (lfO lc)) (fnR g (I 3 5) (lfO lc) c fr fine) (thr (txF (Cf h)) coin per fr ti se) (pt fr2 (cmR g (I 3 5) (lfO lc)) s0 fr) (ti + 1 - fr))) j).2 ∧ lst = lN (av (fun h => (hV coin per fr fl (cmR g (I 3 5) (lfO lc)) (fnR g (I 3 5) (lfO lc) c fr fine) (thr (txF (Cf h)) coin per fr ti se) (pt fr2 (cmR g (I 3 5) (lfO lc)) s0 fr) (ti + 1 - fr))) j).1) → GL l K m11_advice d 0 0 25 [(0, .ref 0), (2, .int bst), (3, .long lst), (5, .int (nI j))] [] (hp I2 L2 (uR R 21 1 o) dy) (fun r h => ∃ x : wI × wL, FK [22, 23, 25, 26, 28, 30, 31, 36, 39, 40, 41, 51, 52] [22, 24, 27, 30, 32, 33, 34, 35, 37, 38, 39, 42, 43, 51, 53, 54] I L x.1 x.2 ∧ r = some (.int (av (fun h => (hV coin per fr fl (cmR g (I 3 5) (lfO lc)) (fnR g (I 3 5) (lfO lc) c fr fine) (thr (txF (Cf h)) coin per fr ti se) (pt fr2 (cmR g (I 3 5) (lfO lc)) s0 fr) (ti + 1 - fr))) nh).2) ∧ h = hp x.1 x.2 (uR R 21 1 o) dy) := by
  have hh6 := hH.2.1
  intro m
  induction m with
  | zero =>
    intro j I2 L2 bst lst hj hI hb
    obtain rfl : j = nh := by omega
    have hbv : bst = (av (fun h => (hV coin per fr fl (cmR g (I 3 5) (lfO lc)) (fnR g (I 3 5) (lfO lc) c fr fine) (thr (txF (Cf h)) coin per fr ti se) (pt fr2 (cmR g (I 3 5) (lfO lc)) s0 fr) (ti + 1 - fr))) j).2 := by
      rcases hb with ⟨h1, h2⟩ | ⟨_, h2, _⟩
      · rw [h1, h2]; rfl
      · exact h2
    have e16 : I2 1 6 = nI j := by rw [hI.1.1 1 (by decide)]; exact hH.1
    refine g_iload d11_advice_25 rfl ?_
    refine g_aload_n d11_advice_27 rfl ?_
    refine g_get fl11_10 d11_advice_28 f_0_0 ?_
    refine g_get fl11_172 d11_advice_31 f_1_6 ?_
    refine g_topI (nI (j)) (e16) ?_
    refine g_ic_ge ((j : Nat) : Int) ((j : Nat) : Int) 80 (nI_ti (by omega)) (nI_ti (by omega)) d11_advice_34 rfl (fun _ => ?_) (fun c34 => absurd c34 (by omega))
    refine g_iload_n d11_advice_80 rfl ?_
    exact g_iret rfl d11_advice_81 (⟨(I2, L2), hI.1, by rw [hbv], rfl⟩)
  | succ m ih =>
    intro j I2 L2 bst lst hj hI hb
    obtain ⟨i1, i2, i3, i4⟩ := hI
    obtain ⟨hr5, hcx⟩ := hH.2.2 j (by omega)
    have e16 : I2 1 6 = nI nh := by rw [i1.1 1 (by decide)]; exact hH.1
    have hb1 := hbig j (by omega)
    have hav : av (fun h => (hV coin per fr fl (cmR g (I 3 5) (lfO lc)) (fnR g (I 3 5) (lfO lc) c fr fine) (thr (txF (Cf h)) coin per fr ti se) (pt fr2 (cmR g (I 3 5) (lfO lc)) s0 fr) (ti + 1 - fr))) (j + 1) = if (fun h => (hV coin per fr fl (cmR g (I 3 5) (lfO lc)) (fnR g (I 3 5) (lfO lc) c fr fine) (thr (txF (Cf h)) coin per fr ti se) (pt fr2 (cmR g (I 3 5) (lfO lc)) s0 fr) (ti + 1 - fr))) j < (av (fun h => (hV coin per fr fl (cmR g (I 3 5) (lfO lc)) (fnR g (I 3 5) (lfO lc) c fr fine) (thr (txF (Cf h)) coin per fr ti se) (pt fr2 (cmR g (I 3 5) (lfO lc)) s0 fr) (ti + 1 - fr))) j).1 then ((fun h => (hV coin per fr fl (cmR g (I 3 5) (lfO lc)) (fnR g (I 3 5) (lfO lc) c fr fine) (thr (txF (Cf h)) coin per fr ti se) (pt fr2 (cmR g (I 3 5) (lfO lc)) s0 fr) (ti + 1 - fr))) j, nI j) else av (fun h => (hV coin per fr fl (cmR g (I 3 5) (lfO lc)) (fnR g (I 3 5) (lfO lc) c fr fine) (thr (txF (Cf h)) coin per fr ti se) (pt fr2 (cmR g (I 3 5) (lfO lc)) s0 fr) (ti + 1 - fr))) j := rfl
    generalize hvj : (fun h => (hV coin per fr fl (cmR g (I 3 5) (lfO lc)) (fnR g (I 3 5) (lfO lc) c fr fine) (thr (txF (Cf h)) coin per fr ti se) (pt fr2 (cmR g (I 3 5) (lfO lc)) s0 fr) (ti + 1 - fr))) j = vj at *
    have hvj2 : (hV coin per fr fl (cmR g (I 3 5) (lfO lc)) (fnR g (I 3 5) (lfO lc) c fr fine) (thr (txF (Cf j)) coin per fr ti se) (pt fr2 (cmR g (I 3 5) (lfO lc)) s0 fr) (ti + 1 - fr)) = vj := hvj
    rcases hb with ⟨h1, h2⟩ | ⟨h0, h2, h3⟩
    · have ea : av (fun h => (hV coin per fr fl (cmR g (I 3 5) (lfO lc)) (fnR g (I 3 5) (lfO lc) c fr fine) (thr (txF (Cf h)) coin per fr ti se) (pt fr2 (cmR g (I 3 5) (lfO lc)) s0 fr) (ti + 1 - fr))) (j + 1) = (vj, nI j) := by rw [hav, if_pos (by rw [h1]; exact hb1)]
      subst h2
      refine g_iload d11_advice_25 rfl ?_
      refine g_aload_n d11_advice_27 rfl ?_
      refine g_get fl11_10 d11_advice_28 f_0_0 ?_
      refine g_get fl11_172 d11_advice_31 f_1_6 ?_
      refine g_topI (nI (nh)) (e16) ?_
      refine g_ic_ge ((j : Nat) : Int) ((nh : Nat) : Int) 80 (nI_ti (by omega)) (nI_ti (by omega)) d11_advice_34 rfl (fun c34 => absurd c34 (by omega)) (fun _ => ?_)
      refine g_aload_n d11_advice_37 rfl ?_
      refine g_get fl11_59 d11_advice_38 f_0_7 ?_
      refine g_aload_n d11_advice_41 rfl ?_
      refine g_get fl11_10 d11_advice_42 f_0_0 ?_
      refine g_get fl11_169 d11_advice_45 f_1_7 ?_
      refine g_iload d11_advice_48 rfl ?_
      refine g_aaldN (j) 3 "CoinsWarden$Text" (by decide) d11_advice_50 a_5 (rfl) (by omega) (by decide) ?_
      refine g_topV (.ref (Tf j)) (by rw [uR_n (by decide), hr5]; rfl) ?_
      refine g_XV1 vm0_habitCost ml11_252 c_29 (r0_habit (I := I2) (L := L2) g (I 3 5) i2 lc hO.lw c fr ti se fl coin per fine i3 (Tf j) (Cf j) (hH.2.2 j (by omega)).2 s0 (cmR g (I 3 5) (lfO lc)) (fnR g (I 3 5) (lfO lc) c fr fine) rfl rfl i4 (Nat.le_refl 5)) (by omega) (Nat.le_of_ble_eq_true rfl) d11_advice_51 (fun y hy => ?_)
      refine g_topL (lN (vj)) (by rw [hvj2]) ?_
      obtain ⟨I4, L4⟩ := y
      obtain ⟨f1, w1, z1, p1⟩ := hy
      dsimp only at f1 w1 z1 p1 ⊢
      refine g_lstore d11_advice_54 (by decide) ?_
      refine g_iload_n d11_advice_56 rfl ?_
      refine g_iconstv ((-1 : Int32)) d11_advice_57 rfl ?_
      refine g_ic_eq (-1) (-1) 68 (by decide) (by decide) d11_advice_58 rfl (fun _ => ?_) (fun c58 => absurd c58 (by decide))
      refine g_iload d11_advice_68 rfl ?_
      refine g_istore_n d11_advice_70 (by decide) ?_
      refine g_lload d11_advice_71 rfl ?_
      refine g_lstore_n d11_advice_73 (by decide) ?_
      refine g_iincN d11_advice_74 rfl (by decide) ?_
      refine g_goto 25 d11_advice_77 rfl ?_
      refine g_lo [(0, .ref 0), (2, .int (nI j)), (3, .long (lN vj)), (5, .int (nI (j + 1)))] ⟨rfl, rfl, rfl, rfl, trivial⟩ ?_
      exact ih (j + 1) I4 L4 _ _ (by omega) ⟨i1.tr (f1.up (by decide) (by decide)), w1, z1, p1⟩ (Or.inr ⟨by omega, by rw [ea], by rw [ea]⟩)
    · obtain ⟨b, hb2, hb3⟩ := av_n (v := (fun h => (hV coin per fr fl (cmR g (I 3 5) (lfO lc)) (fnR g (I 3 5) (lfO lc) c fr fine) (thr (txF (Cf h)) coin per fr ti se) (pt fr2 (cmR g (I 3 5) (lfO lc)) s0 fr) (ti + 1 - fr)))) j (fun i hi => hbig i (by omega)) h0
      rw [hb3] at h2
      have hl9 := av_le (fun h => (hV coin per fr fl (cmR g (I 3 5) (lfO lc)) (fnR g (I 3 5) (lfO lc) c fr fine) (thr (txF (Cf h)) coin per fr ti se) (pt fr2 (cmR g (I 3 5) (lfO lc)) s0 fr) (ti + 1 - fr))) j
      subst h2
      subst h3
      by_cases hlt : vj < (av (fun h => (hV coin per fr fl (cmR g (I 3 5) (lfO lc)) (fnR g (I 3 5) (lfO lc) c fr fine) (thr (txF (Cf h)) coin per fr ti se) (pt fr2 (cmR g (I 3 5) (lfO lc)) s0 fr) (ti + 1 - fr))) j).1
      · have ea : av (fun h => (hV coin per fr fl (cmR g (I 3 5) (lfO lc)) (fnR g (I 3 5) (lfO lc) c fr fine) (thr (txF (Cf h)) coin per fr ti se) (pt fr2 (cmR g (I 3 5) (lfO lc)) s0 fr) (ti + 1 - fr))) (j + 1) = (vj, nI j) := by rw [hav, if_pos hlt]
        refine g_iload d11_advice_25 rfl ?_
        refine g_aload_n d11_advice_27 rfl ?_
        refine g_get fl11_10 d11_advice_28 f_0_0 ?_
        refine g_get fl11_172 d11_advice_31 f_1_6 ?_
        refine g_topI (nI (nh)) (e16) ?_
        refine g_ic_ge ((j : Nat) : Int) ((nh : Nat) : Int) 80 (nI_ti (by omega)) (nI_ti (by omega)) d11_advice_34 rfl (fun c34 => absurd c34 (by omega)) (fun _ => ?_)
        refine g_aload_n d11_advice_37 rfl ?_
        refine g_get fl11_59 d11_advice_38 f_0_7 ?_
        refine g_aload_n d11_advice_41 rfl ?_
        refine g_get fl11_10 d11_advice_42 f_0_0 ?_
        refine g_get fl11_169 d11_advice_45 f_1_7 ?_
        refine g_iload d11_advice_48 rfl ?_
        refine g_aaldN (j) 3 "CoinsWarden$Text" (by decide) d11_advice_50 a_5 (rfl) (by omega) (by decide) ?_
        refine g_topV (.ref (Tf j)) (by rw [uR_n (by decide), hr5]; rfl) ?_
        refine g_XV1 vm0_habitCost ml11_252 c_29 (r0_habit (I := I2) (L := L2) g (I 3 5) i2 lc hO.lw c fr ti se fl coin per fine i3 (Tf j) (Cf j) (hH.2.2 j (by omega)).2 s0 (cmR g (I 3 5) (lfO lc)) (fnR g (I 3 5) (lfO lc) c fr fine) rfl rfl i4 (Nat.le_refl 5)) (by omega) (Nat.le_of_ble_eq_true rfl) d11_advice_51 (fun y hy => ?_)
        refine g_topL (lN (vj)) (by rw [hvj2]) ?_
        obtain ⟨I4, L4⟩ := y
        obtain ⟨f1, w1, z1, p1⟩ := hy
        dsimp only at f1 w1 z1 p1 ⊢
        refine g_lstore d11_advice_54 (by decide) ?_
        refine g_iload_n d11_advice_56 rfl ?_
        refine g_iconstv ((-1 : Int32)) d11_advice_57 rfl ?_
        refine g_ic_eq ((b : Nat) : Int) (-1) 68 (nI_ti (by omega)) (by decide) d11_advice_58 rfl (fun c58 => absurd c58 (by omega)) (fun _ => ?_)
        refine g_lload d11_advice_61 rfl ?_
        refine g_lload_n d11_advice_63 rfl ?_
        refine g_lx_ge ((vj : Nat) : Int) (((av (fun h => (hV coin per fr fl (cmR g (I 3 5) (lfO lc)) (fnR g (I 3 5) (lfO lc) c fr fine) (thr (txF (Cf h)) coin per fr ti se) (pt fr2 (cmR g (I 3 5) (lfO lc)) s0 fr) (ti + 1 - fr))) j).1 : Nat) : Int) 74 (pk_lT (by omega)) (pk_lT (by omega)) d11_advice_64 d11_advice_65 rfl (fun c64 => absurd c64 (by omega)) (fun _ => ?_)
        refine g_iload d11_advice_68 rfl ?_
        refine g_istore_n d11_advice_70 (by decide) ?_
        refine g_lload d11_advice_71 rfl ?_
        refine g_lstore_n d11_advice_73 (by decide) ?_
        refine g_iincN d11_advice_74 rfl (by decide) ?_
        refine g_goto 25 d11_advice_77 rfl ?_
        refine g_lo [(0, .ref 0), (2, .int (nI j)), (3, .long (lN vj)), (5, .int (nI (j + 1)))] ⟨rfl, rfl, rfl, rfl, trivial⟩ ?_
        exact ih (j + 1) I4 L4 _ _ (by omega) ⟨i1.tr (f1.up (by decide) (by decide)), w1, z1, p1⟩ (Or.inr ⟨by omega, by rw [ea], by rw [ea]⟩)
      · have ea : av (fun h => (hV coin per fr fl (cmR g (I 3 5) (lfO lc)) (fnR g (I 3 5) (lfO lc) c fr fine) (thr (txF (Cf h)) coin per fr ti se) (pt fr2 (cmR g (I 3 5) (lfO lc)) s0 fr) (ti + 1 - fr))) (j + 1) = av (fun h => (hV coin per fr fl (cmR g (I 3 5) (lfO lc)) (fnR g (I 3 5) (lfO lc) c fr fine) (thr (txF (Cf h)) coin per fr ti se) (pt fr2 (cmR g (I 3 5) (lfO lc)) s0 fr) (ti + 1 - fr))) j := by rw [hav, if_neg hlt]
        refine g_iload d11_advice_25 rfl ?_
        refine g_aload_n d11_advice_27 rfl ?_
        refine g_get fl11_10 d11_advice_28 f_0_0 ?_
        refine g_get fl11_172 d11_advice_31 f_1_6 ?_
        refine g_topI (nI (nh)) (e16) ?_
        refine g_ic_ge ((j : Nat) : Int) ((nh : Nat) : Int) 80 (nI_ti (by omega)) (nI_ti (by omega)) d11_advice_34 rfl (fun c34 => absurd c34 (by omega)) (fun _ => ?_)
        refine g_aload_n d11_advice_37 rfl ?_
        refine g_get fl11_59 d11_advice_38 f_0_7 ?_
        refine g_aload_n d11_advice_41 rfl ?_
        refine g_get fl11_10 d11_advice_42 f_0_0 ?_
        refine g_get fl11_169 d11_advice_45 f_1_7 ?_
        refine g_iload d11_advice_48 rfl ?_
        refine g_aaldN (j) 3 "CoinsWarden$Text" (by decide) d11_advice_50 a_5 (rfl) (by omega) (by decide) ?_
        refine g_topV (.ref (Tf j)) (by rw [uR_n (by decide), hr5]; rfl) ?_
        refine g_XV1 vm0_habitCost ml11_252 c_29 (r0_habit (I := I2) (L := L2) g (I 3 5) i2 lc hO.lw c fr ti se fl coin per fine i3 (Tf j) (Cf j) (hH.2.2 j (by omega)).2 s0 (cmR g (I 3 5) (lfO lc)) (fnR g (I 3 5) (lfO lc) c fr fine) rfl rfl i4 (Nat.le_refl 5)) (by omega) (Nat.le_of_ble_eq_true rfl) d11_advice_51 (fun y hy => ?_)
        refine g_topL (lN (vj)) (by rw [hvj2]) ?_
        obtain ⟨I4, L4⟩ := y
        obtain ⟨f1, w1, z1, p1⟩ := hy
        dsimp only at f1 w1 z1 p1 ⊢
        refine g_lstore d11_advice_54 (by decide) ?_
        refine g_iload_n d11_advice_56 rfl ?_
        refine g_iconstv ((-1 : Int32)) d11_advice_57 rfl ?_
        refine g_ic_eq ((b : Nat) : Int) (-1) 68 (nI_ti (by omega)) (by decide) d11_advice_58 rfl (fun c58 => absurd c58 (by omega)) (fun _ => ?_)
        refine g_lload d11_advice_61 rfl ?_
        refine g_lload_n d11_advice_63 rfl ?_
        refine g_lx_ge ((vj : Nat) : Int) (((av (fun h => (hV coin per fr fl (cmR g (I 3 5) (lfO lc)) (fnR g (I 3 5) (lfO lc) c fr fine) (thr (txF (Cf h)) coin per fr ti se) (pt fr2 (cmR g (I 3 5) (lfO lc)) s0 fr) (ti + 1 - fr))) j).1 : Nat) : Int) 74 (pk_lT (by omega)) (pk_lT (by omega)) d11_advice_64 d11_advice_65 rfl (fun _ => ?_) (fun c64 => absurd c64 (by omega))
        refine g_iincN d11_advice_74 rfl (by decide) ?_
        refine g_goto 25 d11_advice_77 rfl ?_
        refine g_lo [(0, .ref 0), (2, .int (nI b)), (3, .long (lN (av (fun h => (hV coin per fr fl (cmR g (I 3 5) (lfO lc)) (fnR g (I 3 5) (lfO lc) c fr fine) (thr (txF (Cf h)) coin per fr ti se) (pt fr2 (cmR g (I 3 5) (lfO lc)) s0 fr) (ti + 1 - fr))) j).1)), (5, .int (nI (j + 1)))] ⟨rfl, rfl, rfl, rfl, trivial⟩ ?_
        exact ih (j + 1) I4 L4 _ _ (by omega) ⟨i1.tr (f1.up (by decide) (by decide)), w1, z1, p1⟩ (Or.inr ⟨by omega, by rw [ea, hb3], by rw [ea]⟩)
set_option maxHeartbeats 400000 in
theorem r11_advice_ok {l : Launch} {K : cK} {d : Nat} {I : wI} {L : wL} {R : wR} {dy : cH} (g : Nat → Int32) (hg : g 9 = I 3 3 ∧ g 13 = I 3 7) (s0 : Nat) (h34 : I 3 4 = nI s0) (hs1 : 1 ≤ s0) (hs2 : s0 ≤ 12) (o : Option Nat) (lc : Option (List Cl)) (hO : CLF I R dy (I 1 5) o lc) (c fr ti se fl coin per fine : Nat) (hC : CC1 I c fr ti se fl) (hT : CT I coin per fine) (n : Nat) (hn : I 1 0 = nI n) (hn6 : n ≤ 6) (hcn : c < n) (nh : Nat) (Tf : Nat → Nat) (Cf : Nat → List Cl) (hH : HBC I R dy nh Tf Cf) (hd : 7 ≤ d) : CX l K m11_advice d [.ref 0, .int (nI c)] (hp I L R dy) (α := wI × wL) (fun x => FK [22, 23, 25, 26, 28, 30, 31, 36, 39, 40, 41, 51, 52] [22, 24, 27, 30, 32, 33, 34, 35, 37, 38, 39, 42, 43, 51, 53, 54] I L x.1 x.2) (fun _ => .int (av (fun h => (hV coin per fr fl (cmR g (I 3 5) (lfO lc)) (fnR g (I 3 5) (lfO lc) c fr fine) (thr (txF (Cf h)) coin per fr ti se) (pt fr2 (cmR g (I 3 5) (lfO lc)) s0 fr) (ti + 1 - fr))) nh).2) (fun x => hp x.1 x.2 (uR R 21 1 o) dy) := by
  have hh6 := hH.2.1
  have hbig : ∀ h, h < nh → (fun h => (hV coin per fr fl (cmR g (I 3 5) (lfO lc)) (fnR g (I 3 5) (lfO lc) c fr fine) (thr (txF (Cf h)) coin per fr ti se) (pt fr2 (cmR g (I 3 5) (lfO lc)) s0 fr) (ti + 1 - fr))) h < 4000000000000000000 := fun h hh => by
    have z := hV_le coin per fr fl (cmR g (I 3 5) (lfO lc)) (fnR g (I 3 5) (lfO lc) c fr fine) (thr (txF (Cf h)) coin per fr ti se) (pt fr2 (cmR g (I 3 5) (lfO lc)) s0 fr) (cmR_le _ _ _) (fun a b => fnR_le _ _ _ _ _ a b hT.2.2.2.2.2.2) hT.2.1 hC.2.2.2.2.2.2.2.2 (fun a b e => thr_le _ _ _ _ _ _ _ _ _) (pt_sum _ _ _ (cmR_le _ _ _) fr) (ti + 1 - fr)
    have z2 : (ti + 1 - fr) * 216000000000000 ≤ 12 * 216000000000000 := Nat.mul_le_mul_right _ (by have := hC.2.2.2.2.2.2.1; omega)
    show (hV coin per fr fl (cmR g (I 3 5) (lfO lc)) (fnR g (I 3 5) (lfO lc) c fr fine) (thr (txF (Cf h)) coin per fr ti se) (pt fr2 (cmR g (I 3 5) (lfO lc)) s0 fr) (ti + 1 - fr)) < _
    omega
  refine CC.of ok11_advice (Nat.le_of_ble_eq_true rfl) ?_
  refine g_aload_n d11_advice_0 rfl ?_
  refine g_get fl11_10 d11_advice_1 f_0_0 ?_
  refine g_iload_n d11_advice_4 rfl ?_
  refine g_EV1 vm6_hasCar ml11_125 c_1 (r6_hasCarI (xi := ((c : Nat) : Int)) n (by exact hn) hn6 (nI_ti (by omega)) (Nat.le_refl 0)) (by omega) (Nat.le_of_ble_eq_true rfl) d11_advice_5 ?_
  refine g_bnz 13 d11_advice_8 rfl (fun _ => ?_) (fun c8 => absurd (by omega) c8)
  refine g_aload_n d11_advice_13 rfl ?_
  refine g_iload_n d11_advice_14 rfl ?_
  refine g_WV1 vm11_lookAt ml11_218 c_0 (r11_lookAt g hg s0 h34 hs1 hs2 o lc hO c fr ti se fl coin per fine hC hT (Nat.le_refl 6)) (by omega) (Nat.le_of_ble_eq_true rfl) d11_advice_15 (fun x hx => ?_)
  obtain ⟨I2, L2⟩ := x
  obtain ⟨f1, w1, p1, z1⟩ := hx
  dsimp only at f1 w1 p1 z1 ⊢
  obtain ⟨v0, v1, v2, v3, v4, v5, v6, v7, v8, v9, v10, v11, v12, v13, v14, v15⟩ := id z1
  refine g_iconstv ((-1 : Int32)) d11_advice_18 rfl ?_
  refine g_istore_n d11_advice_19 (by decide) ?_
  refine g_lconstv (0) d11_advice_20 rfl ?_
  refine g_lstore_n d11_advice_21 (by decide) ?_
  refine g_iconstv (nI 0) d11_advice_22 rfl ?_
  refine g_istore d11_advice_23 (by decide) ?_
  refine g_lo [(0, .ref 0), (2, .int (-1)), (3, .long 0), (5, .int (nI 0))] ⟨rfl, rfl, rfl, rfl, trivial⟩ ?_
  exact r11_adL g hg s0 h34 hs1 hs2 o lc hO c fr ti se fl coin per fine hC hT n hn hn6 hcn nh Tf Cf hH hbig (by omega) nh 0 I2 L2 (-1) 0 (by omega) ⟨f1.up (by decide) (by decide), w1, z1, p1⟩ (Or.inl ⟨rfl, rfl⟩)
