theorem pt_dvd (m : Nat → Nat) (cm : Nat → Nat → Nat) (s0 : Nat) : ∀ s, s ≤ 12 → ∀ j, 10 ^ (12 - s) ∣ pt m cm s0 s j
  | 0, _, j => by
    show 10 ^ 12 ∣ (if j = s0 then 1000000000000 else 0)
    by_cases h : j = s0
    · rw [if_pos h]; exact ⟨1, rfl⟩
    · rw [if_neg h]; exact ⟨0, rfl⟩
  | s + 1, hs, j => by
    have ih := pt_dvd m cm s0 s (by omega)
    have h1 : ∀ k, 10 ^ (12 - (s + 1)) ∣ pt m cm s0 s k / 10 := fun k => by
      obtain ⟨q, hq⟩ := ih k
      rw [show 12 - s = (12 - (s + 1)) + 1 by omega, Nat.pow_succ] at hq
      refine ⟨q, ?_⟩
      rw [hq, Nat.mul_assoc, Nat.mul_comm 10 q, ← Nat.mul_assoc, Nat.mul_div_cancel _ (by decide)]
    show 10 ^ (12 - (s + 1)) ∣ sp (m s) (cm s) (pt m cm s0 s) 12 j
    have h2 : ∀ n, 10 ^ (12 - (s + 1)) ∣ sp (m s) (cm s) (pt m cm s0 s) n j := by
      intro n
      induction n with
      | zero => exact ⟨0, rfl⟩
      | succ n ihn =>
        show _ ∣ sp (m s) (cm s) (pt m cm s0 s) n j + _ + _
        refine Nat.dvd_add (Nat.dvd_add ihn ?_) ?_
        · split
          · exact Nat.dvd_trans (h1 _) (Nat.dvd_mul_right _ _)
          · exact ⟨0, rfl⟩
        · split
          · exact Nat.dvd_trans (h1 _) (Nat.dvd_mul_right _ _)
          · exact ⟨0, rfl⟩
    exact h2 12
theorem pt_ten {m : Nat → Nat} {cm : Nat → Nat → Nat} {s0 s : Nat} (hs : s < 12) (j : Nat) : pt m cm s0 s j = 10 * (pt m cm s0 s j / 10) := by
  have h := pt_dvd m cm s0 s (by omega) j
  have h2 : 10 ∣ pt m cm s0 s j := Nat.dvd_trans (by rw [show 12 - s = (11 - s) + 1 by omega, Nat.pow_succ]; exact Nat.dvd_mul_left _ _) h
  omega
theorem away_eq {p c : Nat} (h : p = 10 * (p / 10)) (hc : c ≤ 10) : p - p / 10 * c = p / 10 * (10 - c) ∧ p / 10 * c ≤ p := by
  have e : p / 10 * (10 - c) = p / 10 * 10 - p / 10 * c := Nat.mul_sub (p / 10) 10 c
  have e2 : p / 10 * c ≤ p / 10 * 10 := Nat.mul_le_mul_left _ hc
  omega
def mI (m : Nat) : Int32 := if m = 2 then -1 else nI m
theorem l0_mul (y : Int64) : lN 0 * y = lN 0 := by show (0 : Int64) * y = 0; exact Int64.zero_mul
theorem lat_le {k : Nat} (h1 : 1 ≤ k) (h2 : k ≤ 12) : 1 ≤ lat k ∧ lat k ≤ 12 := by unfold lat; split <;> omega
theorem mn_lat {k : Nat} (h : k ≤ 12) : (if nI (k + 1) < nI 12 then nI (k + 1) else nI 12) = nI (lat k) := by
  rw [mn_12 (by omega)]; unfold lat; congr 1; split <;> omega
set_option maxHeartbeats 200000 in
theorem r10_came0 {l : Launch} {K : cK} {d : Nat} {I : wI} {L : wL} {R : wR} {dy : cH} (s k p c : Nat) (hs : s < 12) (hk : k ≤ 12) (hp0 : L 27 (s * 13 + k) = lN p) (hp9 : p < 4000000000000000000) (hc : p ≠ 0 → I 26 (s * 13 + k) = nI c) (hc9 : c ≤ 10) (hd : 0 ≤ d) : CE l K m10_cameParts d [.ref 21, .int (nI s), .int (nI k)] (hp I L R dy) (.long (lN (p / 10 * c))) (hp I L R dy) := by
  refine CC.of ok10_cameParts (Nat.le_of_ble_eq_true rfl) ?_
  by_cases h0 : p = 0
  · subst h0
    refine g_aload_n d10_cameParts_0 rfl ?_
    refine g_get fl10_25 d10_cameParts_1 f_21_4 ?_
    refine g_iload_n d10_cameParts_4 rfl ?_
    refine g_bipushv (nI 13) d10_cameParts_5 rfl ?_
    refine g_imulN d10_cameParts_7 ?_
    refine g_iload_n d10_cameParts_8 rfl ?_
    refine g_iaddN d10_cameParts_9 ?_
    refine g_laldN (((s * 13) + k)) d10_cameParts_10 a_27 (rfl) (by omega) (by decide) ?_
    refine g_topL (lN (0)) (hp0) ?_
    refine g_ldc2 d10_cameParts_11 kl10_98 ?_
    refine g_ldiv d10_cameParts_14 (by decide) ?_
    refine g_topL (lN (0 / 10)) (pk_lDiv (b := 10) (by omega) (by omega) (by omega)) ?_
    refine g_aload_n d10_cameParts_15 rfl ?_
    refine g_get fl10_22 d10_cameParts_16 f_21_3 ?_
    refine g_iload_n d10_cameParts_19 rfl ?_
    refine g_bipushv (nI 13) d10_cameParts_20 rfl ?_
    refine g_imulN d10_cameParts_22 ?_
    refine g_iload_n d10_cameParts_23 rfl ?_
    refine g_iaddN d10_cameParts_24 ?_
    refine g_ialdN (((s * 13) + k)) d10_cameParts_25 a_26 (rfl) (by omega) (by decide) ?_
    refine g_i2l d10_cameParts_26 ?_
    refine g_lmul d10_cameParts_27 ?_
    refine g_topL (lN (0 / 10 * c)) (by rw [show lN (0 / 10) = lN 0 from rfl, l0_mul, Nat.zero_div, Nat.zero_mul]) ?_
    exact g_lret rfl d10_cameParts_28 (⟨rfl, rfl⟩)
  · skip
    refine g_aload_n d10_cameParts_0 rfl ?_
    refine g_get fl10_25 d10_cameParts_1 f_21_4 ?_
    refine g_iload_n d10_cameParts_4 rfl ?_
    refine g_bipushv (nI 13) d10_cameParts_5 rfl ?_
    refine g_imulN d10_cameParts_7 ?_
    refine g_iload_n d10_cameParts_8 rfl ?_
    refine g_iaddN d10_cameParts_9 ?_
    refine g_laldN (((s * 13) + k)) d10_cameParts_10 a_27 (rfl) (by omega) (by decide) ?_
    refine g_topL (lN (p)) (hp0) ?_
    refine g_ldc2 d10_cameParts_11 kl10_98 ?_
    refine g_ldiv d10_cameParts_14 (by decide) ?_
    refine g_topL (lN (p / 10)) (pk_lDiv (b := 10) (by omega) (by omega) (by omega)) ?_
    refine g_aload_n d10_cameParts_15 rfl ?_
    refine g_get fl10_22 d10_cameParts_16 f_21_3 ?_
    refine g_iload_n d10_cameParts_19 rfl ?_
    refine g_bipushv (nI 13) d10_cameParts_20 rfl ?_
    refine g_imulN d10_cameParts_22 ?_
    refine g_iload_n d10_cameParts_23 rfl ?_
    refine g_iaddN d10_cameParts_24 ?_
    refine g_ialdN (((s * 13) + k)) d10_cameParts_25 a_26 (rfl) (by omega) (by decide) ?_
    refine g_topI (nI (c)) (hc h0) ?_
    refine g_i2lN (by omega) d10_cameParts_26 ?_
    refine g_lmul d10_cameParts_27 ?_
    refine g_topL (lN ((p / 10) * c)) (lN_mul _ _) ?_
    exact g_lret rfl d10_cameParts_28 (⟨rfl, rfl⟩)
set_option maxHeartbeats 200000 in
theorem r10_partsAt {l : Launch} {K : cK} {d : Nat} {I : wI} {L : wL} {R : wR} {dy : cH} (s k p : Nat) (hs : s ≤ 12) (hk : k ≤ 12) (hp0 : L 27 (s * 13 + k) = lN p) (hd : 0 ≤ d) : CE l K m10_partsAt d [.ref 21, .int (nI s), .int (nI k)] (hp I L R dy) (.long (lN p)) (hp I L R dy) := by
  refine CC.of ok10_partsAt (Nat.le_of_ble_eq_true rfl) ?_
  refine g_aload_n d10_partsAt_0 rfl ?_
  refine g_get fl10_25 d10_partsAt_1 f_21_4 ?_
  refine g_iload_n d10_partsAt_4 rfl ?_
  refine g_bipushv (nI 13) d10_partsAt_5 rfl ?_
  refine g_imulN d10_partsAt_7 ?_
  refine g_iload_n d10_partsAt_8 rfl ?_
  refine g_iaddN d10_partsAt_9 ?_
  refine g_laldN (((s * 13) + k)) d10_partsAt_10 a_27 (rfl) (by omega) (by decide) ?_
  refine g_topL (lN (p)) (hp0) ?_
  exact g_lret rfl d10_partsAt_11 (⟨rfl, rfl⟩)
set_option maxHeartbeats 200000 in
theorem r10_met {l : Launch} {K : cK} {d : Nat} {I : wI} {L : wL} {R : wR} {dy : cH} (s k c : Nat) (hs : s < 12) (hk : k ≤ 12) (hc : I 26 (s * 13 + k) = nI c) (hd : 0 ≤ d) : CE l K m10_comesMet d [.ref 21, .int (nI s), .int (nI k)] (hp I L R dy) (.int (nI c)) (hp I L R dy) := by
  refine CC.of ok10_comesMet (Nat.le_of_ble_eq_true rfl) ?_
  refine g_aload_n d10_comesMet_0 rfl ?_
  refine g_get fl10_22 d10_comesMet_1 f_21_3 ?_
  refine g_iload_n d10_comesMet_4 rfl ?_
  refine g_bipushv (nI 13) d10_comesMet_5 rfl ?_
  refine g_imulN d10_comesMet_7 ?_
  refine g_iload_n d10_comesMet_8 rfl ?_
  refine g_iaddN d10_comesMet_9 ?_
  refine g_ialdN (((s * 13) + k)) d10_comesMet_10 a_26 (rfl) (by omega) (by decide) ?_
  refine g_topI (nI (c)) (hc) ?_
  exact g_iret rfl d10_comesMet_11 (⟨rfl, rfl⟩)
set_option maxHeartbeats 2000000 in
theorem r10_sp1 {l : Launch} {K : cK} {d : Nat} {I : wI} {L : wL} {R : wR} {dy : cH} {Q : Option Value → cH → Prop} (g : Nat → Int32) (wa : Int32) (lc : Option (List Cl)) (hL : LWc dy (R 21 1) lc) (m : Nat → Nat) (hm : ∀ s, s < 12 → I 25 s = mI (m s) ∧ m s ≤ 2) (s0 : Nat) (cm : Nat → Nat → Nat) (hcm : cm = cmR g wa (lfO lc)) (s : Nat) (hs : s < 12) (hd : 4 ≤ d)
    (kk : ∀ (I3 : wI) (L3 : wL), FK [22, 23, 26] [22, 24, 27] I L I3 L3 ∧ WW I3 g wa ∧ (∀ s2, s2 ≤ (s + 1) → ∀ j, j ≤ 12 → L3 27 (s2 * 13 + j) = lN (pt m cm s0 s2 j)) ∧ (∀ s2, (s + 1) < s2 → s2 ≤ 12 → ∀ j, j ≤ 12 → L3 27 (s2 * 13 + j) = lN 0) ∧ (∀ s2, s2 < (s + 1) → ∀ k2, 1 ≤ k2 → k2 ≤ 12 → pt m cm s0 s2 k2 ≠ 0 → I3 26 (s2 * 13 + k2) = nI (cm s2 k2)) → GL l K m10_spread d 0 0 167 [(0, .ref 21), (2, .int (nI s))] [] (hp I3 L3 R dy) Q) :
    ∀ (n k : Nat) (I2 : wI) (L2 : wL), k + n = 12 → FK [22, 23, 26] [22, 24, 27] I L I2 L2 ∧ WW I2 g wa ∧ (∀ s2, s2 ≤ s → ∀ j, j ≤ 12 → L2 27 (s2 * 13 + j) = lN (pt m cm s0 s2 j)) ∧ (∀ j, j ≤ 12 → L2 27 ((s + 1) * 13 + j) = lN (sp (m s) (cm s) (pt m cm s0 s) k j)) ∧ (∀ s2, (s + 1) < s2 → s2 ≤ 12 → ∀ j, j ≤ 12 → L2 27 (s2 * 13 + j) = lN 0) ∧ (∀ s2, s2 < s → ∀ k2, 1 ≤ k2 → k2 ≤ 12 → pt m cm s0 s2 k2 ≠ 0 → I2 26 (s2 * 13 + k2) = nI (cm s2 k2)) ∧ (∀ k2, 1 ≤ k2 → k2 ≤ k → pt m cm s0 s k2 ≠ 0 → I2 26 (s * 13 + k2) = nI (cm s k2)) → GL l K m10_spread d 0 0 46 [(0, .ref 21), (2, .int (nI s)), (3, .int (nI ((s + 1) * 13))), (4, .int (nI (k + 1)))] [] (hp I2 L2 R dy) Q := by
  have hcm9 : ∀ s k, cm s k ≤ 10 := fun s k => by rw [hcm]; exact cmR_le g wa (lfO lc) s k
  intro n
  induction n with
  | zero =>
    intro k I2 L2 hk hI
    obtain rfl : k = 12 := by omega
    obtain ⟨i1, i2, i3, i4, i5, i6, i7⟩ := hI
    refine g_iload d10_spread_46 rfl ?_
    refine g_bipushv (nI 12) d10_spread_48 rfl ?_
    refine g_ic_gt (13) (12) 167 (by decide) (by decide) d10_spread_50 rfl (fun _ => ?_) (fun c50 => absurd c50 (by decide))
    refine g_lo [(0, .ref 21), (2, .int (nI s))] ⟨rfl, rfl, trivial⟩ ?_
    exact kk I2 L2 ⟨i1, i2, fun s2 h j hj => if e : s2 = s + 1 then (by subst e; exact i4 j hj) else i3 s2 (by omega) j hj, i5, fun s2 h k2 a b c => if e : s2 = s then (by subst e; exact i7 k2 a b c) else i6 s2 (by omega) k2 a b c⟩
  | succ n ih =>
    intro k I2 L2 hk hI
    obtain ⟨i1, i2, i3, i4, i5, i6, i7⟩ := hI
    have hP9 : pt m cm s0 s (k + 1) ≤ 1000000000000 := pt_le m cm s0 hcm9 (by omega) (by omega)
    have hTn := pt_ten (m := m) (cm := cm) (s0 := s0) hs (k + 1)
    have hP := i3 s (Nat.le_refl _) (k + 1) (by omega)
    have hsp : ∀ j, sp (m s) (cm s) (pt m cm s0 s) (k + 1) j = sp (m s) (cm s) (pt m cm s0 s) k j + (if j = 1 ∧ m s ≠ 0 then pt m cm s0 s (k + 1) / 10 * cm s (k + 1) else 0) + (if j = lat (k + 1) ∧ m s ≠ 1 then pt m cm s0 s (k + 1) / 10 * (10 - cm s (k + 1)) else 0) := fun _ => rfl
    generalize hpp : pt m cm s0 s (k + 1) = p at *
    have hc9 := hcm9 s (k + 1)
    obtain ⟨aw, aw2⟩ := away_eq hTn hc9
    obtain ⟨hl1, hl2⟩ := lat_le (k := k + 1) (by omega) (by omega)
    by_cases h0 : p = 0
    · subst h0
      refine g_iload d10_spread_46 rfl ?_
      refine g_bipushv (nI 12) d10_spread_48 rfl ?_
      refine g_ic_gt (((k + 1) : Nat) : Int) (12) 167 (nI_ti (by omega)) (by decide) d10_spread_50 rfl (fun c50 => absurd c50 (by omega)) (fun _ => ?_)
      refine g_aload_n d10_spread_53 rfl ?_
      refine g_get fl10_25 d10_spread_54 f_21_4 ?_
      refine g_iload_n d10_spread_57 rfl ?_
      refine g_bipushv (nI 13) d10_spread_58 rfl ?_
      refine g_imulN d10_spread_60 ?_
      refine g_iload d10_spread_61 rfl ?_
      refine g_iaddN d10_spread_63 ?_
      refine g_laldN (((s * 13) + (k + 1))) d10_spread_64 a_27 (rfl) (by omega) (by decide) ?_
      refine g_topL (lN (0)) (hP) ?_
      refine g_lstore d10_spread_65 (by decide) ?_
      refine g_lload d10_spread_67 rfl ?_
      refine g_lconstv (0) d10_spread_69 rfl ?_
      refine g_lx_ne ((0 : Nat) : Int) (0) 77 (pk_lT (by omega)) (by decide) d10_spread_70 d10_spread_71 rfl (fun c70 => absurd c70 (by omega)) (fun _ => ?_)
      refine g_goto 161 d10_spread_74 rfl ?_
      refine g_iincN d10_spread_161 rfl (by decide) ?_
      refine g_goto 46 d10_spread_164 rfl ?_
      refine g_lo [(0, .ref 21), (2, .int (nI s)), (3, .int (nI ((s + 1) * 13))), (4, .int (nI (k + 1 + 1)))] ⟨rfl, rfl, rfl, rfl, trivial⟩ ?_
      refine ih (k + 1) I2 L2 (by omega) ⟨i1, i2, i3, fun j hj => ?_, i5, i6, fun k2 a b c => ?_⟩
      · rw [hsp, i4 j hj]; simp
      · by_cases e : k2 = k + 1
        · subst e; exact absurd hpp c
        · exact i7 k2 a (by omega) c
    · obtain ⟨hm1, hm2⟩ := hm s hs
      have e25 : I2 25 s = mI (m s) := by rw [i1.1 25 (by decide)]; exact hm1
      rcases (by omega : m s = 0 ∨ m s = 1 ∨ m s = 2) with hms | hms | hms
      · have em : I2 25 s = 0 := by rw [e25, hms]; rfl
        refine g_iload d10_spread_46 rfl ?_
        refine g_bipushv (nI 12) d10_spread_48 rfl ?_
        refine g_ic_gt (((k + 1) : Nat) : Int) (12) 167 (nI_ti (by omega)) (by decide) d10_spread_50 rfl (fun c50 => absurd c50 (by omega)) (fun _ => ?_)
        refine g_aload_n d10_spread_53 rfl ?_
        refine g_get fl10_25 d10_spread_54 f_21_4 ?_
        refine g_iload_n d10_spread_57 rfl ?_
        refine g_bipushv (nI 13) d10_spread_58 rfl ?_
        refine g_imulN d10_spread_60 ?_
        refine g_iload d10_spread_61 rfl ?_
        refine g_iaddN d10_spread_63 ?_
        refine g_laldN (((s * 13) + (k + 1))) d10_spread_64 a_27 (rfl) (by omega) (by decide) ?_
        refine g_topL (lN (p)) (hP) ?_
        refine g_lstore d10_spread_65 (by decide) ?_
        refine g_lload d10_spread_67 rfl ?_
        refine g_lconstv (0) d10_spread_69 rfl ?_
        refine g_lx_ne ((p : Nat) : Int) (0) 77 (pk_lT (by omega)) (by decide) d10_spread_70 d10_spread_71 rfl (fun _ => ?_) (fun c70 => absurd c70 (by omega))
        refine g_aload_n d10_spread_77 rfl ?_
        refine g_get fl10_22 d10_spread_78 f_21_3 ?_
        refine g_iload_n d10_spread_81 rfl ?_
        refine g_bipushv (nI 13) d10_spread_82 rfl ?_
        refine g_imulN d10_spread_84 ?_
        refine g_iload d10_spread_85 rfl ?_
        refine g_iaddN d10_spread_87 ?_
        refine g_aload_n d10_spread_88 rfl ?_
        refine g_iload_n d10_spread_89 rfl ?_
        refine g_iload d10_spread_90 rfl ?_
        refine g_XV2 vm10_comesOfTen ml10_86 c_21 (r10_comes (I := I2) (L := L2) g wa i2 lc hL s (k + 1) (by omega) (by omega) (Nat.le_refl 3)) (by omega) (Nat.le_of_ble_eq_true rfl) d10_spread_92 (fun x hx => ?_)
        obtain ⟨I4, L4⟩ := x
        obtain ⟨f1, w1⟩ := hx
        dsimp only at f1 w1 ⊢
        rw [← hcm]
        have g27 : L4 27 = L2 27 := f1.2 27 (by decide)
        have g26 : I4 26 = I2 26 := f1.1 26 (by decide)
        have g25 : I4 25 = I2 25 := f1.1 25 (by decide)
        refine g_iastN (((s * 13) + (k + 1))) _ d10_spread_95 a_26 (rfl) (by omega) (by decide) t_26 ?_
        refine g_aload_n d10_spread_96 rfl ?_
        refine g_iload_n d10_spread_97 rfl ?_
        refine g_iload d10_spread_98 rfl ?_
        refine g_EV2 vm10_cameParts ml10_89 c_21 (r10_came0 (I := (uI I4 26 (s * 13 + (k + 1)) (nI (cm s (k + 1))))) (L := L4) s (k + 1) p (cm s (k + 1)) hs (by omega) (by rw [g27]; exact hP) (by omega) (fun _ => uI_ss) hc9 (Nat.le_refl 0)) (by omega) (Nat.le_of_ble_eq_true rfl) d10_spread_100 ?_
        refine g_lstore d10_spread_103 (by decide) ?_
        refine g_aload_n d10_spread_105 rfl ?_
        refine g_get fl10_18 d10_spread_106 f_21_2 ?_
        refine g_iload_n d10_spread_109 rfl ?_
        refine g_ialdN (s) d10_spread_110 a_25 (rfl) (by omega) (by decide) ?_
        refine g_topI ((0 : Int32)) (by show I4 25 s = _; rw [g25]; exact em) ?_
        refine g_iz_eq (0) 127 (by decide) d10_spread_111 rfl (fun _ => ?_) (fun c111 => absurd c111 (by decide))
        refine g_aload_n d10_spread_127 rfl ?_
        refine g_get fl10_18 d10_spread_128 f_21_2 ?_
        refine g_iload_n d10_spread_131 rfl ?_
        refine g_ialdN (s) d10_spread_132 a_25 (rfl) (by omega) (by decide) ?_
        refine g_topI ((0 : Int32)) (by show I4 25 s = _; rw [g25]; exact em) ?_
        refine g_iconstv (nI 1) d10_spread_133 rfl ?_
        refine g_ic_eq (0) (1) 161 (by decide) (by decide) d10_spread_134 rfl (fun c134 => absurd c134 (by decide)) (fun _ => ?_)
        refine g_aload_n d10_spread_137 rfl ?_
        refine g_get fl10_25 d10_spread_138 f_21_4 ?_
        refine g_iload_n d10_spread_141 rfl ?_
        refine g_bipushv (nI 12) d10_spread_142 rfl ?_
        refine g_iload d10_spread_144 rfl ?_
        refine g_iconstv (nI 1) d10_spread_146 rfl ?_
        refine g_iaddN d10_spread_147 ?_
        refine g_min ml10_93 (by omega) (Nat.le_of_ble_eq_true rfl) d10_spread_148 ?_
        refine g_topI (nI ((lat (k + 1)))) (mn_lat (by omega)) ?_
        refine g_iaddN d10_spread_151 ?_
        refine g_dup2 d10_spread_152 rfl rfl ?_
        refine g_laldN ((((s + 1) * 13) + (lat (k + 1)))) d10_spread_153 a_27 (rfl) (by omega) (by decide) ?_
        refine g_topL (lN ((sp (m s) (cm s) (pt m cm s0 s) k (lat (k + 1))))) (by show L4 27 _ = _; rw [g27]; exact i4 (lat (k + 1)) (by omega)) ?_
        refine g_lload d10_spread_154 rfl ?_
        refine g_lload d10_spread_156 rfl ?_
        refine g_lsub d10_spread_158 ?_
        refine g_topL (lN (p - (p / 10 * cm s (k + 1)))) (lN_sub (aw2)) ?_
        refine g_ladd d10_spread_159 ?_
        refine g_topL (lN ((sp (m s) (cm s) (pt m cm s0 s) k (lat (k + 1))) + (p - (p / 10 * cm s (k + 1))))) (lN_add _ _) ?_
        refine g_lastN ((((s + 1) * 13) + (lat (k + 1)))) _ d10_spread_160 a_27 (rfl) (by omega) (by decide) t_27 ?_
        refine g_iincN d10_spread_161 rfl (by decide) ?_
        refine g_goto 46 d10_spread_164 rfl ?_
        refine g_lo [(0, .ref 21), (2, .int (nI s)), (3, .int (nI ((s + 1) * 13))), (4, .int (nI (k + 1 + 1)))] ⟨rfl, rfl, rfl, rfl, trivial⟩ ?_
        refine ih (k + 1) (uI I4 26 (s * 13 + (k + 1)) (nI (cm s (k + 1)))) (uL L4 27 ((s + 1) * 13 + lat (k + 1)) (lN (sp (m s) (cm s) (pt m cm s0 s) k (lat (k + 1)) + (p - p / 10 * cm s (k + 1))))) (by omega) ⟨?_, ?_, fun s2 h j hj => ?_, fun j hj => ?_, fun s2 h h2 j hj => ?_, fun s2 h k2 a b c => ?_, fun k2 a b c => ?_⟩
        · exact ((i1.tr (f1.up (by decide) (by decide))).ui (by decide)).ul (by decide)
        · exact w1.of (uI_n (by decide))
        · rw [uL_sn (by omega), g27]; exact i3 s2 h j hj
        · rw [hsp, if_neg (fun z => z.2 hms), aw]
          by_cases e : j = lat (k + 1)
          · subst e; rw [if_pos ⟨rfl, by omega⟩, uL_ss]; rfl
          · rw [if_neg (fun z => e z.1), uL_sn (by omega), g27]; exact i4 j hj
        · rw [uL_sn (by omega), g27]; exact i5 s2 h h2 j hj
        · rw [uI_sn (by omega), g26]; exact i6 s2 h k2 a b c
        · by_cases e : k2 = k + 1
          · subst e; exact uI_ss
          · rw [uI_sn (by omega), g26]; exact i7 k2 a (by omega) c
      · have em : I2 25 s = 1 := by rw [e25, hms]; rfl
        refine g_iload d10_spread_46 rfl ?_
        refine g_bipushv (nI 12) d10_spread_48 rfl ?_
        refine g_ic_gt (((k + 1) : Nat) : Int) (12) 167 (nI_ti (by omega)) (by decide) d10_spread_50 rfl (fun c50 => absurd c50 (by omega)) (fun _ => ?_)
        refine g_aload_n d10_spread_53 rfl ?_
        refine g_get fl10_25 d10_spread_54 f_21_4 ?_
        refine g_iload_n d10_spread_57 rfl ?_
        refine g_bipushv (nI 13) d10_spread_58 rfl ?_
        refine g_imulN d10_spread_60 ?_
        refine g_iload d10_spread_61 rfl ?_
        refine g_iaddN d10_spread_63 ?_
        refine g_laldN (((s * 13) + (k + 1))) d10_spread_64 a_27 (rfl) (by omega) (by decide) ?_
        refine g_topL (lN (p)) (hP) ?_
        refine g_lstore d10_spread_65 (by decide) ?_
        refine g_lload d10_spread_67 rfl ?_
        refine g_lconstv (0) d10_spread_69 rfl ?_
        refine g_lx_ne ((p : Nat) : Int) (0) 77 (pk_lT (by omega)) (by decide) d10_spread_70 d10_spread_71 rfl (fun _ => ?_) (fun c70 => absurd c70 (by omega))
        refine g_aload_n d10_spread_77 rfl ?_
        refine g_get fl10_22 d10_spread_78 f_21_3 ?_
        refine g_iload_n d10_spread_81 rfl ?_
        refine g_bipushv (nI 13) d10_spread_82 rfl ?_
        refine g_imulN d10_spread_84 ?_
        refine g_iload d10_spread_85 rfl ?_
        refine g_iaddN d10_spread_87 ?_
        refine g_aload_n d10_spread_88 rfl ?_
        refine g_iload_n d10_spread_89 rfl ?_
        refine g_iload d10_spread_90 rfl ?_
        refine g_XV2 vm10_comesOfTen ml10_86 c_21 (r10_comes (I := I2) (L := L2) g wa i2 lc hL s (k + 1) (by omega) (by omega) (Nat.le_refl 3)) (by omega) (Nat.le_of_ble_eq_true rfl) d10_spread_92 (fun x hx => ?_)
        obtain ⟨I4, L4⟩ := x
        obtain ⟨f1, w1⟩ := hx
        dsimp only at f1 w1 ⊢
        rw [← hcm]
        have g27 : L4 27 = L2 27 := f1.2 27 (by decide)
        have g26 : I4 26 = I2 26 := f1.1 26 (by decide)
        have g25 : I4 25 = I2 25 := f1.1 25 (by decide)
        refine g_iastN (((s * 13) + (k + 1))) _ d10_spread_95 a_26 (rfl) (by omega) (by decide) t_26 ?_
        refine g_aload_n d10_spread_96 rfl ?_
        refine g_iload_n d10_spread_97 rfl ?_
        refine g_iload d10_spread_98 rfl ?_
        refine g_EV2 vm10_cameParts ml10_89 c_21 (r10_came0 (I := (uI I4 26 (s * 13 + (k + 1)) (nI (cm s (k + 1))))) (L := L4) s (k + 1) p (cm s (k + 1)) hs (by omega) (by rw [g27]; exact hP) (by omega) (fun _ => uI_ss) hc9 (Nat.le_refl 0)) (by omega) (Nat.le_of_ble_eq_true rfl) d10_spread_100 ?_
        refine g_lstore d10_spread_103 (by decide) ?_
        refine g_aload_n d10_spread_105 rfl ?_
        refine g_get fl10_18 d10_spread_106 f_21_2 ?_
        refine g_iload_n d10_spread_109 rfl ?_
        refine g_ialdN (s) d10_spread_110 a_25 (rfl) (by omega) (by decide) ?_
        refine g_topI ((1 : Int32)) (by show I4 25 s = _; rw [g25]; exact em) ?_
        refine g_iz_eq (1) 127 (by decide) d10_spread_111 rfl (fun c111 => absurd c111 (by decide)) (fun _ => ?_)
        refine g_aload_n d10_spread_114 rfl ?_
        refine g_get fl10_25 d10_spread_115 f_21_4 ?_
        refine g_iload_n d10_spread_118 rfl ?_
        refine g_iconstv (nI 1) d10_spread_119 rfl ?_
        refine g_iaddN d10_spread_120 ?_
        refine g_dup2 d10_spread_121 rfl rfl ?_
        refine g_laldN ((((s + 1) * 13) + 1)) d10_spread_122 a_27 (rfl) (by omega) (by decide) ?_
        refine g_topL (lN ((sp (m s) (cm s) (pt m cm s0 s) k 1))) (by show L4 27 _ = _; rw [g27]; exact i4 1 (by omega)) ?_
        refine g_lload d10_spread_123 rfl ?_
        refine g_ladd d10_spread_125 ?_
        refine g_topL (lN ((sp (m s) (cm s) (pt m cm s0 s) k 1) + (p / 10 * cm s (k + 1)))) (lN_add _ _) ?_
        refine g_lastN ((((s + 1) * 13) + 1)) _ d10_spread_126 a_27 (rfl) (by omega) (by decide) t_27 ?_
        refine g_aload_n d10_spread_127 rfl ?_
        refine g_get fl10_18 d10_spread_128 f_21_2 ?_
        refine g_iload_n d10_spread_131 rfl ?_
        refine g_ialdN (s) d10_spread_132 a_25 (rfl) (by omega) (by decide) ?_
        refine g_topI ((1 : Int32)) (by show I4 25 s = _; rw [g25]; exact em) ?_
        refine g_iconstv (nI 1) d10_spread_133 rfl ?_
        refine g_ic_eq (1) (1) 161 (by decide) (by decide) d10_spread_134 rfl (fun _ => ?_) (fun c134 => absurd c134 (by decide))
        refine g_iincN d10_spread_161 rfl (by decide) ?_
        refine g_goto 46 d10_spread_164 rfl ?_
        refine g_lo [(0, .ref 21), (2, .int (nI s)), (3, .int (nI ((s + 1) * 13))), (4, .int (nI (k + 1 + 1)))] ⟨rfl, rfl, rfl, rfl, trivial⟩ ?_
        refine ih (k + 1) (uI I4 26 (s * 13 + (k + 1)) (nI (cm s (k + 1)))) (uL L4 27 ((s + 1) * 13 + 1) (lN (sp (m s) (cm s) (pt m cm s0 s) k 1 + p / 10 * cm s (k + 1)))) (by omega) ⟨?_, ?_, fun s2 h j hj => ?_, fun j hj => ?_, fun s2 h h2 j hj => ?_, fun s2 h k2 a b c => ?_, fun k2 a b c => ?_⟩
        · exact ((i1.tr (f1.up (by decide) (by decide))).ui (by decide)).ul (by decide)
        · exact w1.of (uI_n (by decide))
        · rw [uL_sn (by omega), g27]; exact i3 s2 h j hj
        · rw [hsp, if_neg (c := j = lat (k + 1) ∧ m s ≠ 1) (fun z => z.2 hms)]
          by_cases e : j = 1
          · subst e; rw [if_pos ⟨rfl, by omega⟩, uL_ss]; rfl
          · rw [if_neg (fun z => e z.1), uL_sn (by omega), g27]; exact i4 j hj
        · rw [uL_sn (by omega), g27]; exact i5 s2 h h2 j hj
        · rw [uI_sn (by omega), g26]; exact i6 s2 h k2 a b c
        · by_cases e : k2 = k + 1
          · subst e; exact uI_ss
          · rw [uI_sn (by omega), g26]; exact i7 k2 a (by omega) c
      · have em : I2 25 s = -1 := by rw [e25, hms]; rfl
        refine g_iload d10_spread_46 rfl ?_
        refine g_bipushv (nI 12) d10_spread_48 rfl ?_
        refine g_ic_gt (((k + 1) : Nat) : Int) (12) 167 (nI_ti (by omega)) (by decide) d10_spread_50 rfl (fun c50 => absurd c50 (by omega)) (fun _ => ?_)
        refine g_aload_n d10_spread_53 rfl ?_
        refine g_get fl10_25 d10_spread_54 f_21_4 ?_
        refine g_iload_n d10_spread_57 rfl ?_
        refine g_bipushv (nI 13) d10_spread_58 rfl ?_
        refine g_imulN d10_spread_60 ?_
        refine g_iload d10_spread_61 rfl ?_
        refine g_iaddN d10_spread_63 ?_
        refine g_laldN (((s * 13) + (k + 1))) d10_spread_64 a_27 (rfl) (by omega) (by decide) ?_
        refine g_topL (lN (p)) (hP) ?_
        refine g_lstore d10_spread_65 (by decide) ?_
        refine g_lload d10_spread_67 rfl ?_
        refine g_lconstv (0) d10_spread_69 rfl ?_
        refine g_lx_ne ((p : Nat) : Int) (0) 77 (pk_lT (by omega)) (by decide) d10_spread_70 d10_spread_71 rfl (fun _ => ?_) (fun c70 => absurd c70 (by omega))
        refine g_aload_n d10_spread_77 rfl ?_
        refine g_get fl10_22 d10_spread_78 f_21_3 ?_
        refine g_iload_n d10_spread_81 rfl ?_
        refine g_bipushv (nI 13) d10_spread_82 rfl ?_
        refine g_imulN d10_spread_84 ?_
        refine g_iload d10_spread_85 rfl ?_
        refine g_iaddN d10_spread_87 ?_
        refine g_aload_n d10_spread_88 rfl ?_
        refine g_iload_n d10_spread_89 rfl ?_
        refine g_iload d10_spread_90 rfl ?_
        refine g_XV2 vm10_comesOfTen ml10_86 c_21 (r10_comes (I := I2) (L := L2) g wa i2 lc hL s (k + 1) (by omega) (by omega) (Nat.le_refl 3)) (by omega) (Nat.le_of_ble_eq_true rfl) d10_spread_92 (fun x hx => ?_)
        obtain ⟨I4, L4⟩ := x
        obtain ⟨f1, w1⟩ := hx
        dsimp only at f1 w1 ⊢
        rw [← hcm]
        have g27 : L4 27 = L2 27 := f1.2 27 (by decide)
        have g26 : I4 26 = I2 26 := f1.1 26 (by decide)
        have g25 : I4 25 = I2 25 := f1.1 25 (by decide)
        refine g_iastN (((s * 13) + (k + 1))) _ d10_spread_95 a_26 (rfl) (by omega) (by decide) t_26 ?_
        refine g_aload_n d10_spread_96 rfl ?_
        refine g_iload_n d10_spread_97 rfl ?_
        refine g_iload d10_spread_98 rfl ?_
        refine g_EV2 vm10_cameParts ml10_89 c_21 (r10_came0 (I := (uI I4 26 (s * 13 + (k + 1)) (nI (cm s (k + 1))))) (L := L4) s (k + 1) p (cm s (k + 1)) hs (by omega) (by rw [g27]; exact hP) (by omega) (fun _ => uI_ss) hc9 (Nat.le_refl 0)) (by omega) (Nat.le_of_ble_eq_true rfl) d10_spread_100 ?_
        refine g_lstore d10_spread_103 (by decide) ?_
        refine g_aload_n d10_spread_105 rfl ?_
        refine g_get fl10_18 d10_spread_106 f_21_2 ?_
        refine g_iload_n d10_spread_109 rfl ?_
        refine g_ialdN (s) d10_spread_110 a_25 (rfl) (by omega) (by decide) ?_
        refine g_topI ((-1 : Int32)) (by show I4 25 s = _; rw [g25]; exact em) ?_
        refine g_iz_eq (-1) 127 (by decide) d10_spread_111 rfl (fun c111 => absurd c111 (by decide)) (fun _ => ?_)
        refine g_aload_n d10_spread_114 rfl ?_
        refine g_get fl10_25 d10_spread_115 f_21_4 ?_
        refine g_iload_n d10_spread_118 rfl ?_
        refine g_iconstv (nI 1) d10_spread_119 rfl ?_
        refine g_iaddN d10_spread_120 ?_
        refine g_dup2 d10_spread_121 rfl rfl ?_
        refine g_laldN ((((s + 1) * 13) + 1)) d10_spread_122 a_27 (rfl) (by omega) (by decide) ?_
        refine g_topL (lN ((sp (m s) (cm s) (pt m cm s0 s) k 1))) (by show L4 27 _ = _; rw [g27]; exact i4 1 (by omega)) ?_
        refine g_lload d10_spread_123 rfl ?_
        refine g_ladd d10_spread_125 ?_
        refine g_topL (lN ((sp (m s) (cm s) (pt m cm s0 s) k 1) + (p / 10 * cm s (k + 1)))) (lN_add _ _) ?_
        refine g_lastN ((((s + 1) * 13) + 1)) _ d10_spread_126 a_27 (rfl) (by omega) (by decide) t_27 ?_
        refine g_aload_n d10_spread_127 rfl ?_
        refine g_get fl10_18 d10_spread_128 f_21_2 ?_
        refine g_iload_n d10_spread_131 rfl ?_
        refine g_ialdN (s) d10_spread_132 a_25 (rfl) (by omega) (by decide) ?_
        refine g_topI ((-1 : Int32)) (by show I4 25 s = _; rw [g25]; exact em) ?_
        refine g_iconstv (nI 1) d10_spread_133 rfl ?_
        refine g_ic_eq (-1) (1) 161 (by decide) (by decide) d10_spread_134 rfl (fun c134 => absurd c134 (by decide)) (fun _ => ?_)
        refine g_aload_n d10_spread_137 rfl ?_
        refine g_get fl10_25 d10_spread_138 f_21_4 ?_
        refine g_iload_n d10_spread_141 rfl ?_
        refine g_bipushv (nI 12) d10_spread_142 rfl ?_
        refine g_iload d10_spread_144 rfl ?_
        refine g_iconstv (nI 1) d10_spread_146 rfl ?_
        refine g_iaddN d10_spread_147 ?_
        refine g_min ml10_93 (by omega) (Nat.le_of_ble_eq_true rfl) d10_spread_148 ?_
        refine g_topI (nI ((lat (k + 1)))) (mn_lat (by omega)) ?_
        refine g_iaddN d10_spread_151 ?_
        refine g_dup2 d10_spread_152 rfl rfl ?_
        refine g_laldN ((((s + 1) * 13) + (lat (k + 1)))) d10_spread_153 a_27 (rfl) (by omega) (by decide) ?_
        refine g_topL (lN ((if lat (k + 1) = 1 then sp (m s) (cm s) (pt m cm s0 s) k 1 + p / 10 * cm s (k + 1) else sp (m s) (cm s) (pt m cm s0 s) k (lat (k + 1))))) (by
  by_cases e : lat (k + 1) = 1
  · rw [if_pos e, e, uL_ss]
  · rw [if_neg e, uL_sn (by omega), g27]; exact i4 (lat (k + 1)) (by omega)) ?_
        refine g_lload d10_spread_154 rfl ?_
        refine g_lload d10_spread_156 rfl ?_
        refine g_lsub d10_spread_158 ?_
        refine g_topL (lN (p - (p / 10 * cm s (k + 1)))) (lN_sub (aw2)) ?_
        refine g_ladd d10_spread_159 ?_
        refine g_topL (lN ((if lat (k + 1) = 1 then sp (m s) (cm s) (pt m cm s0 s) k 1 + p / 10 * cm s (k + 1) else sp (m s) (cm s) (pt m cm s0 s) k (lat (k + 1))) + (p - (p / 10 * cm s (k + 1))))) (lN_add _ _) ?_
        refine g_lastN ((((s + 1) * 13) + (lat (k + 1)))) _ d10_spread_160 a_27 (rfl) (by omega) (by decide) t_27 ?_
        refine g_iincN d10_spread_161 rfl (by decide) ?_
        refine g_goto 46 d10_spread_164 rfl ?_
        refine g_lo [(0, .ref 21), (2, .int (nI s)), (3, .int (nI ((s + 1) * 13))), (4, .int (nI (k + 1 + 1)))] ⟨rfl, rfl, rfl, rfl, trivial⟩ ?_
        refine ih (k + 1) (uI I4 26 (s * 13 + (k + 1)) (nI (cm s (k + 1)))) (uL (uL L4 27 ((s + 1) * 13 + 1) (lN (sp (m s) (cm s) (pt m cm s0 s) k 1 + p / 10 * cm s (k + 1)))) 27 ((s + 1) * 13 + lat (k + 1)) (lN ((if lat (k + 1) = 1 then sp (m s) (cm s) (pt m cm s0 s) k 1 + p / 10 * cm s (k + 1) else sp (m s) (cm s) (pt m cm s0 s) k (lat (k + 1))) + (p - p / 10 * cm s (k + 1))))) (by omega) ⟨?_, ?_, fun s2 h j hj => ?_, fun j hj => ?_, fun s2 h h2 j hj => ?_, fun s2 h k2 a b c => ?_, fun k2 a b c => ?_⟩
        · exact (((i1.tr (f1.up (by decide) (by decide))).ui (by decide)).ul (by decide)).ul (by decide)
        · exact w1.of (uI_n (by decide))
        · rw [uL_sn (by omega), uL_sn (by omega), g27]; exact i3 s2 h j hj
        · rw [hsp, aw]
          by_cases e : j = lat (k + 1)
          · subst e; rw [uL_ss, if_pos (c := lat (k + 1) = lat (k + 1) ∧ m s ≠ 1) ⟨rfl, by omega⟩]
            by_cases e2 : lat (k + 1) = 1
            · rw [if_pos e2, if_pos ⟨e2, by omega⟩, e2]
            · rw [if_neg e2, if_neg (fun z => e2 z.1)]; rfl
          · rw [if_neg (c := j = lat (k + 1) ∧ m s ≠ 1) (fun z => e z.1), uL_sn (by omega)]
            by_cases e2 : j = 1
            · subst e2; rw [uL_ss, if_pos ⟨rfl, by omega⟩]; rfl
            · rw [uL_sn (by omega), if_neg (fun z => e2 z.1), g27]; exact i4 j hj
        · rw [uL_sn (by omega), uL_sn (by omega), g27]; exact i5 s2 h h2 j hj
        · rw [uI_sn (by omega), g26]; exact i6 s2 h k2 a b c
        · by_cases e : k2 = k + 1
          · subst e; exact uI_ss
          · rw [uI_sn (by omega), g26]; exact i7 k2 a (by omega) c
set_option maxHeartbeats 1000000 in
theorem r10_sp2 {l : Launch} {K : cK} {d : Nat} {I : wI} {L : wL} {R : wR} {dy : cH} {Q : Option Value → cH → Prop} (g : Nat → Int32) (wa : Int32) (lc : Option (List Cl)) (hL : LWc dy (R 21 1) lc) (m : Nat → Nat) (hm : ∀ s, s < 12 → I 25 s = mI (m s) ∧ m s ≤ 2) (s0 : Nat) (cm : Nat → Nat → Nat) (hcm : cm = cmR g wa (lfO lc)) (hd : 4 ≤ d)
    (kk : ∀ (I3 : wI) (L3 : wL), FK [22, 23, 26] [22, 24, 27] I L I3 L3 ∧ WW I3 g wa ∧ (∀ s2, s2 ≤ 12 → ∀ j, j ≤ 12 → L3 27 (s2 * 13 + j) = lN (pt m cm s0 s2 j)) ∧ (∀ s2, 12 < s2 → s2 ≤ 12 → ∀ j, j ≤ 12 → L3 27 (s2 * 13 + j) = lN 0) ∧ (∀ s2, s2 < 12 → ∀ k2, 1 ≤ k2 → k2 ≤ 12 → pt m cm s0 s2 k2 ≠ 0 → I3 26 (s2 * 13 + k2) = nI (cm s2 k2)) → GL l K m10_spread d 0 0 173 [(0, .ref 21)] [] (hp I3 L3 R dy) Q) :
    ∀ (n s : Nat) (I2 : wI) (L2 : wL), s + n = 12 → FK [22, 23, 26] [22, 24, 27] I L I2 L2 ∧ WW I2 g wa ∧ (∀ s2, s2 ≤ s → ∀ j, j ≤ 12 → L2 27 (s2 * 13 + j) = lN (pt m cm s0 s2 j)) ∧ (∀ s2, s < s2 → s2 ≤ 12 → ∀ j, j ≤ 12 → L2 27 (s2 * 13 + j) = lN 0) ∧ (∀ s2, s2 < s → ∀ k2, 1 ≤ k2 → k2 ≤ 12 → pt m cm s0 s2 k2 ≠ 0 → I2 26 (s2 * 13 + k2) = nI (cm s2 k2)) → GL l K m10_spread d 0 0 30 [(0, .ref 21), (2, .int (nI s))] [] (hp I2 L2 R dy) Q := by
  intro n
  induction n with
  | zero =>
    intro s I2 L2 hs hI
    obtain rfl : s = 12 := by omega
    refine g_iload_n d10_spread_30 rfl ?_
    refine g_bipushv (nI 12) d10_spread_31 rfl ?_
    refine g_ic_ge (12) (12) 173 (by decide) (by decide) d10_spread_33 rfl (fun _ => ?_) (fun c33 => absurd c33 (by decide))
    refine g_lo [(0, .ref 21)] ⟨rfl, trivial⟩ ?_
    exact kk I2 L2 hI
  | succ n ih =>
    intro s I2 L2 hs hI
    obtain ⟨i1, i2, i3, i5, i6⟩ := hI
    refine g_iload_n d10_spread_30 rfl ?_
    refine g_bipushv (nI 12) d10_spread_31 rfl ?_
    refine g_ic_ge ((s : Nat) : Int) (12) 173 (nI_ti (by omega)) (by decide) d10_spread_33 rfl (fun c33 => absurd c33 (by omega)) (fun _ => ?_)
    refine g_iload_n d10_spread_36 rfl ?_
    refine g_iconstv (nI 1) d10_spread_37 rfl ?_
    refine g_iaddN d10_spread_38 ?_
    refine g_bipushv (nI 13) d10_spread_39 rfl ?_
    refine g_imulN d10_spread_41 ?_
    refine g_istore_n d10_spread_42 (by decide) ?_
    refine g_iconstv (nI 1) d10_spread_43 rfl ?_
    refine g_istore d10_spread_44 (by decide) ?_
    refine g_lo [(0, .ref 21), (2, .int (nI s)), (3, .int (nI ((s + 1) * 13))), (4, .int (nI (0 + 1)))] ⟨rfl, rfl, rfl, rfl, trivial⟩ ?_
    refine r10_sp1 g wa lc hL m hm s0 cm hcm s (by omega) hd (fun I3 L3 hO => ?_) 12 0 I2 L2 (by omega) ⟨i1, i2, i3, fun j hj => i5 (s + 1) (by omega) (by omega) j hj, fun s2 a b j hj => i5 s2 (by omega) b j hj, i6, fun k2 a b => by omega⟩
    refine g_iincN d10_spread_167 rfl (by decide) ?_
    refine g_goto 30 d10_spread_170 rfl ?_
    refine g_lo [(0, .ref 21), (2, .int (nI (s + 1)))] ⟨rfl, rfl, trivial⟩ ?_
    exact ih (s + 1) I3 L3 (by omega) hO
set_option maxHeartbeats 400000 in
theorem r10_sp3 {l : Launch} {K : cK} {d : Nat} {I : wI} {L : wL} {R : wR} {dy : cH} {Q : Option Value → cH → Prop} (f : Nat → Nat) (hf : ∀ j, j ≤ 12 → L 27 (156 + j) = lN (f j)) (kk : Q (some (.long (lN (sm f 12)))) (hp I L R dy)) : ∀ (n k : Nat), k + n = 12 → GL l K m10_spread d 0 0 178 [(0, .ref 21), (2, .long (lN (sm f k))), (4, .int (nI (k + 1)))] [] (hp I L R dy) Q := by
  intro n
  induction n with
  | zero =>
    intro k hk
    obtain rfl : k = 12 := by omega
    refine g_iload d10_spread_178 rfl ?_
    refine g_bipushv (nI 12) d10_spread_180 rfl ?_
    refine g_ic_gt (13) (12) 205 (by decide) (by decide) d10_spread_182 rfl (fun _ => ?_) (fun c182 => absurd c182 (by decide))
    refine g_lload_n d10_spread_205 rfl ?_
    exact g_lret rfl d10_spread_206 (kk)
  | succ n ih =>
    intro k hk
    refine g_iload d10_spread_178 rfl ?_
    refine g_bipushv (nI 12) d10_spread_180 rfl ?_
    refine g_ic_gt (((k + 1) : Nat) : Int) (12) 205 (nI_ti (by omega)) (by decide) d10_spread_182 rfl (fun c182 => absurd c182 (by omega)) (fun _ => ?_)
    refine g_lload_n d10_spread_185 rfl ?_
    refine g_aload_n d10_spread_186 rfl ?_
    refine g_get fl10_25 d10_spread_187 f_21_4 ?_
    refine g_sipushv (nI 156) d10_spread_190 rfl ?_
    refine g_iload d10_spread_193 rfl ?_
    refine g_iaddN d10_spread_195 ?_
    refine g_laldN ((156 + (k + 1))) d10_spread_196 a_27 (rfl) (by omega) (by decide) ?_
    refine g_topL (lN ((f (k + 1)))) (hf (k + 1) (by omega)) ?_
    refine g_ladd d10_spread_197 ?_
    refine g_topL (lN (sm f k + (f (k + 1)))) (lN_add _ _) ?_
    refine g_lstore_n d10_spread_198 (by decide) ?_
    refine g_iincN d10_spread_199 rfl (by decide) ?_
    refine g_goto 178 d10_spread_202 rfl ?_
    refine g_lo [(0, .ref 21), (2, .long (lN (sm f (k + 1)))), (4, .int (nI (k + 1 + 1)))] ⟨rfl, rfl, rfl, trivial⟩ ?_
    exact ih (k + 1) (by omega)
/-- the parts, and how he came where there are parts -/
def SPD (I : wI) (L : wL) (m : Nat → Nat) (cm : Nat → Nat → Nat) (s0 : Nat) : Prop := (∀ s2, s2 ≤ 12 → ∀ j, j ≤ 12 → L 27 (s2 * 13 + j) = lN (pt m cm s0 s2 j)) ∧ ∀ s2, s2 < 12 → ∀ k2, 1 ≤ k2 → k2 ≤ 12 → pt m cm s0 s2 k2 ≠ 0 → I 26 (s2 * 13 + k2) = nI (cm s2 k2)
theorem SPD.of {I I2 : wI} {L L2 : wL} {m : Nat → Nat} {cm : Nat → Nat → Nat} {s0 : Nat} (h : SPD I L m cm s0) (e1 : I2 26 = I 26) (e2 : L2 27 = L 27) : SPD I2 L2 m cm s0 := by unfold SPD; rw [e1, e2]; exact h
set_option maxHeartbeats 800000 in
theorem r10_spread {l : Launch} {K : cK} {d : Nat} {I : wI} {L : wL} {R : wR} {dy : cH} (g : Nat → Int32) (wa : Int32) (hw : WW I g wa) (lc : Option (List Cl)) (hL : LWc dy (R 21 1) lc) (m : Nat → Nat) (hm : ∀ s, s < 12 → I 25 s = mI (m s) ∧ m s ≤ 2) (s0 : Nat) (hs1 : 1 ≤ s0) (hs2 : s0 ≤ 12) (hd : 4 ≤ d) : CX l K m10_spread d [.ref 21, .int (nI s0)] (hp I L R dy) (α := wI × wL) (fun x => FK [22, 23, 26] [22, 24, 27] I L x.1 x.2 ∧ WW x.1 g wa ∧ SPD x.1 x.2 m (cmR g wa (lfO lc)) s0) (fun _ => .long (lN (sm (pt m (cmR g wa (lfO lc)) s0 12) 12))) (fun x => hp x.1 x.2 R dy) := by
  refine CC.of ok10_spread (Nat.le_of_ble_eq_true rfl) ?_
  refine g_aload_n d10_spread_0 rfl ?_
  refine g_get fl10_25 d10_spread_1 f_21_4 ?_
  refine g_lconstv (0) d10_spread_4 rfl ?_
  refine g_VS2 smAr_fillL ml10_81 (rAr_fill_27 0 (Nat.le_refl 0)) (by omega) (Nat.le_of_ble_eq_true rfl) d10_spread_5 ?_
  refine g_iload_n d10_spread_8 rfl ?_
  refine g_iconstv (nI 1) d10_spread_9 rfl ?_
  refine g_ic_lt ((s0 : Nat) : Int) (1) 28 (nI_ti (by omega)) (by decide) d10_spread_10 rfl (fun c10 => absurd c10 (by omega)) (fun _ => ?_)
  refine g_iload_n d10_spread_13 rfl ?_
  refine g_bipushv (nI 12) d10_spread_14 rfl ?_
  refine g_ic_gt ((s0 : Nat) : Int) (12) 28 (nI_ti (by omega)) (by decide) d10_spread_16 rfl (fun c16 => absurd c16 (by omega)) (fun _ => ?_)
  refine g_aload_n d10_spread_19 rfl ?_
  refine g_get fl10_25 d10_spread_20 f_21_4 ?_
  refine g_iload_n d10_spread_23 rfl ?_
  refine g_ldc2 d10_spread_24 kl10_84 ?_
  refine g_lastN (s0) _ d10_spread_27 a_27 (rfl) (by omega) (by decide) t_27 ?_
  refine g_iconstv (nI 0) d10_spread_28 rfl ?_
  refine g_istore_n d10_spread_29 (by decide) ?_
  refine g_lo [(0, .ref 21), (2, .int (nI 0))] ⟨rfl, rfl, trivial⟩ ?_
  refine r10_sp2 g wa lc hL m hm s0 (cmR g wa (lfO lc)) rfl hd (fun I3 L3 hO => ?_) 12 0 I (uL (cL L 27 (fil (L 27) 0 169)) 27 s0 1000000000000) (by omega) ⟨(FK.rf.cl (by decide)).ul (by decide), hw, fun s2 h j hj => ?_, fun s2 h h2 j hj => ?_, fun s2 h => by omega⟩
  rotate_left
  · obtain rfl : s2 = 0 := by omega
    show _ = lN (if j = s0 then 1000000000000 else 0)
    by_cases e : j = s0
    · subst e; rw [if_pos rfl, show 0 * 13 + j = j by omega, uL_ss]; rfl
    · rw [if_neg e, show 0 * 13 + j = j by omega, uL_sn e, cL_s]; exact if_pos (by omega)
  · rw [uL_sn (by omega), cL_s]; exact if_pos (by omega)
  refine g_lconstv (0) d10_spread_173 rfl ?_
  refine g_lstore_n d10_spread_174 (by decide) ?_
  refine g_iconstv (nI 1) d10_spread_175 rfl ?_
  refine g_istore d10_spread_176 (by decide) ?_
  refine g_lo [(0, .ref 21), (2, .long (lN (sm (pt m (cmR g wa (lfO lc)) s0 12) 0))), (4, .int (nI (0 + 1)))] ⟨rfl, rfl, rfl, trivial⟩ ?_
  refine r10_sp3 (pt m (cmR g wa (lfO lc)) s0 12) (fun j hj => hO.2.2.1 12 (by omega) j hj) ⟨(I3, L3), ⟨hO.1, hO.2.1, hO.2.2.1, hO.2.2.2.2⟩, rfl, rfl⟩ 12 0 (by omega)
