set_option maxHeartbeats 200000 in
theorem r11_likely_no {l : Launch} {K : cK} {d : Nat} {I : wI} {L : wL} {R : wR} {dy : cH} (x w : Int32) (hbad : ¬ ((0 ≤ x.toInt ∧ x.toInt < 12) ∧ 0 ≤ w.toInt ∧ w.toInt ≤ 1)) (hd : 1 ≤ d) : CE l K m11_likely d [.ref 0, .int x, .int w] (hp I L R dy) (.long (-1)) (hp I L R dy) := by
  refine CC.of ok11_likely (Nat.le_of_ble_eq_true rfl) ?_
  by_cases h1 : ¬ (0 ≤ x.toInt ∧ x.toInt ≤ 11)
  · skip
    refine g_iload_n d11_likely_0 rfl ?_
    refine g_ES1 sm11_isSlot ml11_181 (r11_isSlotI  (rfl) (Nat.le_refl 0)) (by omega) (Nat.le_of_ble_eq_true rfl) d11_likely_1 ?_
    refine g_bz 16 d11_likely_4 rfl (fun _ => ?_) (fun c4 => absurd c4 (h1))
    refine g_ldc2 d11_likely_16 kl11_206 ?_
    exact g_lret rfl d11_likely_19 (⟨rfl, rfl⟩)
  by_cases h2 : w.toInt < 0
  · skip
    refine g_iload_n d11_likely_0 rfl ?_
    refine g_ES1 sm11_isSlot ml11_181 (r11_isSlotI  (rfl) (Nat.le_refl 0)) (by omega) (Nat.le_of_ble_eq_true rfl) d11_likely_1 ?_
    refine g_bz 16 d11_likely_4 rfl (fun c4 => absurd (by omega) c4) (fun _ => ?_)
    refine g_iload_n d11_likely_7 rfl ?_
    refine g_iz_lt _ 16 (rfl) d11_likely_8 rfl (fun _ => ?_) (fun c8 => absurd c8 (by omega))
    refine g_ldc2 d11_likely_16 kl11_206 ?_
    exact g_lret rfl d11_likely_19 (⟨rfl, rfl⟩)
  refine g_iload_n d11_likely_0 rfl ?_
  refine g_ES1 sm11_isSlot ml11_181 (r11_isSlotI  (rfl) (Nat.le_refl 0)) (by omega) (Nat.le_of_ble_eq_true rfl) d11_likely_1 ?_
  refine g_bz 16 d11_likely_4 rfl (fun c4 => absurd (by omega) c4) (fun _ => ?_)
  refine g_iload_n d11_likely_7 rfl ?_
  refine g_iz_lt _ 16 (rfl) d11_likely_8 rfl (fun c8 => absurd c8 (by omega)) (fun _ => ?_)
  refine g_iload_n d11_likely_11 rfl ?_
  refine g_iconstv (nI 1) d11_likely_12 rfl ?_
  refine g_ic_le _ (1) 20 (rfl) (by decide) d11_likely_13 rfl (fun c13 => absurd c13 (by omega)) (fun _ => ?_)
  refine g_ldc2 d11_likely_16 kl11_206 ?_
  exact g_lret rfl d11_likely_19 (⟨rfl, rfl⟩)
set_option maxHeartbeats 400000 in
theorem r11_likely_0 {l : Launch} {K : cK} {d : Nat} {I : wI} {L : wL} {R : wR} {dy : cH} (g : Nat → Int32) (hg : g 9 = I 3 3 ∧ g 13 = I 3 7) (s0 : Nat) (h34 : I 3 4 = nI s0) (hs1 : 1 ≤ s0) (hs2 : s0 ≤ 12) (o : Option Nat) (lc : Option (List Cl)) (hO : CLF I R dy (I 1 5) o lc) (sl : Nat) (hsl : sl < 12) (hd : 5 ≤ d) : CX l K m11_likely d [.ref 0, .int (nI sl), .int (nI 0)] (hp I L R dy) (α := wI × wL) (fun x => FK [22, 23, 25, 26, 28, 30, 31, 36, 39, 40, 41, 51, 52] [22, 24, 27, 30, 32, 33, 34, 35, 37, 38, 39, 42, 43, 51, 53, 54] I L x.1 x.2) (fun _ => .long (lN (pt fr2 (cmR g (I 3 5) (lfO lc)) s0 (sl + 1) 1))) (fun x => hp x.1 x.2 (uR R 21 1 o) dy) := by
  rw [← lik_0 (cmR_le g (I 3 5) (lfO lc)) hsl]
  have em : ∀ s, s < 12 → uI (cI (sv I (I 3 5)) 25 (fil (sv I (I 3 5) 25) (-1) 12)) 25 sl (nI 1) 25 s = mI (if s = sl then 1 else 2) ∧ (if s = sl then 1 else 2) ≤ 2 := fun s hs => by
    by_cases e : s = sl
    · subst e; rw [if_pos rfl, uI_ss]; exact ⟨rfl, by decide⟩
    · rw [if_neg e, uI_sn e, cI_s]; exact ⟨if_pos hs, by decide⟩
  refine CC.of ok11_likely (Nat.le_of_ble_eq_true rfl) ?_
  refine g_iload_n d11_likely_0 rfl ?_
  refine g_ES1 sm11_isSlot ml11_181 (r11_isSlotI (xi := ((sl : Nat) : Int)) (nI_ti (by omega)) (Nat.le_refl 0)) (by omega) (Nat.le_of_ble_eq_true rfl) d11_likely_1 ?_
  refine g_bz 16 d11_likely_4 rfl (fun c4 => absurd (by omega) c4) (fun _ => ?_)
  refine g_iload_n d11_likely_7 rfl ?_
  refine g_iz_lt (0) 16 (by decide) d11_likely_8 rfl (fun c8 => absurd c8 (by decide)) (fun _ => ?_)
  refine g_iload_n d11_likely_11 rfl ?_
  refine g_iconstv (nI 1) d11_likely_12 rfl ?_
  refine g_ic_le (0) (1) 20 (by decide) (by decide) d11_likely_13 rfl (fun _ => ?_) (fun c13 => absurd c13 (by decide))
  refine g_aload_n d11_likely_20 rfl ?_
  refine g_get fl11_43 d11_likely_21 f_0_5 ?_
  refine g_aload_n d11_likely_24 rfl ?_
  refine g_get fl11_10 d11_likely_25 f_0_0 ?_
  refine g_aload_n d11_likely_28 rfl ?_
  refine g_get fl11_10 d11_likely_29 f_0_0 ?_
  refine g_get fl11_178 d11_likely_32 f_1_5 ?_
  refine g_aload_n d11_likely_35 rfl ?_
  refine g_get fl11_10 d11_likely_36 f_0_0 ?_
  refine g_get fl11_142 d11_likely_39 f_1_2 ?_
  refine g_iconstv (nI 5) d11_likely_42 rfl ?_
  refine g_ialdN (5) d11_likely_43 a_3 (rfl) (by omega) (by decide) ?_
  refine g_VV3 vm10_serve ml11_184 c_21 (r10_serve (I 1 5) o lc hO (I 3 5) (Nat.le_refl 1)) (by omega) (Nat.le_of_ble_eq_true rfl) d11_likely_44 ?_
  refine g_aload_n d11_likely_47 rfl ?_
  refine g_get fl11_43 d11_likely_48 f_0_5 ?_
  refine g_VV0 vm10_freeSlots ml11_208 c_21 (r10_free (Nat.le_refl 1)) (by omega) (Nat.le_of_ble_eq_true rfl) d11_likely_51 ?_
  refine g_iload_n d11_likely_54 rfl ?_
  refine g_iz_ne (0) 71 (by decide) d11_likely_55 rfl (fun c55 => absurd c55 (by decide)) (fun _ => ?_)
  refine g_aload_n d11_likely_58 rfl ?_
  refine g_get fl11_43 d11_likely_59 f_0_5 ?_
  refine g_get fl11_211 d11_likely_62 f_21_2 ?_
  refine g_iload_n d11_likely_65 rfl ?_
  refine g_iconstv (nI 1) d11_likely_66 rfl ?_
  refine g_iastN (sl) _ d11_likely_67 a_25 (rfl) (by omega) (by decide) t_25 ?_
  refine g_goto 94 d11_likely_68 rfl ?_
  refine g_aload_n d11_likely_94 rfl ?_
  refine g_get fl11_43 d11_likely_95 f_0_5 ?_
  refine g_aload_n d11_likely_98 rfl ?_
  refine g_get fl11_10 d11_likely_99 f_0_0 ?_
  refine g_get fl11_142 d11_likely_102 f_1_2 ?_
  refine g_iconstv (nI 4) d11_likely_105 rfl ?_
  refine g_ialdN (4) d11_likely_106 a_3 (rfl) (by omega) (by decide) ?_
  refine g_topI (nI (s0)) (h34) ?_
  refine g_XV1 vm10_spread ml11_214 c_21 (r10_spread (I := uI (cI (sv I (I 3 5)) 25 (fil (sv I (I 3 5) 25) (-1) 12)) 25 sl (nI 1)) (L := L) g (I 3 5) ((sv_ww hg).of (by rw [uI_n (by decide), cI_n (by decide)])) lc hO.lw (fun s => if s = sl then 1 else 2) em s0 hs1 hs2 (Nat.le_refl 4)) (by omega) (Nat.le_of_ble_eq_true rfl) d11_likely_107 (fun v hv => ?_)
  exact g_lret rfl d11_likely_110 (⟨v, (((sv_fk (by decide)).ci (by decide)).ui (by decide)).tr (hv.1.up (by decide) (by decide)), rfl, rfl⟩)
set_option maxHeartbeats 800000 in
theorem r11_lkL {l : Launch} {K : cK} {d : Nat} {I : wI} {L : wL} {R : wR} {dy : cH} {Q : Option Value → cH → Prop} (J : wI) (sl : Nat) (hsl : sl < 12)
    (kk : ∀ I3 : wI, (∀ k, k ≠ 25 → I3 k = J k) → (∀ s, s < 12 → I3 25 s = if s ≤ sl then 0 else J 25 s) → GL l K m11_likely d 0 0 94 [(0, .ref 0)] [] (hp I3 L R dy) Q) :
    ∀ (m j : Nat) (I2 : wI), j + m = sl + 1 → (∀ k, k ≠ 25 → I2 k = J k) → (∀ s, s < 12 → I2 25 s = if s < j then 0 else J 25 s) → GL l K m11_likely d 0 0 73 [(0, .ref 0), (1, .int (nI sl)), (3, .int (nI j))] [] (hp I2 L R dy) Q := by
  intro m
  induction m with
  | zero =>
    intro j I2 hj h1 h2
    obtain rfl : j = sl + 1 := by omega
    refine g_iload_n d11_likely_73 rfl ?_
    refine g_iload_n d11_likely_74 rfl ?_
    refine g_ic_gt (((sl + 1) : Nat) : Int) ((sl : Nat) : Int) 94 (nI_ti (by omega)) (nI_ti (by omega)) d11_likely_75 rfl (fun _ => ?_) (fun c75 => absurd c75 (by omega))
    refine g_lo [(0, .ref 0)] ⟨rfl, trivial⟩ ?_
    refine kk I2 h1 (fun s hs => ?_)
    rw [h2 s hs]
    by_cases e : s ≤ sl
    · rw [if_pos e, if_pos (by omega)]
    · rw [if_neg e, if_neg (by omega)]
  | succ m ih =>
    intro j I2 hj h1 h2
    refine g_iload_n d11_likely_73 rfl ?_
    refine g_iload_n d11_likely_74 rfl ?_
    refine g_ic_gt ((j : Nat) : Int) ((sl : Nat) : Int) 94 (nI_ti (by omega)) (nI_ti (by omega)) d11_likely_75 rfl (fun c75 => absurd c75 (by omega)) (fun _ => ?_)
    refine g_aload_n d11_likely_78 rfl ?_
    refine g_get fl11_43 d11_likely_79 f_0_5 ?_
    refine g_get fl11_211 d11_likely_82 f_21_2 ?_
    refine g_iload_n d11_likely_85 rfl ?_
    refine g_iconstv (nI 0) d11_likely_86 rfl ?_
    refine g_iastN (j) _ d11_likely_87 a_25 (rfl) (by omega) (by decide) t_25 ?_
    refine g_iincN d11_likely_88 rfl (by decide) ?_
    refine g_goto 73 d11_likely_91 rfl ?_
    refine g_lo [(0, .ref 0), (1, .int (nI sl)), (3, .int (nI (j + 1)))] ⟨rfl, rfl, rfl, trivial⟩ ?_
    refine ih (j + 1) _ (by omega) (fun k hk => by rw [uI_n hk]; exact h1 k hk) (fun s hs => ?_)
    by_cases e : s = j
    · subst e; rw [uI_ss, if_pos (by omega)]; rfl
    · rw [uI_sn e, h2 s hs]
      by_cases e2 : s < j
      · rw [if_pos e2, if_pos (by omega)]
      · rw [if_neg e2, if_neg (by omega)]
set_option maxHeartbeats 400000 in
theorem r11_likely_1 {l : Launch} {K : cK} {d : Nat} {I : wI} {L : wL} {R : wR} {dy : cH} (g : Nat → Int32) (hg : g 9 = I 3 3 ∧ g 13 = I 3 7) (s0 : Nat) (h34 : I 3 4 = nI s0) (hs1 : 1 ≤ s0) (hs2 : s0 ≤ 12) (o : Option Nat) (lc : Option (List Cl)) (hO : CLF I R dy (I 1 5) o lc) (sl : Nat) (hsl : sl < 12) (hd : 5 ≤ d) : CX l K m11_likely d [.ref 0, .int (nI sl), .int (nI 1)] (hp I L R dy) (α := wI × wL) (fun x => FK [22, 23, 25, 26, 28, 30, 31, 36, 39, 40, 41, 51, 52] [22, 24, 27, 30, 32, 33, 34, 35, 37, 38, 39, 42, 43, 51, 53, 54] I L x.1 x.2) (fun _ => .long (lN (nc (cmR g (I 3 5) (lfO lc)) s0 (sl + 1)).1)) (fun x => hp x.1 x.2 (uR R 21 1 o) dy) := by
  rw [← lik_1 (cmR_le g (I 3 5) (lfO lc)) hs1 hs2 hsl]
  refine CC.of ok11_likely (Nat.le_of_ble_eq_true rfl) ?_
  refine g_iload_n d11_likely_0 rfl ?_
  refine g_ES1 sm11_isSlot ml11_181 (r11_isSlotI (xi := ((sl : Nat) : Int)) (nI_ti (by omega)) (Nat.le_refl 0)) (by omega) (Nat.le_of_ble_eq_true rfl) d11_likely_1 ?_
  refine g_bz 16 d11_likely_4 rfl (fun c4 => absurd (by omega) c4) (fun _ => ?_)
  refine g_iload_n d11_likely_7 rfl ?_
  refine g_iz_lt (1) 16 (by decide) d11_likely_8 rfl (fun c8 => absurd c8 (by decide)) (fun _ => ?_)
  refine g_iload_n d11_likely_11 rfl ?_
  refine g_iconstv (nI 1) d11_likely_12 rfl ?_
  refine g_ic_le (1) (1) 20 (by decide) (by decide) d11_likely_13 rfl (fun _ => ?_) (fun c13 => absurd c13 (by decide))
  refine g_aload_n d11_likely_20 rfl ?_
  refine g_get fl11_43 d11_likely_21 f_0_5 ?_
  refine g_aload_n d11_likely_24 rfl ?_
  refine g_get fl11_10 d11_likely_25 f_0_0 ?_
  refine g_aload_n d11_likely_28 rfl ?_
  refine g_get fl11_10 d11_likely_29 f_0_0 ?_
  refine g_get fl11_178 d11_likely_32 f_1_5 ?_
  refine g_aload_n d11_likely_35 rfl ?_
  refine g_get fl11_10 d11_likely_36 f_0_0 ?_
  refine g_get fl11_142 d11_likely_39 f_1_2 ?_
  refine g_iconstv (nI 5) d11_likely_42 rfl ?_
  refine g_ialdN (5) d11_likely_43 a_3 (rfl) (by omega) (by decide) ?_
  refine g_VV3 vm10_serve ml11_184 c_21 (r10_serve (I 1 5) o lc hO (I 3 5) (Nat.le_refl 1)) (by omega) (Nat.le_of_ble_eq_true rfl) d11_likely_44 ?_
  refine g_aload_n d11_likely_47 rfl ?_
  refine g_get fl11_43 d11_likely_48 f_0_5 ?_
  refine g_VV0 vm10_freeSlots ml11_208 c_21 (r10_free (Nat.le_refl 1)) (by omega) (Nat.le_of_ble_eq_true rfl) d11_likely_51 ?_
  refine g_iload_n d11_likely_54 rfl ?_
  refine g_iz_ne (1) 71 (by decide) d11_likely_55 rfl (fun _ => ?_) (fun c55 => absurd c55 (by decide))
  refine g_iconstv (nI 0) d11_likely_71 rfl ?_
  refine g_istore_n d11_likely_72 (by decide) ?_
  refine g_lo [(0, .ref 0), (1, .int (nI sl)), (3, .int (nI 0))] ⟨rfl, rfl, rfl, trivial⟩ ?_
  obtain ⟨J, hJd⟩ : ∃ J, J = (cI (sv I (I 3 5)) 25 (fil (sv I (I 3 5) 25) (-1) 12)) := ⟨_, rfl⟩
  rw [← hJd]
  refine r11_lkL (I := I) J sl hsl (fun I3 h1 h2 => ?_) (sl + 1) 0 J (by omega) (fun _ _ => rfl) (fun s hs => (if_neg (by omega)).symm)
  have em : ∀ s, s < 12 → I3 25 s = mI (if s ≤ sl then 0 else 2) ∧ (if s ≤ sl then 0 else 2) ≤ 2 := fun s hs => by
    rw [h2 s hs]
    by_cases e : s ≤ sl
    · rw [if_pos e, if_pos e]; exact ⟨rfl, by decide⟩
    · rw [if_neg e, if_neg e, hJd, cI_s]; exact ⟨if_pos hs, by decide⟩
  have w3 : WW I3 g (I 3 5) := (sv_ww hg).of (by rw [h1 23 (by decide), hJd, cI_n (by decide)])
  have F3 : FK [22, 23, 25, 26, 28, 30, 31, 36, 39, 40, 41, 51, 52] [22, 24, 27, 30, 32, 33, 34, 35, 37, 38, 39, 42, 43, 51, 53, 54] I L I3 L := ⟨fun k hk => by
    have hk1 : k ≠ 25 := fun z => hk (by rw [z]; decide)
    have hk2 : k ≠ 23 := fun z => hk (by rw [z]; decide)
    rw [h1 k hk1, hJd, cI_n hk1]; unfold sv; rw [uI_n hk2, uI_n hk2, uI_n hk2], fun _ _ => rfl⟩
  have e34 : I3 3 4 = nI s0 := by rw [F3.1 3 (by decide)]; exact h34
  refine g_aload_n d11_likely_94 rfl ?_
  refine g_get fl11_43 d11_likely_95 f_0_5 ?_
  refine g_aload_n d11_likely_98 rfl ?_
  refine g_get fl11_10 d11_likely_99 f_0_0 ?_
  refine g_get fl11_142 d11_likely_102 f_1_2 ?_
  refine g_iconstv (nI 4) d11_likely_105 rfl ?_
  refine g_ialdN (4) d11_likely_106 a_3 (rfl) (by omega) (by decide) ?_
  refine g_topI (nI (s0)) (e34) ?_
  refine g_XV1 vm10_spread ml11_214 c_21 (r10_spread (I := I3) (L := L) g (I 3 5) w3 lc hO.lw (fun s => if s ≤ sl then 0 else 2) em s0 hs1 hs2 (Nat.le_refl 4)) (by omega) (Nat.le_of_ble_eq_true rfl) d11_likely_107 (fun v hv => ?_)
  exact g_lret rfl d11_likely_110 (⟨v, F3.tr (hv.1.up (by decide) (by decide)), rfl, rfl⟩)
set_option maxHeartbeats 200000 in
theorem r11_fits_no {l : Launch} {K : cK} {d : Nat} {I : wI} {L : wL} {R : wR} {dy : cH} (nl : Nat) (hnl : I 1 3 = nI nl) (hnl6 : nl ≤ 6) (x : Int32) (hbad : ¬ (x.toInt = -1 ∨ (0 ≤ x.toInt ∧ x.toInt < nl))) (hd : 1 ≤ d) : CE l K m11_fits d [.ref 0, .int x] (hp I L R dy) (.long (-1)) (hp I L R dy) := by
  refine CC.of ok11_fits (Nat.le_of_ble_eq_true rfl) ?_
  refine g_iload_n d11_fits_0 rfl ?_
  refine g_iconstv ((-1 : Int32)) d11_fits_1 rfl ?_
  refine g_ic_eq _ (-1) 20 (rfl) (by decide) d11_fits_2 rfl (fun c2 => absurd c2 (by omega)) (fun _ => ?_)
  refine g_aload_n d11_fits_5 rfl ?_
  refine g_get fl11_10 d11_fits_6 f_0_0 ?_
  refine g_iload_n d11_fits_9 rfl ?_
  refine g_EV1 vm6_hasLaw ml11_175 c_1 (r6_hasLawI  nl hnl hnl6 rfl (Nat.le_refl 0)) (by omega) (Nat.le_of_ble_eq_true rfl) d11_fits_10 ?_
  refine g_bnz 20 d11_fits_13 rfl (fun c13 => absurd c13 (by omega)) (fun _ => ?_)
  refine g_ldc2 d11_fits_16 kl11_206 ?_
  exact g_lret rfl d11_fits_19 (⟨rfl, rfl⟩)
set_option maxHeartbeats 200000 in
theorem r11_fits_none {l : Launch} {K : cK} {d : Nat} {I : wI} {L : wL} {R : wR} {dy : cH} (g : Nat → Int32) (hg : g 9 = I 3 3 ∧ g 13 = I 3 7) (s0 : Nat) (h34 : I 3 4 = nI s0) (hs1 : 1 ≤ s0) (hs2 : s0 ≤ 12) (o : Option Nat) (lc : Option (List Cl)) (hO : CLF I R dy (-1) o lc) (n : Nat) (ss sc : Nat → Nat) (hSL : CSL I n ss sc) (hd : 6 ≤ d) : CX l K m11_fits d [.ref 0, .int (-1)] (hp I L R dy) (α := wI × wL) (fun x => FK [22, 23, 25, 26, 28, 30, 31, 36, 39, 40, 41, 51, 52] [22, 24, 27, 30, 32, 33, 34, 35, 37, 38, 39, 42, 43, 51, 53, 54] I L x.1 x.2) (fun _ => .long (lN (sm (pq (fun s => decide (sO ss sc s n 0 ≠ 1)) (fun s => decide (sO ss sc s n 0 ≠ 2 ∧ ¬ (s : Int) = (-1 : Int32).toInt)) (cmR g (I 3 5) (lfO lc)) s0 12) 12))) (fun x => hp x.1 x.2 (uR R 21 1 o) dy) := by
  refine CC.of ok11_fits (Nat.le_of_ble_eq_true rfl) ?_
  refine g_iload_n d11_fits_0 rfl ?_
  refine g_iconstv ((-1 : Int32)) d11_fits_1 rfl ?_
  refine g_ic_eq (-1) (-1) 20 (by decide) (by decide) d11_fits_2 rfl (fun _ => ?_) (fun c2 => absurd c2 (by decide))
  refine g_aload_n d11_fits_20 rfl ?_
  refine g_iload_n d11_fits_21 rfl ?_
  refine g_iconstv ((-1 : Int32)) d11_fits_22 rfl ?_
  refine g_XV2 vm11_slipParts ml11_306 c_0 (r11_parts0 g hg s0 h34 hs1 hs2 (-1) o lc hO n ss sc hSL (-1) (by decide) (Nat.le_refl 5)) (by omega) (Nat.le_of_ble_eq_true rfl) d11_fits_23 (fun v hv => ?_)
  exact g_lret rfl d11_fits_26 (⟨v, hv, rfl, rfl⟩)
set_option maxHeartbeats 200000 in
theorem r11_fits_law {l : Launch} {K : cK} {d : Nat} {I : wI} {L : wL} {R : wR} {dy : cH} (g : Nat → Int32) (hg : g 9 = I 3 3 ∧ g 13 = I 3 7) (s0 : Nat) (h34 : I 3 4 = nI s0) (hs1 : 1 ≤ s0) (hs2 : s0 ≤ 12) (a : Nat) (o : Option Nat) (lc : Option (List Cl)) (hO : CLF I R dy (nI a) o lc) (n : Nat) (ss sc : Nat → Nat) (hSL : CSL I n ss sc) (nl : Nat) (hnl : I 1 3 = nI nl) (hnl6 : nl ≤ 6) (ha : a < nl) (hd : 6 ≤ d) : CX l K m11_fits d [.ref 0, .int (nI a)] (hp I L R dy) (α := wI × wL) (fun x => FK [22, 23, 25, 26, 28, 30, 31, 36, 39, 40, 41, 51, 52] [22, 24, 27, 30, 32, 33, 34, 35, 37, 38, 39, 42, 43, 51, 53, 54] I L x.1 x.2) (fun _ => .long (lN (sm (pq (fun s => decide (sO ss sc s n 0 ≠ 1)) (fun s => decide (sO ss sc s n 0 ≠ 2 ∧ ¬ (s : Int) = (-1 : Int32).toInt)) (cmR g (I 3 5) (lfO lc)) s0 12) 12))) (fun x => hp x.1 x.2 (uR R 21 1 o) dy) := by
  refine CC.of ok11_fits (Nat.le_of_ble_eq_true rfl) ?_
  refine g_iload_n d11_fits_0 rfl ?_
  refine g_iconstv ((-1 : Int32)) d11_fits_1 rfl ?_
  refine g_ic_eq ((a : Nat) : Int) (-1) 20 (nI_ti (by omega)) (by decide) d11_fits_2 rfl (fun c2 => absurd c2 (by omega)) (fun _ => ?_)
  refine g_aload_n d11_fits_5 rfl ?_
  refine g_get fl11_10 d11_fits_6 f_0_0 ?_
  refine g_iload_n d11_fits_9 rfl ?_
  refine g_EV1 vm6_hasLaw ml11_175 c_1 (r6_hasLawI (xi := ((a : Nat) : Int)) nl hnl hnl6 (nI_ti (by omega)) (Nat.le_refl 0)) (by omega) (Nat.le_of_ble_eq_true rfl) d11_fits_10 ?_
  refine g_bnz 20 d11_fits_13 rfl (fun _ => ?_) (fun c13 => absurd (by omega) c13)
  refine g_aload_n d11_fits_20 rfl ?_
  refine g_iload_n d11_fits_21 rfl ?_
  refine g_iconstv ((-1 : Int32)) d11_fits_22 rfl ?_
  refine g_XV2 vm11_slipParts ml11_306 c_0 (r11_parts0 g hg s0 h34 hs1 hs2 (nI a) o lc hO n ss sc hSL (-1) (by decide) (Nat.le_refl 5)) (by omega) (Nat.le_of_ble_eq_true rfl) d11_fits_23 (fun v hv => ?_)
  exact g_lret rfl d11_fits_26 (⟨v, hv, rfl, rfl⟩)
set_option maxHeartbeats 200000 in
theorem r11_went_no {l : Launch} {K : cK} {d : Nat} {I : wI} {L : wL} {R : wR} {dy : cH} (x : Int32) (hbad : ¬ (0 ≤ x.toInt ∧ x.toInt < 12)) (hd : 1 ≤ d) : CE l K m11_went d [.ref 0, .int x] (hp I L R dy) (.long (-1)) (hp I L R dy) := by
  refine CC.of ok11_went (Nat.le_of_ble_eq_true rfl) ?_
  refine g_iload_n d11_went_0 rfl ?_
  refine g_ES1 sm11_isSlot ml11_181 (r11_isSlotI  (rfl) (Nat.le_refl 0)) (by omega) (Nat.le_of_ble_eq_true rfl) d11_went_1 ?_
  refine g_bnz 11 d11_went_4 rfl (fun c4 => absurd c4 (by omega)) (fun _ => ?_)
  refine g_ldc2 d11_went_7 kl11_206 ?_
  exact g_lret rfl d11_went_10 (⟨rfl, rfl⟩)
set_option maxHeartbeats 200000 in
theorem r11_went_ok {l : Launch} {K : cK} {d : Nat} {I : wI} {L : wL} {R : wR} {dy : cH} (g : Nat → Int32) (hg : g 9 = I 3 3 ∧ g 13 = I 3 7) (s0 : Nat) (h34 : I 3 4 = nI s0) (hs1 : 1 ≤ s0) (hs2 : s0 ≤ 12) (o : Option Nat) (lc : Option (List Cl)) (hO : CLF I R dy (I 1 5) o lc) (n : Nat) (ss sc : Nat → Nat) (hSL : CSL I n ss sc) (sl : Nat) (hsl : sl < 12) (hd : 6 ≤ d) : CX l K m11_went d [.ref 0, .int (nI sl)] (hp I L R dy) (α := wI × wL) (fun x => FK [22, 23, 25, 26, 28, 30, 31, 36, 39, 40, 41, 51, 52] [22, 24, 27, 30, 32, 33, 34, 35, 37, 38, 39, 42, 43, 51, 53, 54] I L x.1 x.2) (fun _ => .long (lN (sm (pq (fun s => decide (sO ss sc s n 0 ≠ 1)) (fun s => decide (sO ss sc s n 0 ≠ 2 ∧ ¬ (s : Int) = (nI sl).toInt)) (cmR g (I 3 5) (lfO lc)) s0 12) 12))) (fun x => hp x.1 x.2 (uR R 21 1 o) dy) := by
  refine CC.of ok11_went (Nat.le_of_ble_eq_true rfl) ?_
  refine g_iload_n d11_went_0 rfl ?_
  refine g_ES1 sm11_isSlot ml11_181 (r11_isSlotI (xi := ((sl : Nat) : Int)) (nI_ti (by omega)) (Nat.le_refl 0)) (by omega) (Nat.le_of_ble_eq_true rfl) d11_went_1 ?_
  refine g_bnz 11 d11_went_4 rfl (fun _ => ?_) (fun c4 => absurd (by omega) c4)
  refine g_aload_n d11_went_11 rfl ?_
  refine g_aload_n d11_went_12 rfl ?_
  refine g_get fl11_10 d11_went_13 f_0_0 ?_
  refine g_get fl11_178 d11_went_16 f_1_5 ?_
  refine g_iload_n d11_went_19 rfl ?_
  refine g_XV2 vm11_slipParts ml11_306 c_0 (r11_parts1 g hg s0 h34 hs1 hs2 (I 1 5) o lc hO n ss sc hSL sl hsl (Nat.le_refl 5)) (by omega) (Nat.le_of_ble_eq_true rfl) d11_went_20 (fun v hv => ?_)
  exact g_lret rfl d11_went_23 (⟨v, hv, rfl, rfl⟩)
/-- the laws -/
def LWS (I : wI) (R : wR) (dy : cH) (nl : Nat) (Tf : Nat → Nat) (Cf : Nat → List Cl) : Prop := I 1 3 = nI nl ∧ nl ≤ 6 ∧ ∀ a, a < nl → R 4 a = some (Tf a) ∧ CTX dy (Tf a) (Cf a) ∧ SPR (Cf a)
theorem LWS.clf {I : wI} {R : wR} {dy : cH} {nl : Nat} {Tf : Nat → Nat} {Cf : Nat → List Cl} (h : LWS I R dy nl Tf Cf) {a : Nat} (ha : a < nl) : CLF I R dy (nI a) (some (Tf a)) (some (Cf a)) :=
  ⟨nl, h.1, h.2.1, Or.inr ⟨a, Tf a, Cf a, ha, rfl, rfl, (h.2.2 a ha).1, rfl, (h.2.2 a ha).2.1, (h.2.2 a ha).2.2⟩⟩
theorem LWS.cl0 {I : wI} {R : wR} {dy : cH} {nl : Nat} {Tf : Nat → Nat} {Cf : Nat → List Cl} (h : LWS I R dy nl Tf Cf) : CLF I R dy (-1) none none :=
  ⟨nl, h.1, h.2.1, Or.inl ⟨rfl, rfl, fun z => absurd z.1 (by decide)⟩⟩
theorem LWS.of {I I2 : wI} {R : wR} {dy : cH} {nl : Nat} {Tf : Nat → Nat} {Cf : Nat → List Cl} {o : Option Nat} (h : LWS I R dy nl Tf Cf) (e : I2 1 = I 1) : LWS I2 (uR R 21 1 o) dy nl Tf Cf := by
  unfold LWS; rw [e, uR_n (by decide)]; exact h
theorem CSL.of {I I2 : wI} {n : Nat} {ss sc : Nat → Nat} (h : CSL I n ss sc) (e1 : I2 1 = I 1) (e8 : I2 8 = I 8) (e9 : I2 9 = I 9) : CSL I2 n ss sc := by unfold CSL; rw [e1, e8, e9]; exact h
theorem wb_at (v : Nat → Nat) : ∀ j, (wb v (j + 1)).1 = ((v (wb v (j + 1)).2 : Nat) : Int) ∧ (wb v (j + 1)).2 ≤ j
  | 0 => by
    have e : wb v 1 = ((v 0 : Int), 0) := by rw [wb_s]; exact if_pos (by show (-1 : Int) < _; omega)
    rw [e]; exact ⟨rfl, Nat.le_refl _⟩
  | j + 1 => by
    obtain ⟨h1, h2⟩ := wb_at v j
    rw [wb_s]
    split
    · exact ⟨rfl, Nat.le_refl _⟩
    · exact ⟨h1, by omega⟩
def lcJ (Cf : Nat → List Cl) : Nat → Option (List Cl)
  | 0 => none
  | j + 1 => some (Cf j)
theorem lcJ_F (Cf : Nat → List Cl) (j : Nat) : lfO (lcJ Cf j) = lwF (fun a => txF (Cf a)) j := by cases j <;> rfl
set_option maxHeartbeats 1000000 in
theorem r11_whL {l : Launch} {K : cK} {d : Nat} {I : wI} {L : wL} {R : wR} {dy : cH} (g : Nat → Int32) (hg : g 9 = I 3 3 ∧ g 13 = I 3 7) (s0 : Nat) (h34 : I 3 4 = nI s0) (hs1 : 1 ≤ s0) (hs2 : s0 ≤ 12) (n : Nat) (ss sc : Nat → Nat) (hSL : CSL I n ss sc) (nl : Nat) (Tf : Nat → Nat) (Cf : Nat → List Cl) (hLW : LWS I R dy nl Tf Cf) (V : Nat → Nat) (hV : V = (fun j => sm (pq (fun s => decide (sO ss sc s n 0 ≠ 1)) (fun s => decide (sO ss sc s n 0 ≠ 2 ∧ ¬ (s : Int) = (-1 : Int32).toInt)) (cmR g (I 3 5) (lfO (lcJ Cf j))) s0 12) 12)) (hd : 6 ≤ d) :
    ∀ (m j : Nat) (o : Option Nat) (I2 : wI) (L2 : wL), j + m = nl → FK [22, 23, 25, 26, 28, 30, 31, 36, 39, 40, 41, 51, 52] [22, 24, 27, 30, 32, 33, 34, 35, 37, 38, 39, 42, 43, 51, 53, 54] I L I2 L2 → GL l K m11_which d 0 0 12 [(0, .ref 0), (1, .int (mkI (wb V (j + 1)).2)), (2, .long (lN (V (wb V (j + 1)).2))), (4, .int (nI j))] [] (hp I2 L2 (uR R 21 1 o) dy) (fun r h => ∃ x : wI × wL × Option Nat, FK [22, 23, 25, 26, 28, 30, 31, 36, 39, 40, 41, 51, 52] [22, 24, 27, 30, 32, 33, 34, 35, 37, 38, 39, 42, 43, 51, 53, 54] I L x.1 x.2.1 ∧ r = some (.int (mkI (wb V (nl + 1)).2)) ∧ h = hp x.1 x.2.1 (uR R 21 1 x.2.2) dy) := by
  have hV9 : ∀ j, V j ≤ 1000000000000 := fun j => by rw [hV]; exact pq_sum _ _ _ s0 (cmR_le _ _ _) 12
  have hnl6 := hLW.2.1
  intro m
  induction m with
  | zero =>
    intro j o I2 L2 hj hF
    obtain rfl : j = nl := by omega
    have e13 : I2 1 3 = nI j := by rw [hF.1 1 (by decide)]; exact hLW.1
    refine g_iload d11_which_12 rfl ?_
    refine g_aload_n d11_which_14 rfl ?_
    refine g_get fl11_10 d11_which_15 f_0_0 ?_
    refine g_get fl11_162 d11_which_18 f_1_3 ?_
    refine g_topI (nI (j)) (e13) ?_
    refine g_ic_ge ((j : Nat) : Int) ((j : Nat) : Int) 52 (nI_ti (by omega)) (nI_ti (by omega)) d11_which_21 rfl (fun _ => ?_) (fun c21 => absurd c21 (by omega))
    refine g_iload_n d11_which_52 rfl ?_
    exact g_iret rfl d11_which_53 (⟨(I2, L2, o), hF, rfl, rfl⟩)
  | succ m ih =>
    intro j o I2 L2 hj hF
    have e13 : I2 1 3 = nI nl := by rw [hF.1 1 (by decide)]; exact hLW.1
    have e3 := hF.1 3 (by decide)
    obtain ⟨w1, w2⟩ := wb_at V j
    have ews : wb V (j + 1 + 1) = if (wb V (j + 1)).1 < V (j + 1) then ((V (j + 1) : Int), j + 1) else wb V (j + 1) := rfl
    rw [w1] at ews
    have b1 := hV9 (j + 1)
    have b2 := hV9 (wb V (j + 1)).2
    have hvj : sm (pq (fun s => decide (sO ss sc s n 0 ≠ 1)) (fun s => decide (sO ss sc s n 0 ≠ 2 ∧ ¬ (s : Int) = (-1 : Int32).toInt)) (cmR g (I2 3 5) (lfO (some (Cf j)))) s0 12) 12 = V (j + 1) := by rw [hV, e3]; rfl
    by_cases hlt : V (wb V (j + 1)).2 < V (j + 1)
    · rw [if_pos (by omega)] at ews
      refine g_iload d11_which_12 rfl ?_
      refine g_aload_n d11_which_14 rfl ?_
      refine g_get fl11_10 d11_which_15 f_0_0 ?_
      refine g_get fl11_162 d11_which_18 f_1_3 ?_
      refine g_topI (nI (nl)) (e13) ?_
      refine g_ic_ge ((j : Nat) : Int) ((nl : Nat) : Int) 52 (nI_ti (by omega)) (nI_ti (by omega)) d11_which_21 rfl (fun c21 => absurd c21 (by omega)) (fun _ => ?_)
      refine g_aload_n d11_which_24 rfl ?_
      refine g_iload d11_which_25 rfl ?_
      refine g_iconstv ((-1 : Int32)) d11_which_27 rfl ?_
      refine g_XV2 vm11_slipParts ml11_306 c_0 (r11_parts0 (I := I2) (L := L2) (R := uR R 21 1 o) g (by rw [e3]; exact hg) s0 (by rw [e3]; exact h34) hs1 hs2 (nI j) (some (Tf j)) (some (Cf j)) ((hLW.of (hF.1 1 (by decide))).clf (by omega)) n ss sc (hSL.of (hF.1 1 (by decide)) (hF.1 8 (by decide)) (hF.1 9 (by decide))) (-1) (by decide) (Nat.le_refl 5)) (by omega) (Nat.le_of_ble_eq_true rfl) d11_which_28 (fun v hv => ?_)
      refine g_topL (lN ((V (j + 1)))) (by rw [hvj]) ?_
      obtain ⟨I4, L4⟩ := v
      dsimp only at hv ⊢
      rw [uR_uR]
      refine g_lstore d11_which_31 (by decide) ?_
      refine g_lload d11_which_33 rfl ?_
      refine g_lload_n d11_which_35 rfl ?_
      refine g_lx_le (((V (j + 1)) : Nat) : Int) (((V (wb V (j + 1)).2) : Nat) : Int) 46 (pk_lT (by omega)) (pk_lT (by omega)) d11_which_36 d11_which_37 rfl (fun c36 => absurd c36 (by omega)) (fun _ => ?_)
      refine g_iload d11_which_40 rfl ?_
      refine g_istore_n d11_which_42 (by decide) ?_
      refine g_lload d11_which_43 rfl ?_
      refine g_lstore_n d11_which_45 (by decide) ?_
      refine g_iincN d11_which_46 rfl (by decide) ?_
      refine g_goto 12 d11_which_49 rfl ?_
      refine g_lo [(0, .ref 0), (1, .int (mkI (wb V (j + 1 + 1)).2)), (2, .long (lN (V (wb V (j + 1 + 1)).2))), (4, .int (nI (j + 1)))] ⟨rfl, by rw [ews, mkI_s]; rfl, by rw [ews]; rfl, rfl, trivial⟩ ?_
      exact ih (j + 1) (some (Tf j)) I4 L4 (by omega) (hF.tr hv)
    · rw [if_neg (by omega)] at ews
      refine g_iload d11_which_12 rfl ?_
      refine g_aload_n d11_which_14 rfl ?_
      refine g_get fl11_10 d11_which_15 f_0_0 ?_
      refine g_get fl11_162 d11_which_18 f_1_3 ?_
      refine g_topI (nI (nl)) (e13) ?_
      refine g_ic_ge ((j : Nat) : Int) ((nl : Nat) : Int) 52 (nI_ti (by omega)) (nI_ti (by omega)) d11_which_21 rfl (fun c21 => absurd c21 (by omega)) (fun _ => ?_)
      refine g_aload_n d11_which_24 rfl ?_
      refine g_iload d11_which_25 rfl ?_
      refine g_iconstv ((-1 : Int32)) d11_which_27 rfl ?_
      refine g_XV2 vm11_slipParts ml11_306 c_0 (r11_parts0 (I := I2) (L := L2) (R := uR R 21 1 o) g (by rw [e3]; exact hg) s0 (by rw [e3]; exact h34) hs1 hs2 (nI j) (some (Tf j)) (some (Cf j)) ((hLW.of (hF.1 1 (by decide))).clf (by omega)) n ss sc (hSL.of (hF.1 1 (by decide)) (hF.1 8 (by decide)) (hF.1 9 (by decide))) (-1) (by decide) (Nat.le_refl 5)) (by omega) (Nat.le_of_ble_eq_true rfl) d11_which_28 (fun v hv => ?_)
      refine g_topL (lN ((V (j + 1)))) (by rw [hvj]) ?_
      obtain ⟨I4, L4⟩ := v
      dsimp only at hv ⊢
      rw [uR_uR]
      refine g_lstore d11_which_31 (by decide) ?_
      refine g_lload d11_which_33 rfl ?_
      refine g_lload_n d11_which_35 rfl ?_
      refine g_lx_le (((V (j + 1)) : Nat) : Int) (((V (wb V (j + 1)).2) : Nat) : Int) 46 (pk_lT (by omega)) (pk_lT (by omega)) d11_which_36 d11_which_37 rfl (fun _ => ?_) (fun c36 => absurd c36 (by omega))
      refine g_iincN d11_which_46 rfl (by decide) ?_
      refine g_goto 12 d11_which_49 rfl ?_
      refine g_lo [(0, .ref 0), (1, .int (mkI (wb V (j + 1 + 1)).2)), (2, .long (lN (V (wb V (j + 1 + 1)).2))), (4, .int (nI (j + 1)))] ⟨rfl, by rw [ews]; rfl, by rw [ews]; rfl, rfl, trivial⟩ ?_
      exact ih (j + 1) (some (Tf j)) I4 L4 (by omega) (hF.tr hv)
set_option maxHeartbeats 400000 in
theorem r11_which {l : Launch} {K : cK} {d : Nat} {I : wI} {L : wL} {R : wR} {dy : cH} (g : Nat → Int32) (hg : g 9 = I 3 3 ∧ g 13 = I 3 7) (s0 : Nat) (h34 : I 3 4 = nI s0) (hs1 : 1 ≤ s0) (hs2 : s0 ≤ 12) (n : Nat) (ss sc : Nat → Nat) (hSL : CSL I n ss sc) (nl : Nat) (Tf : Nat → Nat) (Cf : Nat → List Cl) (hLW : LWS I R dy nl Tf Cf) (hd : 6 ≤ d) : CX l K m11_which d [.ref 0] (hp I L R dy) (α := wI × wL × Option Nat) (fun x => FK [22, 23, 25, 26, 28, 30, 31, 36, 39, 40, 41, 51, 52] [22, 24, 27, 30, 32, 33, 34, 35, 37, 38, 39, 42, 43, 51, 53, 54] I L x.1 x.2.1) (fun _ => .int (mkI (wb (fun j => sm (pq (fun s => decide (sO ss sc s n 0 ≠ 1)) (fun s => decide (sO ss sc s n 0 ≠ 2 ∧ ¬ (s : Int) = (-1 : Int32).toInt)) (cmR g (I 3 5) (lfO (lcJ Cf j))) s0 12) 12) (nl + 1)).2)) (fun x => hp x.1 x.2.1 (uR R 21 1 x.2.2) dy) := by
  obtain ⟨V, hV⟩ : ∃ V, V = (fun j => sm (pq (fun s => decide (sO ss sc s n 0 ≠ 1)) (fun s => decide (sO ss sc s n 0 ≠ 2 ∧ ¬ (s : Int) = (-1 : Int32).toInt)) (cmR g (I 3 5) (lfO (lcJ Cf j))) s0 12) 12) := ⟨_, rfl⟩
  rw [← hV]
  have hv0 : sm (pq (fun s => decide (sO ss sc s n 0 ≠ 1)) (fun s => decide (sO ss sc s n 0 ≠ 2 ∧ ¬ (s : Int) = (-1 : Int32).toInt)) (cmR g (I 3 5) (lfO none)) s0 12) 12 = V 0 := by rw [hV]; rfl
  have e1 : wb V 1 = ((V 0 : Int), 0) := by rw [wb_s]; exact if_pos (by show (-1 : Int) < _; omega)
  refine CC.of ok11_which (Nat.le_of_ble_eq_true rfl) ?_
  refine g_iconstv ((-1 : Int32)) d11_which_0 rfl ?_
  refine g_istore_n d11_which_1 (by decide) ?_
  refine g_aload_n d11_which_2 rfl ?_
  refine g_iconstv ((-1 : Int32)) d11_which_3 rfl ?_
  refine g_iconstv ((-1 : Int32)) d11_which_4 rfl ?_
  refine g_XV2 vm11_slipParts ml11_306 c_0 (r11_parts0 g hg s0 h34 hs1 hs2 (-1) none none hLW.cl0 n ss sc hSL (-1) (by decide) (Nat.le_refl 5)) (by omega) (Nat.le_of_ble_eq_true rfl) d11_which_5 (fun v hv => ?_)
  refine g_topL (lN ((V 0))) (by rw [hv0]) ?_
  obtain ⟨I4, L4⟩ := v
  dsimp only at hv ⊢
  refine g_lstore_n d11_which_8 (by decide) ?_
  refine g_iconstv (nI 0) d11_which_9 rfl ?_
  refine g_istore d11_which_10 (by decide) ?_
  refine g_lo [(0, .ref 0), (1, .int (mkI (wb V (0 + 1)).2)), (2, .long (lN (V (wb V (0 + 1)).2))), (4, .int (nI 0))] ⟨rfl, by rw [e1]; rfl, by rw [e1]; rfl, rfl, trivial⟩ ?_
  exact r11_whL g hg s0 h34 hs1 hs2 n ss sc hSL nl Tf Cf hLW V hV hd nl 0 none I4 L4 (by omega) hv
