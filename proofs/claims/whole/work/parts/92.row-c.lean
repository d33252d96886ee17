set_option maxHeartbeats 200000 in
theorem r11_image_no {l : Launch} {K : cK} {d : Nat} {I : wI} {L : wL} {R : wR} {dy : cH} (x : Int32) (hbad : ¬ (0 ≤ x.toInt ∧ x.toInt ≤ 1)) (hd : 1 ≤ d) : CE l K m11_image d [.ref 0, .int x] (hp I L R dy) (.int (-1)) (hp (uI (uI (I) 55 0 (I 55 0 + 1)) 0 14 (-1)) L R dy) := by
  refine CC.of ok11_image (Nat.le_of_ble_eq_true rfl) ?_
  by_cases h0 : x.toInt < 0
  · skip
    refine g_iload_n d11_image_0 rfl ?_
    refine g_iz_lt _ 9 (rfl) d11_image_1 rfl (fun _ => ?_) (fun c1 => absurd c1 (by omega))
    refine g_aload_n d11_image_9 rfl ?_
    refine g_iconstv ((-1 : Int32)) d11_image_10 rfl ?_
    refine g_EV1 vm11_refuse ml11_108 c_0 (r11_refuse_1 (Nat.le_refl 0)) (by omega) (Nat.le_of_ble_eq_true rfl) d11_image_11 ?_
    exact g_iret rfl d11_image_14 (⟨rfl, rfl⟩)
  · skip
    refine g_iload_n d11_image_0 rfl ?_
    refine g_iz_lt _ 9 (rfl) d11_image_1 rfl (fun c1 => absurd c1 (by omega)) (fun _ => ?_)
    refine g_iload_n d11_image_4 rfl ?_
    refine g_iconstv (nI 2) d11_image_5 rfl ?_
    refine g_ic_lt _ (2) 15 (rfl) (by decide) d11_image_6 rfl (fun c6 => absurd c6 (by omega)) (fun _ => ?_)
    refine g_aload_n d11_image_9 rfl ?_
    refine g_iconstv ((-1 : Int32)) d11_image_10 rfl ?_
    refine g_EV1 vm11_refuse ml11_108 c_0 (r11_refuse_1 (Nat.le_refl 0)) (by omega) (Nat.le_of_ble_eq_true rfl) d11_image_11 ?_
    exact g_iret rfl d11_image_14 (⟨rfl, rfl⟩)
set_option maxHeartbeats 200000 in
theorem r11_back_no1 {l : Launch} {K : cK} {d : Nat} {I : wI} {L : wL} {R : wR} {dy : cH} (x : Int32) (hbad : ¬ (0 ≤ x.toInt ∧ x.toInt ≤ 1)) (hd : 1 ≤ d) : CE l K m11_back d [.ref 0, .int x] (hp I L R dy) (.int (-1)) (hp (uI (uI (I) 55 0 (I 55 0 + 1)) 0 14 (-1)) L R dy) := by
  refine CC.of ok11_back (Nat.le_of_ble_eq_true rfl) ?_
  by_cases h0 : x.toInt < 0
  · skip
    refine g_iload_n d11_back_0 rfl ?_
    refine g_iz_lt _ 9 (rfl) d11_back_1 rfl (fun _ => ?_) (fun c1 => absurd c1 (by omega))
    refine g_aload_n d11_back_9 rfl ?_
    refine g_iconstv ((-1 : Int32)) d11_back_10 rfl ?_
    refine g_EV1 vm11_refuse ml11_108 c_0 (r11_refuse_1 (Nat.le_refl 0)) (by omega) (Nat.le_of_ble_eq_true rfl) d11_back_11 ?_
    exact g_iret rfl d11_back_14 (⟨rfl, rfl⟩)
  · skip
    refine g_iload_n d11_back_0 rfl ?_
    refine g_iz_lt _ 9 (rfl) d11_back_1 rfl (fun c1 => absurd c1 (by omega)) (fun _ => ?_)
    refine g_iload_n d11_back_4 rfl ?_
    refine g_iconstv (nI 2) d11_back_5 rfl ?_
    refine g_ic_lt _ (2) 15 (rfl) (by decide) d11_back_6 rfl (fun c6 => absurd c6 (by omega)) (fun _ => ?_)
    refine g_aload_n d11_back_9 rfl ?_
    refine g_iconstv ((-1 : Int32)) d11_back_10 rfl ?_
    refine g_EV1 vm11_refuse ml11_108 c_0 (r11_refuse_1 (Nat.le_refl 0)) (by omega) (Nat.le_of_ble_eq_true rfl) d11_back_11 ?_
    exact g_iret rfl d11_back_14 (⟨rfl, rfl⟩)
set_option maxHeartbeats 200000 in
theorem r11_image_0 {l : Launch} {K : cK} {d : Nat} {I : wI} {L : wL} {R : wR} {dy : cH} (hR : R 10 0 = some 56) (hok : ∀ j, j < 6 → okT dy (R 4 j) ∧ okT dy (R 5 j)) (hd : 2 ≤ d) : CX l K m11_image d [.ref 0, .int (nI 0)] (hp I L R dy) (α := wI × wR) (fun x => (∀ q, q ∉ [56, 57, 58, 59, 60, 61, 62, 63, 64] → q ≠ 11 → q ≠ 0 → x.1 q = I q) ∧ x.1 11 0 = 1 ∧ (∀ q, q ≠ 0 → x.1 11 q = I 11 q) ∧ x.1 0 14 = 0 ∧ (∀ j, j ≠ 14 → x.1 0 j = I 0 j) ∧ (∀ q, q ≠ 59 → q ≠ 60 → x.2 q = R q) ∧ SEq I x.1 R x.2 56 1) (fun _ => .int (nI 0)) (fun x => hp x.1 L x.2 dy) := by
  refine CC.of ok11_image (Nat.le_of_ble_eq_true rfl) ?_
  refine g_iload_n d11_image_0 rfl ?_
  refine g_iz_lt (0) 9 (by decide) d11_image_1 rfl (fun c1 => absurd c1 (by decide)) (fun _ => ?_)
  refine g_iload_n d11_image_4 rfl ?_
  refine g_iconstv (nI 2) d11_image_5 rfl ?_
  refine g_ic_lt (0) (2) 15 (by decide) (by decide) d11_image_6 rfl (fun _ => ?_) (fun c6 => absurd c6 (by decide))
  refine g_aload_n d11_image_15 rfl ?_
  refine g_get fl11_16 d11_image_16 f_0_1 ?_
  refine g_iload_n d11_image_19 rfl ?_
  refine g_aaldN (0) 4 "CoinsWarden$State" (by decide) d11_image_20 a_10 (rfl) (by decide) (by decide) ?_
  refine g_topV (.ref 56) (by rw [hR]; rfl) ?_
  refine g_aload_n d11_image_21 rfl ?_
  refine g_get fl11_10 d11_image_22 f_0_0 ?_
  refine g_WV1 vm6_become ml11_334 c_56 (r6_become_56_1 hok (Nat.le_refl 1)) (by omega) (Nat.le_of_ble_eq_true rfl) d11_image_25 (fun x hx => ?_)
  obtain ⟨J, R2⟩ := x
  obtain ⟨h1, h2, h3⟩ := hx
  dsimp only at h1 h2 h3 ⊢
  refine g_aload_n d11_image_28 rfl ?_
  refine g_get fl11_20 d11_image_29 f_0_2 ?_
  refine g_iload_n d11_image_32 rfl ?_
  refine g_iconstv (nI 1) d11_image_33 rfl ?_
  refine g_zastN (0) _ d11_image_34 a_11 (rfl) (by decide) (by decide) (by decide) t_11 ?_
  refine g_aload_n d11_image_35 rfl ?_
  refine g_iconstv (nI 0) d11_image_36 rfl ?_
  refine g_EV1 vm11_allow ml11_119 c_0 (r11_allow (Nat.le_refl 0)) (by omega) (Nat.le_of_ble_eq_true rfl) d11_image_37 ?_
  refine g_iret rfl d11_image_40 (⟨(uI (uI J 11 0 (nI 1)) 0 14 0, R2), ⟨fun q a b c => by dsimp only; rw [uI_n c, uI_n b]; exact h1 q a, ?_, ?_, ?_, ?_, h2, ?_⟩, rfl, rfl⟩)
  · dsimp only; rw [uI_n (by decide), uI_ss]; rfl
  · intro q hq; dsimp only; rw [uI_n (by decide), uI_sn hq, h1 11 (by decide)]
  · dsimp only; exact uI_ss
  · intro j hj; dsimp only; rw [uI_sn hj, uI_n (by decide), h1 0 (by decide)]
  · obtain ⟨s1, s2, s3, s4, s5, s6⟩ := h3
    refine ⟨fun j hj => ?_, fun j hj => ?_, fun j hj => ?_, fun j hj => ?_, fun j hj => ?_, s6⟩ <;> dsimp only <;> rw [uI_n (by decide), uI_n (by decide)]
    · exact s1 j hj
    · exact s2 j hj
    · exact s3 j hj
    · rw [uI_n (by decide), uI_n (by decide)]; exact s4 j hj
    · rw [uI_n (by decide), uI_n (by decide)]; exact s5 j hj
set_option maxHeartbeats 200000 in
theorem r11_back_n_0 {l : Launch} {K : cK} {d : Nat} {I : wI} {L : wL} {R : wR} {dy : cH} (h0 : I 11 0 = 0) (hd : 1 ≤ d) : CE l K m11_back d [.ref 0, .int (nI 0)] (hp I L R dy) (.int (-2)) (hp (uI (uI (I) 55 1 (I 55 1 + 1)) 0 14 (-2)) L R dy) := by
  refine CC.of ok11_back (Nat.le_of_ble_eq_true rfl) ?_
  refine g_iload_n d11_back_0 rfl ?_
  refine g_iz_lt (0) 9 (by decide) d11_back_1 rfl (fun c1 => absurd c1 (by decide)) (fun _ => ?_)
  refine g_iload_n d11_back_4 rfl ?_
  refine g_iconstv (nI 2) d11_back_5 rfl ?_
  refine g_ic_lt (0) (2) 15 (by decide) (by decide) d11_back_6 rfl (fun _ => ?_) (fun c6 => absurd c6 (by decide))
  refine g_aload_n d11_back_15 rfl ?_
  refine g_get fl11_20 d11_back_16 f_0_2 ?_
  refine g_iload_n d11_back_19 rfl ?_
  refine g_zaldN (0) d11_back_20 a_11 (rfl) (by decide) (by decide) ?_
  refine g_topI ((0 : Int32)) (h0) ?_
  refine g_iz_ne (0) 31 (by decide) d11_back_21 rfl (fun c21 => absurd c21 (by decide)) (fun _ => ?_)
  refine g_aload_n d11_back_24 rfl ?_
  refine g_bipushv ((-2 : Int32)) d11_back_25 rfl ?_
  refine g_EV1 vm11_refuse ml11_108 c_0 (r11_refuse_2 (Nat.le_refl 0)) (by omega) (Nat.le_of_ble_eq_true rfl) d11_back_27 ?_
  exact g_iret rfl d11_back_30 (⟨rfl, rfl⟩)
set_option maxHeartbeats 200000 in
theorem r11_back_0 {l : Launch} {K : cK} {d : Nat} {I : wI} {L : wL} {R : wR} {dy : cH} (h0 : I 11 0 = 1) (hR : R 10 0 = some 56) (hok : ∀ j, j < 6 → okT dy (R 59 j) ∧ okT dy (R 60 j)) (hd : 2 ≤ d) : CX l K m11_back d [.ref 0, .int (nI 0)] (hp I L R dy) (α := wI × wR) (fun x => (∀ q, q ∉ [1, 2, 3, 4, 5, 6, 7, 8, 9] → q ≠ 0 → x.1 q = I q) ∧ x.1 0 14 = 0 ∧ (∀ j, j ≠ 14 → x.1 0 j = I 0 j) ∧ (∀ q, q ≠ 4 → q ≠ 5 → x.2 q = R q) ∧ SEq I x.1 R x.2 1 56) (fun _ => .int (nI 0)) (fun x => hp x.1 L x.2 dy) := by
  refine CC.of ok11_back (Nat.le_of_ble_eq_true rfl) ?_
  refine g_iload_n d11_back_0 rfl ?_
  refine g_iz_lt (0) 9 (by decide) d11_back_1 rfl (fun c1 => absurd c1 (by decide)) (fun _ => ?_)
  refine g_iload_n d11_back_4 rfl ?_
  refine g_iconstv (nI 2) d11_back_5 rfl ?_
  refine g_ic_lt (0) (2) 15 (by decide) (by decide) d11_back_6 rfl (fun _ => ?_) (fun c6 => absurd c6 (by decide))
  refine g_aload_n d11_back_15 rfl ?_
  refine g_get fl11_20 d11_back_16 f_0_2 ?_
  refine g_iload_n d11_back_19 rfl ?_
  refine g_zaldN (0) d11_back_20 a_11 (rfl) (by decide) (by decide) ?_
  refine g_topI ((1 : Int32)) (h0) ?_
  refine g_iz_ne (1) 31 (by decide) d11_back_21 rfl (fun _ => ?_) (fun c21 => absurd c21 (by decide))
  refine g_aload_n d11_back_31 rfl ?_
  refine g_get fl11_10 d11_back_32 f_0_0 ?_
  refine g_aload_n d11_back_35 rfl ?_
  refine g_get fl11_16 d11_back_36 f_0_1 ?_
  refine g_iload_n d11_back_39 rfl ?_
  refine g_aaldN (0) 4 "CoinsWarden$State" (by decide) d11_back_40 a_10 (rfl) (by decide) (by decide) ?_
  refine g_topV (.ref 56) (by rw [hR]; rfl) ?_
  refine g_WV1 vm6_become ml11_334 c_1 (r6_become_1_56 hok (Nat.le_refl 1)) (by omega) (Nat.le_of_ble_eq_true rfl) d11_back_41 (fun x hx => ?_)
  obtain ⟨J, R2⟩ := x
  obtain ⟨h1, h2, h3⟩ := hx
  dsimp only at h1 h2 h3 ⊢
  refine g_aload_n d11_back_44 rfl ?_
  refine g_iconstv (nI 0) d11_back_45 rfl ?_
  refine g_EV1 vm11_allow ml11_119 c_0 (r11_allow (Nat.le_refl 0)) (by omega) (Nat.le_of_ble_eq_true rfl) d11_back_46 ?_
  refine g_iret rfl d11_back_49 (⟨(uI J 0 14 0, R2), ⟨fun q a c => by dsimp only; rw [uI_n c]; exact h1 q a, by dsimp only; exact uI_ss, ?_, h2, ?_⟩, rfl, rfl⟩)
  · intro j hj; dsimp only; rw [uI_sn hj, h1 0 (by decide)]
  · obtain ⟨s1, s2, s3, s4, s5, s6⟩ := h3
    refine ⟨fun j hj => ?_, fun j hj => ?_, fun j hj => ?_, fun j hj => ?_, fun j hj => ?_, s6⟩ <;> dsimp only <;> rw [uI_n (by decide)]
    · exact s1 j hj
    · exact s2 j hj
    · exact s3 j hj
    · rw [uI_n (by decide)]; exact s4 j hj
    · rw [uI_n (by decide)]; exact s5 j hj
set_option maxHeartbeats 200000 in
theorem r11_image_1 {l : Launch} {K : cK} {d : Nat} {I : wI} {L : wL} {R : wR} {dy : cH} (hR : R 10 1 = some 65) (hok : ∀ j, j < 6 → okT dy (R 4 j) ∧ okT dy (R 5 j)) (hd : 2 ≤ d) : CX l K m11_image d [.ref 0, .int (nI 1)] (hp I L R dy) (α := wI × wR) (fun x => (∀ q, q ∉ [65, 66, 67, 68, 69, 70, 71, 72, 73] → q ≠ 11 → q ≠ 0 → x.1 q = I q) ∧ x.1 11 1 = 1 ∧ (∀ q, q ≠ 1 → x.1 11 q = I 11 q) ∧ x.1 0 14 = 0 ∧ (∀ j, j ≠ 14 → x.1 0 j = I 0 j) ∧ (∀ q, q ≠ 68 → q ≠ 69 → x.2 q = R q) ∧ SEq I x.1 R x.2 65 1) (fun _ => .int (nI 0)) (fun x => hp x.1 L x.2 dy) := by
  refine CC.of ok11_image (Nat.le_of_ble_eq_true rfl) ?_
  refine g_iload_n d11_image_0 rfl ?_
  refine g_iz_lt (1) 9 (by decide) d11_image_1 rfl (fun c1 => absurd c1 (by decide)) (fun _ => ?_)
  refine g_iload_n d11_image_4 rfl ?_
  refine g_iconstv (nI 2) d11_image_5 rfl ?_
  refine g_ic_lt (1) (2) 15 (by decide) (by decide) d11_image_6 rfl (fun _ => ?_) (fun c6 => absurd c6 (by decide))
  refine g_aload_n d11_image_15 rfl ?_
  refine g_get fl11_16 d11_image_16 f_0_1 ?_
  refine g_iload_n d11_image_19 rfl ?_
  refine g_aaldN (1) 4 "CoinsWarden$State" (by decide) d11_image_20 a_10 (rfl) (by decide) (by decide) ?_
  refine g_topV (.ref 65) (by rw [hR]; rfl) ?_
  refine g_aload_n d11_image_21 rfl ?_
  refine g_get fl11_10 d11_image_22 f_0_0 ?_
  refine g_WV1 vm6_become ml11_334 c_65 (r6_become_65_1 hok (Nat.le_refl 1)) (by omega) (Nat.le_of_ble_eq_true rfl) d11_image_25 (fun x hx => ?_)
  obtain ⟨J, R2⟩ := x
  obtain ⟨h1, h2, h3⟩ := hx
  dsimp only at h1 h2 h3 ⊢
  refine g_aload_n d11_image_28 rfl ?_
  refine g_get fl11_20 d11_image_29 f_0_2 ?_
  refine g_iload_n d11_image_32 rfl ?_
  refine g_iconstv (nI 1) d11_image_33 rfl ?_
  refine g_zastN (1) _ d11_image_34 a_11 (rfl) (by decide) (by decide) (by decide) t_11 ?_
  refine g_aload_n d11_image_35 rfl ?_
  refine g_iconstv (nI 0) d11_image_36 rfl ?_
  refine g_EV1 vm11_allow ml11_119 c_0 (r11_allow (Nat.le_refl 0)) (by omega) (Nat.le_of_ble_eq_true rfl) d11_image_37 ?_
  refine g_iret rfl d11_image_40 (⟨(uI (uI J 11 1 (nI 1)) 0 14 0, R2), ⟨fun q a b c => by dsimp only; rw [uI_n c, uI_n b]; exact h1 q a, ?_, ?_, ?_, ?_, h2, ?_⟩, rfl, rfl⟩)
  · dsimp only; rw [uI_n (by decide), uI_ss]; rfl
  · intro q hq; dsimp only; rw [uI_n (by decide), uI_sn hq, h1 11 (by decide)]
  · dsimp only; exact uI_ss
  · intro j hj; dsimp only; rw [uI_sn hj, uI_n (by decide), h1 0 (by decide)]
  · obtain ⟨s1, s2, s3, s4, s5, s6⟩ := h3
    refine ⟨fun j hj => ?_, fun j hj => ?_, fun j hj => ?_, fun j hj => ?_, fun j hj => ?_, s6⟩ <;> dsimp only <;> rw [uI_n (by decide), uI_n (by decide)]
    · exact s1 j hj
    · exact s2 j hj
    · exact s3 j hj
    · rw [uI_n (by decide), uI_n (by decide)]; exact s4 j hj
    · rw [uI_n (by decide), uI_n (by decide)]; exact s5 j hj
set_option maxHeartbeats 200000 in
theorem r11_back_n_1 {l : Launch} {K : cK} {d : Nat} {I : wI} {L : wL} {R : wR} {dy : cH} (h0 : I 11 1 = 0) (hd : 1 ≤ d) : CE l K m11_back d [.ref 0, .int (nI 1)] (hp I L R dy) (.int (-2)) (hp (uI (uI (I) 55 1 (I 55 1 + 1)) 0 14 (-2)) L R dy) := by
  refine CC.of ok11_back (Nat.le_of_ble_eq_true rfl) ?_
  refine g_iload_n d11_back_0 rfl ?_
  refine g_iz_lt (1) 9 (by decide) d11_back_1 rfl (fun c1 => absurd c1 (by decide)) (fun _ => ?_)
  refine g_iload_n d11_back_4 rfl ?_
  refine g_iconstv (nI 2) d11_back_5 rfl ?_
  refine g_ic_lt (1) (2) 15 (by decide) (by decide) d11_back_6 rfl (fun _ => ?_) (fun c6 => absurd c6 (by decide))
  refine g_aload_n d11_back_15 rfl ?_
  refine g_get fl11_20 d11_back_16 f_0_2 ?_
  refine g_iload_n d11_back_19 rfl ?_
  refine g_zaldN (1) d11_back_20 a_11 (rfl) (by decide) (by decide) ?_
  refine g_topI ((0 : Int32)) (h0) ?_
  refine g_iz_ne (0) 31 (by decide) d11_back_21 rfl (fun c21 => absurd c21 (by decide)) (fun _ => ?_)
  refine g_aload_n d11_back_24 rfl ?_
  refine g_bipushv ((-2 : Int32)) d11_back_25 rfl ?_
  refine g_EV1 vm11_refuse ml11_108 c_0 (r11_refuse_2 (Nat.le_refl 0)) (by omega) (Nat.le_of_ble_eq_true rfl) d11_back_27 ?_
  exact g_iret rfl d11_back_30 (⟨rfl, rfl⟩)
set_option maxHeartbeats 200000 in
theorem r11_back_1 {l : Launch} {K : cK} {d : Nat} {I : wI} {L : wL} {R : wR} {dy : cH} (h0 : I 11 1 = 1) (hR : R 10 1 = some 65) (hok : ∀ j, j < 6 → okT dy (R 68 j) ∧ okT dy (R 69 j)) (hd : 2 ≤ d) : CX l K m11_back d [.ref 0, .int (nI 1)] (hp I L R dy) (α := wI × wR) (fun x => (∀ q, q ∉ [1, 2, 3, 4, 5, 6, 7, 8, 9] → q ≠ 0 → x.1 q = I q) ∧ x.1 0 14 = 0 ∧ (∀ j, j ≠ 14 → x.1 0 j = I 0 j) ∧ (∀ q, q ≠ 4 → q ≠ 5 → x.2 q = R q) ∧ SEq I x.1 R x.2 1 65) (fun _ => .int (nI 0)) (fun x => hp x.1 L x.2 dy) := by
  refine CC.of ok11_back (Nat.le_of_ble_eq_true rfl) ?_
  refine g_iload_n d11_back_0 rfl ?_
  refine g_iz_lt (1) 9 (by decide) d11_back_1 rfl (fun c1 => absurd c1 (by decide)) (fun _ => ?_)
  refine g_iload_n d11_back_4 rfl ?_
  refine g_iconstv (nI 2) d11_back_5 rfl ?_
  refine g_ic_lt (1) (2) 15 (by decide) (by decide) d11_back_6 rfl (fun _ => ?_) (fun c6 => absurd c6 (by decide))
  refine g_aload_n d11_back_15 rfl ?_
  refine g_get fl11_20 d11_back_16 f_0_2 ?_
  refine g_iload_n d11_back_19 rfl ?_
  refine g_zaldN (1) d11_back_20 a_11 (rfl) (by decide) (by decide) ?_
  refine g_topI ((1 : Int32)) (h0) ?_
  refine g_iz_ne (1) 31 (by decide) d11_back_21 rfl (fun _ => ?_) (fun c21 => absurd c21 (by decide))
  refine g_aload_n d11_back_31 rfl ?_
  refine g_get fl11_10 d11_back_32 f_0_0 ?_
  refine g_aload_n d11_back_35 rfl ?_
  refine g_get fl11_16 d11_back_36 f_0_1 ?_
  refine g_iload_n d11_back_39 rfl ?_
  refine g_aaldN (1) 4 "CoinsWarden$State" (by decide) d11_back_40 a_10 (rfl) (by decide) (by decide) ?_
  refine g_topV (.ref 65) (by rw [hR]; rfl) ?_
  refine g_WV1 vm6_become ml11_334 c_1 (r6_become_1_65 hok (Nat.le_refl 1)) (by omega) (Nat.le_of_ble_eq_true rfl) d11_back_41 (fun x hx => ?_)
  obtain ⟨J, R2⟩ := x
  obtain ⟨h1, h2, h3⟩ := hx
  dsimp only at h1 h2 h3 ⊢
  refine g_aload_n d11_back_44 rfl ?_
  refine g_iconstv (nI 0) d11_back_45 rfl ?_
  refine g_EV1 vm11_allow ml11_119 c_0 (r11_allow (Nat.le_refl 0)) (by omega) (Nat.le_of_ble_eq_true rfl) d11_back_46 ?_
  refine g_iret rfl d11_back_49 (⟨(uI J 0 14 0, R2), ⟨fun q a c => by dsimp only; rw [uI_n c]; exact h1 q a, by dsimp only; exact uI_ss, ?_, h2, ?_⟩, rfl, rfl⟩)
  · intro j hj; dsimp only; rw [uI_sn hj, h1 0 (by decide)]
  · obtain ⟨s1, s2, s3, s4, s5, s6⟩ := h3
    refine ⟨fun j hj => ?_, fun j hj => ?_, fun j hj => ?_, fun j hj => ?_, fun j hj => ?_, s6⟩ <;> dsimp only <;> rw [uI_n (by decide)]
    · exact s1 j hj
    · exact s2 j hj
    · exact s3 j hj
    · rw [uI_n (by decide)]; exact s4 j hj
    · rw [uI_n (by decide)]; exact s5 j hj
set_option maxHeartbeats 200000 in
theorem r11_day_n1 {l : Launch} {K : cK} {d : Nat} {I : wI} {L : wL} {R : wR} {dy : cH} (z x : Int32) (hbad : ¬ (0 ≤ z.toInt ∧ z.toInt ≤ 1000000)) (hd : 1 ≤ d) : CE l K m11_day d [.ref 0, .int z, .int x] (hp I L R dy) (.int (-1)) (hp (uI (uI (I) 55 0 (I 55 0 + 1)) 0 14 (-1)) L R dy) := by
  refine CC.of ok11_day (Nat.le_of_ble_eq_true rfl) ?_
  by_cases h0 : z.toInt < 0
  · skip
    refine g_iload_n d11_day_0 rfl ?_
    refine g_iz_lt _ 11 (rfl) d11_day_1 rfl (fun _ => ?_) (fun c1 => absurd c1 (by omega))
    refine g_aload_n d11_day_11 rfl ?_
    refine g_iconstv ((-1 : Int32)) d11_day_12 rfl ?_
    refine g_EV1 vm11_refuse ml11_108 c_0 (r11_refuse_1 (Nat.le_refl 0)) (by omega) (Nat.le_of_ble_eq_true rfl) d11_day_13 ?_
    exact g_iret rfl d11_day_16 (⟨rfl, rfl⟩)
  · skip
    refine g_iload_n d11_day_0 rfl ?_
    refine g_iz_lt _ 11 (rfl) d11_day_1 rfl (fun c1 => absurd c1 (by omega)) (fun _ => ?_)
    refine g_iload_n d11_day_4 rfl ?_
    refine g_ldcw d11_day_5 ki11_309 ?_
    refine g_ic_le _ (1000000) 17 (rfl) (by decide) d11_day_8 rfl (fun c8 => absurd c8 (by omega)) (fun _ => ?_)
    refine g_aload_n d11_day_11 rfl ?_
    refine g_iconstv ((-1 : Int32)) d11_day_12 rfl ?_
    refine g_EV1 vm11_refuse ml11_108 c_0 (r11_refuse_1 (Nat.le_refl 0)) (by omega) (Nat.le_of_ble_eq_true rfl) d11_day_13 ?_
    exact g_iret rfl d11_day_16 (⟨rfl, rfl⟩)
set_option maxHeartbeats 200000 in
theorem r11_day_n2 {l : Launch} {K : cK} {d : Nat} {I : wI} {L : wL} {R : wR} {dy : cH} (nh : Nat) (hnh : I 1 6 = nI nh) (hnh6 : nh ≤ 6) (z x : Int32) (hz : 0 ≤ z.toInt ∧ z.toInt ≤ 1000000) (hbad : ¬ (x.toInt = -1 ∨ (0 ≤ x.toInt ∧ x.toInt < nh))) (hd : 1 ≤ d) : CE l K m11_day d [.ref 0, .int z, .int x] (hp I L R dy) (.int (-2)) (hp (uI (uI (I) 55 1 (I 55 1 + 1)) 0 14 (-2)) L R dy) := by
  refine CC.of ok11_day (Nat.le_of_ble_eq_true rfl) ?_
  refine g_iload_n d11_day_0 rfl ?_
  refine g_iz_lt _ 11 (rfl) d11_day_1 rfl (fun c1 => absurd c1 (by omega)) (fun _ => ?_)
  refine g_iload_n d11_day_4 rfl ?_
  refine g_ldcw d11_day_5 ki11_309 ?_
  refine g_ic_le _ (1000000) 17 (rfl) (by decide) d11_day_8 rfl (fun _ => ?_) (fun c8 => absurd c8 (by omega))
  refine g_iload_n d11_day_17 rfl ?_
  refine g_iconstv ((-1 : Int32)) d11_day_18 rfl ?_
  refine g_ic_eq _ (-1) 40 (rfl) (by decide) d11_day_19 rfl (fun c19 => absurd c19 (by omega)) (fun _ => ?_)
  refine g_aload_n d11_day_22 rfl ?_
  refine g_get fl11_10 d11_day_23 f_0_0 ?_
  refine g_iload_n d11_day_26 rfl ?_
  refine g_EV1 vm6_hasHabit ml11_249 c_1 (r6_hasHabitI  nh hnh hnh6 rfl (Nat.le_refl 0)) (by omega) (Nat.le_of_ble_eq_true rfl) d11_day_27 ?_
  refine g_bnz 40 d11_day_30 rfl (fun c30 => absurd c30 (by omega)) (fun _ => ?_)
  refine g_aload_n d11_day_33 rfl ?_
  refine g_bipushv ((-2 : Int32)) d11_day_34 rfl ?_
  refine g_EV1 vm11_refuse ml11_108 c_0 (r11_refuse_2 (Nat.le_refl 0)) (by omega) (Nat.le_of_ble_eq_true rfl) d11_day_36 ?_
  exact g_iret rfl d11_day_39 (⟨rfl, rfl⟩)
set_option maxHeartbeats 400000 in
theorem r11_day_none {l : Launch} {K : cK} {d : Nat} {I : wI} {L : wL} {R : wR} {dy : cH} (D : DP) (n : Nat) (o : Option Nat) (lc : Option (List Cl)) (hO : CLF I R dy (I 1 5) o lc) (hT : DTc I D n lc) (hz : D.z0 ≤ 1000000) (ho : D.o = none) (hd : 6 ≤ d) : CX l K m11_day d [.ref 0, .int (nI D.z0), .int (-1)] (hp I L R dy) (α := wI × wL) (fun y => FK [0, 22, 23, 25, 26, 28, 30, 31, 44, 45, 46, 47, 48, 49, 50] [22, 24, 27, 30, 32, 33, 34] I L y.1 y.2 ∧ (∀ j, j ≠ 14 → y.1 0 j = I 0 j) ∧ y.1 0 14 = 0 ∧ y.1 44 4 = nI n ∧ y.1 44 3 = 1 ∧ (∀ q, q < 12 → y.1 45 q = nI (if D.ca q = true then 1 else 0)) ∧ (∀ q, q < n → DCc y.1 q (D.dX q 12))) (fun _ => .int (nI (D.dn 12))) (fun y => hp y.1 y.2 (uR R 21 1 o) dy) := by
  obtain ⟨t1, t2, t3, t4, t5, t6, t7, t8, t9, t10⟩ := id hT
  refine CC.of ok11_day (Nat.le_of_ble_eq_true rfl) ?_
  refine g_iload_n d11_day_0 rfl ?_
  refine g_iz_lt ((D.z0 : Nat) : Int) 11 (nI_ti (by omega)) d11_day_1 rfl (fun c1 => absurd c1 (by omega)) (fun _ => ?_)
  refine g_iload_n d11_day_4 rfl ?_
  refine g_ldcw d11_day_5 ki11_309 ?_
  refine g_ic_le ((D.z0 : Nat) : Int) (1000000) 17 (nI_ti (by omega)) (by decide) d11_day_8 rfl (fun _ => ?_) (fun c8 => absurd c8 (by omega))
  refine g_iload_n d11_day_17 rfl ?_
  refine g_iconstv ((-1 : Int32)) d11_day_18 rfl ?_
  refine g_ic_eq (-1) (-1) 40 (by decide) (by decide) d11_day_19 rfl (fun _ => ?_) (fun c19 => absurd c19 (by decide))
  refine g_aload_n d11_day_40 rfl ?_
  refine g_WV0 vm11_lookFromSlotZero ml11_310 c_0 (r11_look0 D.g ⟨t1, t2⟩ D.s0 t4 t5 t6 o lc hO (Nat.le_refl 5)) (by omega) (Nat.le_of_ble_eq_true rfl) d11_day_41 (fun x hx => ?_)
  obtain ⟨I2, L2⟩ := x
  obtain ⟨f1, w1, p1⟩ := hx
  dsimp only at f1 w1 p1 ⊢
  rw [← t3] at w1 p1
  refine g_aload_n d11_day_44 rfl ?_
  refine g_aload_n d11_day_45 rfl ?_
  refine g_get fl11_75 d11_day_46 f_0_9 ?_
  refine g_aload_n d11_day_49 rfl ?_
  refine g_get fl11_10 d11_day_50 f_0_0 ?_
  refine g_iload_n d11_day_53 rfl ?_
  refine g_iconstv ((-1 : Int32)) d11_day_54 rfl ?_
  refine g_ic_ne (-1) (-1) 62 (by decide) (by decide) d11_day_55 rfl (fun c55 => absurd c55 (by decide)) (fun _ => ?_)
  refine g_null d11_day_58 ?_
  refine g_goto 71 d11_day_59 rfl ?_
  refine g_iload_n d11_day_71 rfl ?_
  refine g_XV3 vm1_draw ml11_313 c_44 (r1_drawN (I := I2) (L := L2) (R := uR R 21 1 o) D n lc (hT.of (f1.1 1 (by decide)) (f1.1 2 (by decide)) (f1.1 3 (by decide))) hO.lw w1 p1 ho (Nat.le_refl 5)) (by omega) (Nat.le_of_ble_eq_true rfl) d11_day_72 (fun y hy => ?_)
  obtain ⟨I3, L3⟩ := y
  obtain ⟨g1, g2, g3, g4, g5⟩ := hy
  dsimp only at g1 g2 g3 g4 g5 ⊢
  refine g_EV1 vm11_allow ml11_119 c_0 (r11_allow (I := I3) (L := L3) (Nat.le_refl 0)) (by omega) (Nat.le_of_ble_eq_true rfl) d11_day_75 ?_
  exact g_iret rfl d11_day_78 (⟨(uI I3 0 14 0, L3), ⟨((f1.up (by decide) (by decide)).tr (g1.up (by decide) (by decide))).ui (by decide), fun j hj => by dsimp only; rw [uI_sn hj, g1.1 0 (by decide), f1.1 0 (by decide)], by dsimp only; exact uI_ss, by dsimp only; rw [uI_n (by decide)]; exact g2, by dsimp only; rw [uI_n (by decide)]; exact g3, fun q hq => by dsimp only; rw [uI_n (by decide)]; exact g4 q hq, fun q hq => by dsimp only; unfold DCc; rw [uI_n (by decide), uI_n (by decide), uI_n (by decide), uI_n (by decide)]; exact g5 q hq⟩, rfl, rfl⟩)
set_option maxHeartbeats 400000 in
theorem r11_day_habit {l : Launch} {K : cK} {d : Nat} {I : wI} {L : wL} {R : wR} {dy : cH} (D : DP) (n : Nat) (o : Option Nat) (lc : Option (List Cl)) (hO : CLF I R dy (I 1 5) o lc) (hT : DTc I D n lc) (hz : D.z0 ≤ 1000000) (nh : Nat) (hnh : I 1 6 = nI nh) (hnh6 : nh ≤ 6) (x : Nat) (hx6 : x < nh) (T : Nat) (cs : List Cl) (hr5 : R 5 x = some T) (ho : D.o = some (txF cs)) (hC : CTX dy T cs) (hd : 6 ≤ d) : CX l K m11_day d [.ref 0, .int (nI D.z0), .int (nI x)] (hp I L R dy) (α := wI × wL) (fun y => FK [0, 22, 23, 25, 26, 28, 30, 31, 44, 45, 46, 47, 48, 49, 50] [22, 24, 27, 30, 32, 33, 34] I L y.1 y.2 ∧ (∀ j, j ≠ 14 → y.1 0 j = I 0 j) ∧ y.1 0 14 = 0 ∧ y.1 44 4 = nI n ∧ y.1 44 3 = 1 ∧ (∀ q, q < 12 → y.1 45 q = nI (if D.ca q = true then 1 else 0)) ∧ (∀ q, q < n → DCc y.1 q (D.dX q 12))) (fun _ => .int (nI (D.dn 12))) (fun y => hp y.1 y.2 (uR R 21 1 o) dy) := by
  obtain ⟨t1, t2, t3, t4, t5, t6, t7, t8, t9, t10⟩ := id hT
  refine CC.of ok11_day (Nat.le_of_ble_eq_true rfl) ?_
  refine g_iload_n d11_day_0 rfl ?_
  refine g_iz_lt ((D.z0 : Nat) : Int) 11 (nI_ti (by omega)) d11_day_1 rfl (fun c1 => absurd c1 (by omega)) (fun _ => ?_)
  refine g_iload_n d11_day_4 rfl ?_
  refine g_ldcw d11_day_5 ki11_309 ?_
  refine g_ic_le ((D.z0 : Nat) : Int) (1000000) 17 (nI_ti (by omega)) (by decide) d11_day_8 rfl (fun _ => ?_) (fun c8 => absurd c8 (by omega))
  refine g_iload_n d11_day_17 rfl ?_
  refine g_iconstv ((-1 : Int32)) d11_day_18 rfl ?_
  refine g_ic_eq ((x : Nat) : Int) (-1) 40 (nI_ti (by omega)) (by decide) d11_day_19 rfl (fun c19 => absurd c19 (by omega)) (fun _ => ?_)
  refine g_aload_n d11_day_22 rfl ?_
  refine g_get fl11_10 d11_day_23 f_0_0 ?_
  refine g_iload_n d11_day_26 rfl ?_
  refine g_EV1 vm6_hasHabit ml11_249 c_1 (r6_hasHabitI (xi := ((x : Nat) : Int)) nh hnh hnh6 (nI_ti (by omega)) (Nat.le_refl 0)) (by omega) (Nat.le_of_ble_eq_true rfl) d11_day_27 ?_
  refine g_bnz 40 d11_day_30 rfl (fun _ => ?_) (fun c30 => absurd (by omega) c30)
  refine g_aload_n d11_day_40 rfl ?_
  refine g_WV0 vm11_lookFromSlotZero ml11_310 c_0 (r11_look0 D.g ⟨t1, t2⟩ D.s0 t4 t5 t6 o lc hO (Nat.le_refl 5)) (by omega) (Nat.le_of_ble_eq_true rfl) d11_day_41 (fun w hw => ?_)
  obtain ⟨I2, L2⟩ := w
  obtain ⟨f1, w1, p1⟩ := hw
  dsimp only at f1 w1 p1 ⊢
  rw [← t3] at w1 p1
  refine g_aload_n d11_day_44 rfl ?_
  refine g_aload_n d11_day_45 rfl ?_
  refine g_get fl11_75 d11_day_46 f_0_9 ?_
  refine g_aload_n d11_day_49 rfl ?_
  refine g_get fl11_10 d11_day_50 f_0_0 ?_
  refine g_iload_n d11_day_53 rfl ?_
  refine g_iconstv ((-1 : Int32)) d11_day_54 rfl ?_
  refine g_ic_ne ((x : Nat) : Int) (-1) 62 (nI_ti (by omega)) (by decide) d11_day_55 rfl (fun _ => ?_) (fun c55 => absurd c55 (by omega))
  refine g_aload_n d11_day_62 rfl ?_
  refine g_get fl11_10 d11_day_63 f_0_0 ?_
  refine g_get fl11_169 d11_day_66 f_1_7 ?_
  refine g_iload_n d11_day_69 rfl ?_
  refine g_aaldN (x) 3 "CoinsWarden$Text" (by decide) d11_day_70 a_5 (rfl) (by omega) (by decide) ?_
  refine g_topV (.ref T) (by rw [uR_n (by decide), hr5]; rfl) ?_
  refine g_iload_n d11_day_71 rfl ?_
  refine g_XV3 vm1_draw ml11_313 c_44 (r1_drawT (I := I2) (L := L2) (R := uR R 21 1 o) D n lc (hT.of (f1.1 1 (by decide)) (f1.1 2 (by decide)) (f1.1 3 (by decide))) hO.lw w1 p1 T cs ho hC (Nat.le_refl 5)) (by omega) (Nat.le_of_ble_eq_true rfl) d11_day_72 (fun y hy => ?_)
  obtain ⟨I3, L3⟩ := y
  obtain ⟨g1, g2, g3, g4, g5⟩ := hy
  dsimp only at g1 g2 g3 g4 g5 ⊢
  refine g_EV1 vm11_allow ml11_119 c_0 (r11_allow (I := I3) (L := L3) (Nat.le_refl 0)) (by omega) (Nat.le_of_ble_eq_true rfl) d11_day_75 ?_
  exact g_iret rfl d11_day_78 (⟨(uI I3 0 14 0, L3), ⟨((f1.up (by decide) (by decide)).tr (g1.up (by decide) (by decide))).ui (by decide), fun j hj => by dsimp only; rw [uI_sn hj, g1.1 0 (by decide), f1.1 0 (by decide)], by dsimp only; exact uI_ss, by dsimp only; rw [uI_n (by decide)]; exact g2, by dsimp only; rw [uI_n (by decide)]; exact g3, fun q hq => by dsimp only; rw [uI_n (by decide)]; exact g4 q hq, fun q hq => by dsimp only; unfold DCc; rw [uI_n (by decide), uI_n (by decide), uI_n (by decide), uI_n (by decide)]; exact g5 q hq⟩, rfl, rfl⟩)
set_option maxHeartbeats 200000 in
theorem r11_drawn_no {l : Launch} {K : cK} {d : Nat} {I : wI} {L : wL} {R : wR} {dy : cH} (dz : Bool) (hdz : I 44 3 = if dz = true then 1 else 0) (c w : Int32) (hbad : ¬ (dz = true ∧ 0 ≤ w.toInt ∧ w.toInt ≤ 3)) (hd : 0 ≤ d) : CE l K m11_drawn d [.ref 0, .int c, .int w] (hp I L R dy) (.int (-1)) (hp I L R dy) := by
  refine CC.of ok11_drawn (Nat.le_of_ble_eq_true rfl) ?_
  cases dz with
  | false =>
    refine g_aload_n d11_drawn_0 rfl ?_
    refine g_get fl11_75 d11_drawn_1 f_0_9 ?_
    refine g_get fl11_317 d11_drawn_4 f_44_3 ?_
    refine g_topI ((0 : Int32)) (hdz) ?_
    refine g_iz_eq (0) 19 (by decide) d11_drawn_7 rfl (fun _ => ?_) (fun c7 => absurd c7 (by decide))
    refine g_iconstv ((-1 : Int32)) d11_drawn_19 rfl ?_
    exact g_iret rfl d11_drawn_20 (⟨rfl, rfl⟩)
  | true =>
    have hb2 : w.toInt < 0 ∨ 3 < w.toInt := by
      by_cases q : w.toInt < 0
      · exact Or.inl q
      · refine Or.inr (by
          rcases Int.lt_or_le 3 w.toInt with z | z
          · exact z
          · exact absurd ⟨rfl, by omega, z⟩ hbad)
    by_cases h0 : w.toInt < 0
    · skip
      refine g_aload_n d11_drawn_0 rfl ?_
      refine g_get fl11_75 d11_drawn_1 f_0_9 ?_
      refine g_get fl11_317 d11_drawn_4 f_44_3 ?_
      refine g_topI ((1 : Int32)) (hdz) ?_
      refine g_iz_eq (1) 19 (by decide) d11_drawn_7 rfl (fun c7 => absurd c7 (by decide)) (fun _ => ?_)
      refine g_iload_n d11_drawn_10 rfl ?_
      refine g_iz_lt _ 19 (rfl) d11_drawn_11 rfl (fun _ => ?_) (fun c11 => absurd c11 (by omega))
      refine g_iconstv ((-1 : Int32)) d11_drawn_19 rfl ?_
      exact g_iret rfl d11_drawn_20 (⟨rfl, rfl⟩)
    · skip
      refine g_aload_n d11_drawn_0 rfl ?_
      refine g_get fl11_75 d11_drawn_1 f_0_9 ?_
      refine g_get fl11_317 d11_drawn_4 f_44_3 ?_
      refine g_topI ((1 : Int32)) (hdz) ?_
      refine g_iz_eq (1) 19 (by decide) d11_drawn_7 rfl (fun c7 => absurd c7 (by decide)) (fun _ => ?_)
      refine g_iload_n d11_drawn_10 rfl ?_
      refine g_iz_lt _ 19 (rfl) d11_drawn_11 rfl (fun c11 => absurd c11 (by omega)) (fun _ => ?_)
      refine g_iload_n d11_drawn_14 rfl ?_
      refine g_iconstv (nI 3) d11_drawn_15 rfl ?_
      refine g_ic_le _ (3) 21 (rfl) (by decide) d11_drawn_16 rfl (fun c16 => absurd c16 (by omega)) (fun _ => ?_)
      refine g_iconstv ((-1 : Int32)) d11_drawn_19 rfl ?_
      exact g_iret rfl d11_drawn_20 (⟨rfl, rfl⟩)
set_option maxHeartbeats 200000 in
theorem r11_drawn_s {l : Launch} {K : cK} {d : Nat} {I : wI} {L : wL} {R : wR} {dy : cH} (hdz : I 44 3 = 1) (j : Nat) (hj : j < 12) (hd : 1 ≤ d) : CE l K m11_drawn d [.ref 0, .int (nI j), .int (nI 3)] (hp I L R dy) (.int (I 45 j)) (hp I L R dy) := by
  refine CC.of ok11_drawn (Nat.le_of_ble_eq_true rfl) ?_
  refine g_aload_n d11_drawn_0 rfl ?_
  refine g_get fl11_75 d11_drawn_1 f_0_9 ?_
  refine g_get fl11_317 d11_drawn_4 f_44_3 ?_
  refine g_topI ((1 : Int32)) (hdz) ?_
  refine g_iz_eq (1) 19 (by decide) d11_drawn_7 rfl (fun c7 => absurd c7 (by decide)) (fun _ => ?_)
  refine g_iload_n d11_drawn_10 rfl ?_
  refine g_iz_lt (3) 19 (by decide) d11_drawn_11 rfl (fun c11 => absurd c11 (by decide)) (fun _ => ?_)
  refine g_iload_n d11_drawn_14 rfl ?_
  refine g_iconstv (nI 3) d11_drawn_15 rfl ?_
  refine g_ic_le (3) (3) 21 (by decide) (by decide) d11_drawn_16 rfl (fun _ => ?_) (fun c16 => absurd c16 (by decide))
  refine g_iload_n d11_drawn_21 rfl ?_
  refine g_iconstv (nI 3) d11_drawn_22 rfl ?_
  refine g_ic_ne (3) (3) 47 (by decide) (by decide) d11_drawn_23 rfl (fun c23 => absurd c23 (by decide)) (fun _ => ?_)
  refine g_iload_n d11_drawn_26 rfl ?_
  refine g_ES1 sm11_isSlot ml11_181 (r11_isSlotI (xi := ((j : Nat) : Int)) (nI_ti (by omega)) (Nat.le_refl 0)) (by omega) (Nat.le_of_ble_eq_true rfl) d11_drawn_27 ?_
  refine g_bz 45 d11_drawn_30 rfl (fun c30 => absurd (by omega) c30) (fun _ => ?_)
  refine g_aload_n d11_drawn_33 rfl ?_
  refine g_get fl11_75 d11_drawn_34 f_0_9 ?_
  refine g_get fl11_321 d11_drawn_37 f_44_5 ?_
  refine g_iload_n d11_drawn_40 rfl ?_
  refine g_ialdN (j) d11_drawn_41 a_45 (rfl) (by omega) (by decide) ?_
  refine g_goto 46 d11_drawn_42 rfl ?_
  exact g_iret rfl d11_drawn_46 (⟨rfl, rfl⟩)
set_option maxHeartbeats 200000 in
theorem r11_drawn_sn {l : Launch} {K : cK} {d : Nat} {I : wI} {L : wL} {R : wR} {dy : cH} (hdz : I 44 3 = 1) (x : Int32) (hx : ¬ (0 ≤ x.toInt ∧ x.toInt < 12)) (hd : 1 ≤ d) : CE l K m11_drawn d [.ref 0, .int x, .int (nI 3)] (hp I L R dy) (.int (-1)) (hp I L R dy) := by
  refine CC.of ok11_drawn (Nat.le_of_ble_eq_true rfl) ?_
  refine g_aload_n d11_drawn_0 rfl ?_
  refine g_get fl11_75 d11_drawn_1 f_0_9 ?_
  refine g_get fl11_317 d11_drawn_4 f_44_3 ?_
  refine g_topI ((1 : Int32)) (hdz) ?_
  refine g_iz_eq (1) 19 (by decide) d11_drawn_7 rfl (fun c7 => absurd c7 (by decide)) (fun _ => ?_)
  refine g_iload_n d11_drawn_10 rfl ?_
  refine g_iz_lt (3) 19 (by decide) d11_drawn_11 rfl (fun c11 => absurd c11 (by decide)) (fun _ => ?_)
  refine g_iload_n d11_drawn_14 rfl ?_
  refine g_iconstv (nI 3) d11_drawn_15 rfl ?_
  refine g_ic_le (3) (3) 21 (by decide) (by decide) d11_drawn_16 rfl (fun _ => ?_) (fun c16 => absurd c16 (by decide))
  refine g_iload_n d11_drawn_21 rfl ?_
  refine g_iconstv (nI 3) d11_drawn_22 rfl ?_
  refine g_ic_ne (3) (3) 47 (by decide) (by decide) d11_drawn_23 rfl (fun c23 => absurd c23 (by decide)) (fun _ => ?_)
  refine g_iload_n d11_drawn_26 rfl ?_
  refine g_ES1 sm11_isSlot ml11_181 (r11_isSlotI  (rfl) (Nat.le_refl 0)) (by omega) (Nat.le_of_ble_eq_true rfl) d11_drawn_27 ?_
  refine g_bz 45 d11_drawn_30 rfl (fun _ => ?_) (fun c30 => absurd c30 (by omega))
  refine g_iconstv ((-1 : Int32)) d11_drawn_45 rfl ?_
  exact g_iret rfl d11_drawn_46 (⟨rfl, rfl⟩)
set_option maxHeartbeats 200000 in
theorem r11_drawn_c0 {l : Launch} {K : cK} {d : Nat} {I : wI} {L : wL} {R : wR} {dy : cH} (hdz : I 44 3 = 1) (n : Nat) (hn : I 44 4 = nI n) (hn6 : n ≤ 6) (c : Nat) (hc : c < n) (hd : 0 ≤ d) : CE l K m11_drawn d [.ref 0, .int (nI c), .int (nI 0)] (hp I L R dy) (.int (I 46 c)) (hp I L R dy) := by
  refine CC.of ok11_drawn (Nat.le_of_ble_eq_true rfl) ?_
  refine g_aload_n d11_drawn_0 rfl ?_
  refine g_get fl11_75 d11_drawn_1 f_0_9 ?_
  refine g_get fl11_317 d11_drawn_4 f_44_3 ?_
  refine g_topI ((1 : Int32)) (hdz) ?_
  refine g_iz_eq (1) 19 (by decide) d11_drawn_7 rfl (fun c7 => absurd c7 (by decide)) (fun _ => ?_)
  refine g_iload_n d11_drawn_10 rfl ?_
  refine g_iz_lt (0) 19 (by decide) d11_drawn_11 rfl (fun c11 => absurd c11 (by decide)) (fun _ => ?_)
  refine g_iload_n d11_drawn_14 rfl ?_
  refine g_iconstv (nI 3) d11_drawn_15 rfl ?_
  refine g_ic_le (0) (3) 21 (by decide) (by decide) d11_drawn_16 rfl (fun _ => ?_) (fun c16 => absurd c16 (by decide))
  refine g_iload_n d11_drawn_21 rfl ?_
  refine g_iconstv (nI 3) d11_drawn_22 rfl ?_
  refine g_ic_ne (0) (3) 47 (by decide) (by decide) d11_drawn_23 rfl (fun _ => ?_) (fun c23 => absurd c23 (by decide))
  refine g_iload_n d11_drawn_47 rfl ?_
  refine g_iz_lt ((c : Nat) : Int) 62 (nI_ti (by omega)) d11_drawn_48 rfl (fun c48 => absurd c48 (by omega)) (fun _ => ?_)
  refine g_iload_n d11_drawn_51 rfl ?_
  refine g_aload_n d11_drawn_52 rfl ?_
  refine g_get fl11_75 d11_drawn_53 f_0_9 ?_
  refine g_get fl11_324 d11_drawn_56 f_44_4 ?_
  refine g_topI (nI (n)) (hn) ?_
  refine g_ic_lt ((c : Nat) : Int) ((n : Nat) : Int) 64 (nI_ti (by omega)) (nI_ti (by omega)) d11_drawn_59 rfl (fun _ => ?_) (fun c59 => absurd c59 (by omega))
  refine g_iload_n d11_drawn_64 rfl ?_
  refine g_iz_ne (0) 80 (by decide) d11_drawn_65 rfl (fun c65 => absurd c65 (by decide)) (fun _ => ?_)
  refine g_aload_n d11_drawn_68 rfl ?_
  refine g_get fl11_75 d11_drawn_69 f_0_9 ?_
  refine g_get fl11_325 d11_drawn_72 f_44_6 ?_
  refine g_iload_n d11_drawn_75 rfl ?_
  refine g_ialdN (c) d11_drawn_76 a_46 (rfl) (by omega) (by decide) ?_
  refine g_goto 106 d11_drawn_77 rfl ?_
  exact g_iret rfl d11_drawn_106 (⟨rfl, rfl⟩)
set_option maxHeartbeats 200000 in
theorem r11_drawn_n0 {l : Launch} {K : cK} {d : Nat} {I : wI} {L : wL} {R : wR} {dy : cH} (hdz : I 44 3 = 1) (n : Nat) (hn : I 44 4 = nI n) (hn6 : n ≤ 6) (x : Int32) (hx : ¬ (0 ≤ x.toInt ∧ x.toInt < n)) (hd : 0 ≤ d) : CE l K m11_drawn d [.ref 0, .int x, .int (nI 0)] (hp I L R dy) (.int (-1)) (hp I L R dy) := by
  refine CC.of ok11_drawn (Nat.le_of_ble_eq_true rfl) ?_
  by_cases h0 : x.toInt < 0
  · skip
    refine g_aload_n d11_drawn_0 rfl ?_
    refine g_get fl11_75 d11_drawn_1 f_0_9 ?_
    refine g_get fl11_317 d11_drawn_4 f_44_3 ?_
    refine g_topI ((1 : Int32)) (hdz) ?_
    refine g_iz_eq (1) 19 (by decide) d11_drawn_7 rfl (fun c7 => absurd c7 (by decide)) (fun _ => ?_)
    refine g_iload_n d11_drawn_10 rfl ?_
    refine g_iz_lt (0) 19 (by decide) d11_drawn_11 rfl (fun c11 => absurd c11 (by decide)) (fun _ => ?_)
    refine g_iload_n d11_drawn_14 rfl ?_
    refine g_iconstv (nI 3) d11_drawn_15 rfl ?_
    refine g_ic_le (0) (3) 21 (by decide) (by decide) d11_drawn_16 rfl (fun _ => ?_) (fun c16 => absurd c16 (by decide))
    refine g_iload_n d11_drawn_21 rfl ?_
    refine g_iconstv (nI 3) d11_drawn_22 rfl ?_
    refine g_ic_ne (0) (3) 47 (by decide) (by decide) d11_drawn_23 rfl (fun _ => ?_) (fun c23 => absurd c23 (by decide))
    refine g_iload_n d11_drawn_47 rfl ?_
    refine g_iz_lt _ 62 (rfl) d11_drawn_48 rfl (fun _ => ?_) (fun c48 => absurd c48 (by omega))
    refine g_iconstv ((-1 : Int32)) d11_drawn_62 rfl ?_
    exact g_iret rfl d11_drawn_63 (⟨rfl, rfl⟩)
  · skip
    refine g_aload_n d11_drawn_0 rfl ?_
    refine g_get fl11_75 d11_drawn_1 f_0_9 ?_
    refine g_get fl11_317 d11_drawn_4 f_44_3 ?_
    refine g_topI ((1 : Int32)) (hdz) ?_
    refine g_iz_eq (1) 19 (by decide) d11_drawn_7 rfl (fun c7 => absurd c7 (by decide)) (fun _ => ?_)
    refine g_iload_n d11_drawn_10 rfl ?_
    refine g_iz_lt (0) 19 (by decide) d11_drawn_11 rfl (fun c11 => absurd c11 (by decide)) (fun _ => ?_)
    refine g_iload_n d11_drawn_14 rfl ?_
    refine g_iconstv (nI 3) d11_drawn_15 rfl ?_
    refine g_ic_le (0) (3) 21 (by decide) (by decide) d11_drawn_16 rfl (fun _ => ?_) (fun c16 => absurd c16 (by decide))
    refine g_iload_n d11_drawn_21 rfl ?_
    refine g_iconstv (nI 3) d11_drawn_22 rfl ?_
    refine g_ic_ne (0) (3) 47 (by decide) (by decide) d11_drawn_23 rfl (fun _ => ?_) (fun c23 => absurd c23 (by decide))
    refine g_iload_n d11_drawn_47 rfl ?_
    refine g_iz_lt _ 62 (rfl) d11_drawn_48 rfl (fun c48 => absurd c48 (by omega)) (fun _ => ?_)
    refine g_iload_n d11_drawn_51 rfl ?_
    refine g_aload_n d11_drawn_52 rfl ?_
    refine g_get fl11_75 d11_drawn_53 f_0_9 ?_
    refine g_get fl11_324 d11_drawn_56 f_44_4 ?_
    refine g_topI (nI (n)) (hn) ?_
    refine g_ic_lt _ ((n : Nat) : Int) 64 (rfl) (nI_ti (by omega)) d11_drawn_59 rfl (fun c59 => absurd c59 (by omega)) (fun _ => ?_)
    refine g_iconstv ((-1 : Int32)) d11_drawn_62 rfl ?_
    exact g_iret rfl d11_drawn_63 (⟨rfl, rfl⟩)
set_option maxHeartbeats 200000 in
theorem r11_drawn_c1 {l : Launch} {K : cK} {d : Nat} {I : wI} {L : wL} {R : wR} {dy : cH} (hdz : I 44 3 = 1) (n : Nat) (hn : I 44 4 = nI n) (hn6 : n ≤ 6) (c : Nat) (hc : c < n) (hd : 0 ≤ d) : CE l K m11_drawn d [.ref 0, .int (nI c), .int (nI 1)] (hp I L R dy) (.int (I 47 c)) (hp I L R dy) := by
  refine CC.of ok11_drawn (Nat.le_of_ble_eq_true rfl) ?_
  refine g_aload_n d11_drawn_0 rfl ?_
  refine g_get fl11_75 d11_drawn_1 f_0_9 ?_
  refine g_get fl11_317 d11_drawn_4 f_44_3 ?_
  refine g_topI ((1 : Int32)) (hdz) ?_
  refine g_iz_eq (1) 19 (by decide) d11_drawn_7 rfl (fun c7 => absurd c7 (by decide)) (fun _ => ?_)
  refine g_iload_n d11_drawn_10 rfl ?_
  refine g_iz_lt (1) 19 (by decide) d11_drawn_11 rfl (fun c11 => absurd c11 (by decide)) (fun _ => ?_)
  refine g_iload_n d11_drawn_14 rfl ?_
  refine g_iconstv (nI 3) d11_drawn_15 rfl ?_
  refine g_ic_le (1) (3) 21 (by decide) (by decide) d11_drawn_16 rfl (fun _ => ?_) (fun c16 => absurd c16 (by decide))
  refine g_iload_n d11_drawn_21 rfl ?_
  refine g_iconstv (nI 3) d11_drawn_22 rfl ?_
  refine g_ic_ne (1) (3) 47 (by decide) (by decide) d11_drawn_23 rfl (fun _ => ?_) (fun c23 => absurd c23 (by decide))
  refine g_iload_n d11_drawn_47 rfl ?_
  refine g_iz_lt ((c : Nat) : Int) 62 (nI_ti (by omega)) d11_drawn_48 rfl (fun c48 => absurd c48 (by omega)) (fun _ => ?_)
  refine g_iload_n d11_drawn_51 rfl ?_
  refine g_aload_n d11_drawn_52 rfl ?_
  refine g_get fl11_75 d11_drawn_53 f_0_9 ?_
  refine g_get fl11_324 d11_drawn_56 f_44_4 ?_
  refine g_topI (nI (n)) (hn) ?_
  refine g_ic_lt ((c : Nat) : Int) ((n : Nat) : Int) 64 (nI_ti (by omega)) (nI_ti (by omega)) d11_drawn_59 rfl (fun _ => ?_) (fun c59 => absurd c59 (by omega))
  refine g_iload_n d11_drawn_64 rfl ?_
  refine g_iz_ne (1) 80 (by decide) d11_drawn_65 rfl (fun _ => ?_) (fun c65 => absurd c65 (by decide))
  refine g_iload_n d11_drawn_80 rfl ?_
  refine g_iconstv (nI 1) d11_drawn_81 rfl ?_
  refine g_ic_ne (1) (1) 97 (by decide) (by decide) d11_drawn_82 rfl (fun c82 => absurd c82 (by decide)) (fun _ => ?_)
  refine g_aload_n d11_drawn_85 rfl ?_
  refine g_get fl11_75 d11_drawn_86 f_0_9 ?_
  refine g_get fl11_328 d11_drawn_89 f_44_7 ?_
  refine g_iload_n d11_drawn_92 rfl ?_
  refine g_ialdN (c) d11_drawn_93 a_47 (rfl) (by omega) (by decide) ?_
  refine g_goto 106 d11_drawn_94 rfl ?_
  exact g_iret rfl d11_drawn_106 (⟨rfl, rfl⟩)
set_option maxHeartbeats 200000 in
theorem r11_drawn_n1 {l : Launch} {K : cK} {d : Nat} {I : wI} {L : wL} {R : wR} {dy : cH} (hdz : I 44 3 = 1) (n : Nat) (hn : I 44 4 = nI n) (hn6 : n ≤ 6) (x : Int32) (hx : ¬ (0 ≤ x.toInt ∧ x.toInt < n)) (hd : 0 ≤ d) : CE l K m11_drawn d [.ref 0, .int x, .int (nI 1)] (hp I L R dy) (.int (-1)) (hp I L R dy) := by
  refine CC.of ok11_drawn (Nat.le_of_ble_eq_true rfl) ?_
  by_cases h0 : x.toInt < 0
  · skip
    refine g_aload_n d11_drawn_0 rfl ?_
    refine g_get fl11_75 d11_drawn_1 f_0_9 ?_
    refine g_get fl11_317 d11_drawn_4 f_44_3 ?_
    refine g_topI ((1 : Int32)) (hdz) ?_
    refine g_iz_eq (1) 19 (by decide) d11_drawn_7 rfl (fun c7 => absurd c7 (by decide)) (fun _ => ?_)
    refine g_iload_n d11_drawn_10 rfl ?_
    refine g_iz_lt (1) 19 (by decide) d11_drawn_11 rfl (fun c11 => absurd c11 (by decide)) (fun _ => ?_)
    refine g_iload_n d11_drawn_14 rfl ?_
    refine g_iconstv (nI 3) d11_drawn_15 rfl ?_
    refine g_ic_le (1) (3) 21 (by decide) (by decide) d11_drawn_16 rfl (fun _ => ?_) (fun c16 => absurd c16 (by decide))
    refine g_iload_n d11_drawn_21 rfl ?_
    refine g_iconstv (nI 3) d11_drawn_22 rfl ?_
    refine g_ic_ne (1) (3) 47 (by decide) (by decide) d11_drawn_23 rfl (fun _ => ?_) (fun c23 => absurd c23 (by decide))
    refine g_iload_n d11_drawn_47 rfl ?_
    refine g_iz_lt _ 62 (rfl) d11_drawn_48 rfl (fun _ => ?_) (fun c48 => absurd c48 (by omega))
    refine g_iconstv ((-1 : Int32)) d11_drawn_62 rfl ?_
    exact g_iret rfl d11_drawn_63 (⟨rfl, rfl⟩)
  · skip
    refine g_aload_n d11_drawn_0 rfl ?_
    refine g_get fl11_75 d11_drawn_1 f_0_9 ?_
    refine g_get fl11_317 d11_drawn_4 f_44_3 ?_
    refine g_topI ((1 : Int32)) (hdz) ?_
    refine g_iz_eq (1) 19 (by decide) d11_drawn_7 rfl (fun c7 => absurd c7 (by decide)) (fun _ => ?_)
    refine g_iload_n d11_drawn_10 rfl ?_
    refine g_iz_lt (1) 19 (by decide) d11_drawn_11 rfl (fun c11 => absurd c11 (by decide)) (fun _ => ?_)
    refine g_iload_n d11_drawn_14 rfl ?_
    refine g_iconstv (nI 3) d11_drawn_15 rfl ?_
    refine g_ic_le (1) (3) 21 (by decide) (by decide) d11_drawn_16 rfl (fun _ => ?_) (fun c16 => absurd c16 (by decide))
    refine g_iload_n d11_drawn_21 rfl ?_
    refine g_iconstv (nI 3) d11_drawn_22 rfl ?_
    refine g_ic_ne (1) (3) 47 (by decide) (by decide) d11_drawn_23 rfl (fun _ => ?_) (fun c23 => absurd c23 (by decide))
    refine g_iload_n d11_drawn_47 rfl ?_
    refine g_iz_lt _ 62 (rfl) d11_drawn_48 rfl (fun c48 => absurd c48 (by omega)) (fun _ => ?_)
    refine g_iload_n d11_drawn_51 rfl ?_
    refine g_aload_n d11_drawn_52 rfl ?_
    refine g_get fl11_75 d11_drawn_53 f_0_9 ?_
    refine g_get fl11_324 d11_drawn_56 f_44_4 ?_
    refine g_topI (nI (n)) (hn) ?_
    refine g_ic_lt _ ((n : Nat) : Int) 64 (rfl) (nI_ti (by omega)) d11_drawn_59 rfl (fun c59 => absurd c59 (by omega)) (fun _ => ?_)
    refine g_iconstv ((-1 : Int32)) d11_drawn_62 rfl ?_
    exact g_iret rfl d11_drawn_63 (⟨rfl, rfl⟩)
set_option maxHeartbeats 200000 in
theorem r11_drawn_c2 {l : Launch} {K : cK} {d : Nat} {I : wI} {L : wL} {R : wR} {dy : cH} (hdz : I 44 3 = 1) (n : Nat) (hn : I 44 4 = nI n) (hn6 : n ≤ 6) (c : Nat) (hc : c < n) (hd : 0 ≤ d) : CE l K m11_drawn d [.ref 0, .int (nI c), .int (nI 2)] (hp I L R dy) (.int (I 48 c)) (hp I L R dy) := by
  refine CC.of ok11_drawn (Nat.le_of_ble_eq_true rfl) ?_
  refine g_aload_n d11_drawn_0 rfl ?_
  refine g_get fl11_75 d11_drawn_1 f_0_9 ?_
  refine g_get fl11_317 d11_drawn_4 f_44_3 ?_
  refine g_topI ((1 : Int32)) (hdz) ?_
  refine g_iz_eq (1) 19 (by decide) d11_drawn_7 rfl (fun c7 => absurd c7 (by decide)) (fun _ => ?_)
  refine g_iload_n d11_drawn_10 rfl ?_
  refine g_iz_lt (2) 19 (by decide) d11_drawn_11 rfl (fun c11 => absurd c11 (by decide)) (fun _ => ?_)
  refine g_iload_n d11_drawn_14 rfl ?_
  refine g_iconstv (nI 3) d11_drawn_15 rfl ?_
  refine g_ic_le (2) (3) 21 (by decide) (by decide) d11_drawn_16 rfl (fun _ => ?_) (fun c16 => absurd c16 (by decide))
  refine g_iload_n d11_drawn_21 rfl ?_
  refine g_iconstv (nI 3) d11_drawn_22 rfl ?_
  refine g_ic_ne (2) (3) 47 (by decide) (by decide) d11_drawn_23 rfl (fun _ => ?_) (fun c23 => absurd c23 (by decide))
  refine g_iload_n d11_drawn_47 rfl ?_
  refine g_iz_lt ((c : Nat) : Int) 62 (nI_ti (by omega)) d11_drawn_48 rfl (fun c48 => absurd c48 (by omega)) (fun _ => ?_)
  refine g_iload_n d11_drawn_51 rfl ?_
  refine g_aload_n d11_drawn_52 rfl ?_
  refine g_get fl11_75 d11_drawn_53 f_0_9 ?_
  refine g_get fl11_324 d11_drawn_56 f_44_4 ?_
  refine g_topI (nI (n)) (hn) ?_
  refine g_ic_lt ((c : Nat) : Int) ((n : Nat) : Int) 64 (nI_ti (by omega)) (nI_ti (by omega)) d11_drawn_59 rfl (fun _ => ?_) (fun c59 => absurd c59 (by omega))
  refine g_iload_n d11_drawn_64 rfl ?_
  refine g_iz_ne (2) 80 (by decide) d11_drawn_65 rfl (fun _ => ?_) (fun c65 => absurd c65 (by decide))
  refine g_iload_n d11_drawn_80 rfl ?_
  refine g_iconstv (nI 1) d11_drawn_81 rfl ?_
  refine g_ic_ne (2) (1) 97 (by decide) (by decide) d11_drawn_82 rfl (fun _ => ?_) (fun c82 => absurd c82 (by decide))
  refine g_aload_n d11_drawn_97 rfl ?_
  refine g_get fl11_75 d11_drawn_98 f_0_9 ?_
  refine g_get fl11_331 d11_drawn_101 f_44_8 ?_
  refine g_iload_n d11_drawn_104 rfl ?_
  refine g_ialdN (c) d11_drawn_105 a_48 (rfl) (by omega) (by decide) ?_
  exact g_iret rfl d11_drawn_106 (⟨rfl, rfl⟩)
set_option maxHeartbeats 200000 in
theorem r11_drawn_n2 {l : Launch} {K : cK} {d : Nat} {I : wI} {L : wL} {R : wR} {dy : cH} (hdz : I 44 3 = 1) (n : Nat) (hn : I 44 4 = nI n) (hn6 : n ≤ 6) (x : Int32) (hx : ¬ (0 ≤ x.toInt ∧ x.toInt < n)) (hd : 0 ≤ d) : CE l K m11_drawn d [.ref 0, .int x, .int (nI 2)] (hp I L R dy) (.int (-1)) (hp I L R dy) := by
  refine CC.of ok11_drawn (Nat.le_of_ble_eq_true rfl) ?_
  by_cases h0 : x.toInt < 0
  · skip
    refine g_aload_n d11_drawn_0 rfl ?_
    refine g_get fl11_75 d11_drawn_1 f_0_9 ?_
    refine g_get fl11_317 d11_drawn_4 f_44_3 ?_
    refine g_topI ((1 : Int32)) (hdz) ?_
    refine g_iz_eq (1) 19 (by decide) d11_drawn_7 rfl (fun c7 => absurd c7 (by decide)) (fun _ => ?_)
    refine g_iload_n d11_drawn_10 rfl ?_
    refine g_iz_lt (2) 19 (by decide) d11_drawn_11 rfl (fun c11 => absurd c11 (by decide)) (fun _ => ?_)
    refine g_iload_n d11_drawn_14 rfl ?_
    refine g_iconstv (nI 3) d11_drawn_15 rfl ?_
    refine g_ic_le (2) (3) 21 (by decide) (by decide) d11_drawn_16 rfl (fun _ => ?_) (fun c16 => absurd c16 (by decide))
    refine g_iload_n d11_drawn_21 rfl ?_
    refine g_iconstv (nI 3) d11_drawn_22 rfl ?_
    refine g_ic_ne (2) (3) 47 (by decide) (by decide) d11_drawn_23 rfl (fun _ => ?_) (fun c23 => absurd c23 (by decide))
    refine g_iload_n d11_drawn_47 rfl ?_
    refine g_iz_lt _ 62 (rfl) d11_drawn_48 rfl (fun _ => ?_) (fun c48 => absurd c48 (by omega))
    refine g_iconstv ((-1 : Int32)) d11_drawn_62 rfl ?_
    exact g_iret rfl d11_drawn_63 (⟨rfl, rfl⟩)
  · skip
    refine g_aload_n d11_drawn_0 rfl ?_
    refine g_get fl11_75 d11_drawn_1 f_0_9 ?_
    refine g_get fl11_317 d11_drawn_4 f_44_3 ?_
    refine g_topI ((1 : Int32)) (hdz) ?_
    refine g_iz_eq (1) 19 (by decide) d11_drawn_7 rfl (fun c7 => absurd c7 (by decide)) (fun _ => ?_)
    refine g_iload_n d11_drawn_10 rfl ?_
    refine g_iz_lt (2) 19 (by decide) d11_drawn_11 rfl (fun c11 => absurd c11 (by decide)) (fun _ => ?_)
    refine g_iload_n d11_drawn_14 rfl ?_
    refine g_iconstv (nI 3) d11_drawn_15 rfl ?_
    refine g_ic_le (2) (3) 21 (by decide) (by decide) d11_drawn_16 rfl (fun _ => ?_) (fun c16 => absurd c16 (by decide))
    refine g_iload_n d11_drawn_21 rfl ?_
    refine g_iconstv (nI 3) d11_drawn_22 rfl ?_
    refine g_ic_ne (2) (3) 47 (by decide) (by decide) d11_drawn_23 rfl (fun _ => ?_) (fun c23 => absurd c23 (by decide))
    refine g_iload_n d11_drawn_47 rfl ?_
    refine g_iz_lt _ 62 (rfl) d11_drawn_48 rfl (fun c48 => absurd c48 (by omega)) (fun _ => ?_)
    refine g_iload_n d11_drawn_51 rfl ?_
    refine g_aload_n d11_drawn_52 rfl ?_
    refine g_get fl11_75 d11_drawn_53 f_0_9 ?_
    refine g_get fl11_324 d11_drawn_56 f_44_4 ?_
    refine g_topI (nI (n)) (hn) ?_
    refine g_ic_lt _ ((n : Nat) : Int) 64 (rfl) (nI_ti (by omega)) d11_drawn_59 rfl (fun c59 => absurd c59 (by omega)) (fun _ => ?_)
    refine g_iconstv ((-1 : Int32)) d11_drawn_62 rfl ?_
    exact g_iret rfl d11_drawn_63 (⟨rfl, rfl⟩)
set_option maxHeartbeats 200000 in
theorem r8_four {l : Launch} {K : cK} {d : Nat} {I : wI} {L : wL} {R : wR} {dy : cH} (t : Nat) (ht : I 12 1 = nI t) (ht4 : t + 4 ≤ 400) (v : Int32) (hd : 0 ≤ d) : CV l K m8_addFour d [.ref 12, .int v] (hp I L R dy) (hp (fo I 13 12 1 t v) L R dy) := by
  refine CC.of ok8_addFour (Nat.le_of_ble_eq_true rfl) ?_
  unfold fo
  refine g_bipushv (nI 24) d8_addFour_0 rfl ?_
  refine g_istore_n d8_addFour_2 (by decide) ?_
  refine g_iload_n d8_addFour_3 rfl ?_
  refine g_iz_lt (24) 49 (by decide) d8_addFour_4 rfl (fun c4 => absurd c4 (by decide)) (fun _ => ?_)
  refine g_aload_n d8_addFour_7 rfl ?_
  refine g_get fl8_15 d8_addFour_8 f_12_1 ?_
  refine g_topI (nI (t)) (ht) ?_
  refine g_sipushv (nI 400) d8_addFour_11 rfl ?_
  refine g_ic_ge ((t : Nat) : Int) (400) 43 (nI_ti (by omega)) (by decide) d8_addFour_14 rfl (fun c14 => absurd c14 (by omega)) (fun _ => ?_)
  refine g_aload_n d8_addFour_17 rfl ?_
  refine g_get fl8_9 d8_addFour_18 f_12_0 ?_
  refine g_aload_n d8_addFour_21 rfl ?_
  refine g_get fl8_15 d8_addFour_22 f_12_1 ?_
  refine g_topI (nI (t)) (ht) ?_
  refine g_iload_n d8_addFour_25 rfl ?_
  refine g_iload_n d8_addFour_26 rfl ?_
  refine g_ishr d8_addFour_27 ?_
  refine g_sipushv (nI 255) d8_addFour_28 rfl ?_
  refine g_iand d8_addFour_31 ?_
  refine g_iastN (t) _ d8_addFour_32 a_13 (rfl) (by omega) (by decide) t_13 ?_
  refine g_aload_n d8_addFour_33 rfl ?_
  refine g_dup d8_addFour_34 rfl ?_
  refine g_get fl8_15 d8_addFour_35 f_12_1 ?_
  refine g_topI (nI (t)) ((by rw [uI_n (by decide)]; exact ht)) ?_
  refine g_iconstv (nI 1) d8_addFour_38 rfl ?_
  refine g_iaddN d8_addFour_39 ?_
  refine g_putIh _ fl8_15 d8_addFour_40 f_12_1 s_12_1 ?_
  refine g_iinc (nI 16) d8_addFour_43 rfl (by decide) (by decide) ?_
  refine g_goto 3 d8_addFour_46 rfl ?_
  refine g_iload_n d8_addFour_3 rfl ?_
  refine g_iz_lt (16) 49 (by decide) d8_addFour_4 rfl (fun c4 => absurd c4 (by decide)) (fun _ => ?_)
  refine g_aload_n d8_addFour_7 rfl ?_
  refine g_get fl8_15 d8_addFour_8 f_12_1 ?_
  refine g_topI (nI ((t + 1))) (uI_ss) ?_
  refine g_sipushv (nI 400) d8_addFour_11 rfl ?_
  refine g_ic_ge (((t + 1) : Nat) : Int) (400) 43 (nI_ti (by omega)) (by decide) d8_addFour_14 rfl (fun c14 => absurd c14 (by omega)) (fun _ => ?_)
  refine g_aload_n d8_addFour_17 rfl ?_
  refine g_get fl8_9 d8_addFour_18 f_12_0 ?_
  refine g_aload_n d8_addFour_21 rfl ?_
  refine g_get fl8_15 d8_addFour_22 f_12_1 ?_
  refine g_topI (nI ((t + 1))) (uI_ss) ?_
  refine g_iload_n d8_addFour_25 rfl ?_
  refine g_iload_n d8_addFour_26 rfl ?_
  refine g_ishr d8_addFour_27 ?_
  refine g_sipushv (nI 255) d8_addFour_28 rfl ?_
  refine g_iand d8_addFour_31 ?_
  refine g_iastN ((t + 1)) _ d8_addFour_32 a_13 (rfl) (by omega) (by decide) t_13 ?_
  refine g_aload_n d8_addFour_33 rfl ?_
  refine g_dup d8_addFour_34 rfl ?_
  refine g_get fl8_15 d8_addFour_35 f_12_1 ?_
  refine g_topI (nI ((t + 1))) ((by rw [uI_n (by decide)]; exact uI_ss)) ?_
  refine g_iconstv (nI 1) d8_addFour_38 rfl ?_
  refine g_iaddN d8_addFour_39 ?_
  refine g_putIh _ fl8_15 d8_addFour_40 f_12_1 s_12_1 ?_
  refine g_iinc (nI 8) d8_addFour_43 rfl (by decide) (by decide) ?_
  refine g_goto 3 d8_addFour_46 rfl ?_
  refine g_iload_n d8_addFour_3 rfl ?_
  refine g_iz_lt (8) 49 (by decide) d8_addFour_4 rfl (fun c4 => absurd c4 (by decide)) (fun _ => ?_)
  refine g_aload_n d8_addFour_7 rfl ?_
  refine g_get fl8_15 d8_addFour_8 f_12_1 ?_
  refine g_topI (nI ((t + 2))) (uI_ss) ?_
  refine g_sipushv (nI 400) d8_addFour_11 rfl ?_
  refine g_ic_ge (((t + 2) : Nat) : Int) (400) 43 (nI_ti (by omega)) (by decide) d8_addFour_14 rfl (fun c14 => absurd c14 (by omega)) (fun _ => ?_)
  refine g_aload_n d8_addFour_17 rfl ?_
  refine g_get fl8_9 d8_addFour_18 f_12_0 ?_
  refine g_aload_n d8_addFour_21 rfl ?_
  refine g_get fl8_15 d8_addFour_22 f_12_1 ?_
  refine g_topI (nI ((t + 2))) (uI_ss) ?_
  refine g_iload_n d8_addFour_25 rfl ?_
  refine g_iload_n d8_addFour_26 rfl ?_
  refine g_ishr d8_addFour_27 ?_
  refine g_sipushv (nI 255) d8_addFour_28 rfl ?_
  refine g_iand d8_addFour_31 ?_
  refine g_iastN ((t + 2)) _ d8_addFour_32 a_13 (rfl) (by omega) (by decide) t_13 ?_
  refine g_aload_n d8_addFour_33 rfl ?_
  refine g_dup d8_addFour_34 rfl ?_
  refine g_get fl8_15 d8_addFour_35 f_12_1 ?_
  refine g_topI (nI ((t + 2))) ((by rw [uI_n (by decide)]; exact uI_ss)) ?_
  refine g_iconstv (nI 1) d8_addFour_38 rfl ?_
  refine g_iaddN d8_addFour_39 ?_
  refine g_putIh _ fl8_15 d8_addFour_40 f_12_1 s_12_1 ?_
  refine g_iinc (nI 0) d8_addFour_43 rfl (by decide) (by decide) ?_
  refine g_goto 3 d8_addFour_46 rfl ?_
  refine g_iload_n d8_addFour_3 rfl ?_
  refine g_iz_lt (0) 49 (by decide) d8_addFour_4 rfl (fun c4 => absurd c4 (by decide)) (fun _ => ?_)
  refine g_aload_n d8_addFour_7 rfl ?_
  refine g_get fl8_15 d8_addFour_8 f_12_1 ?_
  refine g_topI (nI ((t + 3))) (uI_ss) ?_
  refine g_sipushv (nI 400) d8_addFour_11 rfl ?_
  refine g_ic_ge (((t + 3) : Nat) : Int) (400) 43 (nI_ti (by omega)) (by decide) d8_addFour_14 rfl (fun c14 => absurd c14 (by omega)) (fun _ => ?_)
  refine g_aload_n d8_addFour_17 rfl ?_
  refine g_get fl8_9 d8_addFour_18 f_12_0 ?_
  refine g_aload_n d8_addFour_21 rfl ?_
  refine g_get fl8_15 d8_addFour_22 f_12_1 ?_
  refine g_topI (nI ((t + 3))) (uI_ss) ?_
  refine g_iload_n d8_addFour_25 rfl ?_
  refine g_iload_n d8_addFour_26 rfl ?_
  refine g_ishr d8_addFour_27 ?_
  refine g_sipushv (nI 255) d8_addFour_28 rfl ?_
  refine g_iand d8_addFour_31 ?_
  refine g_iastN ((t + 3)) _ d8_addFour_32 a_13 (rfl) (by omega) (by decide) t_13 ?_
  refine g_aload_n d8_addFour_33 rfl ?_
  refine g_dup d8_addFour_34 rfl ?_
  refine g_get fl8_15 d8_addFour_35 f_12_1 ?_
  refine g_topI (nI ((t + 3))) ((by rw [uI_n (by decide)]; exact uI_ss)) ?_
  refine g_iconstv (nI 1) d8_addFour_38 rfl ?_
  refine g_iaddN d8_addFour_39 ?_
  refine g_putIh _ fl8_15 d8_addFour_40 f_12_1 s_12_1 ?_
  refine g_iinc ((-8 : Int32)) d8_addFour_43 rfl (by decide) (by decide) ?_
  refine g_goto 3 d8_addFour_46 rfl ?_
  refine g_iload_n d8_addFour_3 rfl ?_
  refine g_iz_lt (-8) 49 (by decide) d8_addFour_4 rfl (fun _ => ?_) (fun c4 => absurd c4 (by decide))
  exact g_vret rfl d8_addFour_49 (⟨rfl, rfl⟩)
theorem fo_t {I : wI} {c k j t : Nat} {v : Int32} : fo I c k j t v k j = nI (t + 4) := by unfold fo; exact uI_ss
set_option maxHeartbeats 200000 in
theorem r11_feed_no {l : Launch} {K : cK} {d : Nat} {I : wI} {L : wL} {R : wR} {dy : cH} (t : Nat) (ht : I 12 1 = nI t) (ht4 : t ≤ 400) (hno : 400 < t + 20) (a b c e f : Int32) (hd : 0 ≤ d) : CE l K m11_feed d [.ref 0, .int a, .int b, .int c, .int e, .int f] (hp I L R dy) (.int (-1)) (hp I L R dy) := by
  refine CC.of ok11_feed (Nat.le_of_ble_eq_true rfl) ?_
  refine g_aload_n d11_feed_0 rfl ?_
  refine g_get fl11_27 d11_feed_1 f_0_3 ?_
  refine g_get fl11_145 d11_feed_4 f_12_1 ?_
  refine g_topI (nI (t)) (ht) ?_
  refine g_bipushv (nI 20) d11_feed_7 rfl ?_
  refine g_iaddN d11_feed_9 ?_
  refine g_sipushv (nI 400) d11_feed_10 rfl ?_
  refine g_ic_le (((t + 20) : Nat) : Int) (400) 18 (nI_ti (by omega)) (by decide) d11_feed_13 rfl (fun c13 => absurd c13 (by omega)) (fun _ => ?_)
  refine g_iconstv ((-1 : Int32)) d11_feed_16 rfl ?_
  exact g_iret rfl d11_feed_17 (⟨rfl, rfl⟩)
set_option maxHeartbeats 200000 in
theorem r11_feed_ok {l : Launch} {K : cK} {d : Nat} {I : wI} {L : wL} {R : wR} {dy : cH} (t : Nat) (ht : I 12 1 = nI t) (hok : t + 20 ≤ 400) (a b c e f : Int32) (hd : 1 ≤ d) : CE l K m11_feed d [.ref 0, .int a, .int b, .int c, .int e, .int f] (hp I L R dy) (.int (nI (t + 20))) (hp (fo (fo (fo (fo (fo I 13 12 1 (t + 0) a) 13 12 1 (t + 4) b) 13 12 1 (t + 8) c) 13 12 1 (t + 12) e) 13 12 1 (t + 16) f) L R dy) := by
  refine CC.of ok11_feed (Nat.le_of_ble_eq_true rfl) ?_
  refine g_aload_n d11_feed_0 rfl ?_
  refine g_get fl11_27 d11_feed_1 f_0_3 ?_
  refine g_get fl11_145 d11_feed_4 f_12_1 ?_
  refine g_topI (nI (t)) (ht) ?_
  refine g_bipushv (nI 20) d11_feed_7 rfl ?_
  refine g_iaddN d11_feed_9 ?_
  refine g_sipushv (nI 400) d11_feed_10 rfl ?_
  refine g_ic_le (((t + 20) : Nat) : Int) (400) 18 (nI_ti (by omega)) (by decide) d11_feed_13 rfl (fun _ => ?_) (fun c13 => absurd c13 (by omega))
  refine g_aload_n d11_feed_18 rfl ?_
  refine g_get fl11_27 d11_feed_19 f_0_3 ?_
  refine g_iload_n d11_feed_22 rfl ?_
  refine g_VV1 vm8_addFour ml11_148 c_12 (r8_four (I := I) (t + 0) (ht) (by omega) a (Nat.le_refl 0)) (by omega) (Nat.le_of_ble_eq_true rfl) d11_feed_23 ?_
  refine g_aload_n d11_feed_26 rfl ?_
  refine g_get fl11_27 d11_feed_27 f_0_3 ?_
  refine g_iload_n d11_feed_30 rfl ?_
  refine g_VV1 vm8_addFour ml11_148 c_12 (r8_four (I := (fo I 13 12 1 (t + 0) a)) (t + 4) (fo_t) (by omega) b (Nat.le_refl 0)) (by omega) (Nat.le_of_ble_eq_true rfl) d11_feed_31 ?_
  refine g_aload_n d11_feed_34 rfl ?_
  refine g_get fl11_27 d11_feed_35 f_0_3 ?_
  refine g_iload_n d11_feed_38 rfl ?_
  refine g_VV1 vm8_addFour ml11_148 c_12 (r8_four (I := (fo (fo I 13 12 1 (t + 0) a) 13 12 1 (t + 4) b)) (t + 8) (fo_t) (by omega) c (Nat.le_refl 0)) (by omega) (Nat.le_of_ble_eq_true rfl) d11_feed_39 ?_
  refine g_aload_n d11_feed_42 rfl ?_
  refine g_get fl11_27 d11_feed_43 f_0_3 ?_
  refine g_iload d11_feed_46 rfl ?_
  refine g_VV1 vm8_addFour ml11_148 c_12 (r8_four (I := (fo (fo (fo I 13 12 1 (t + 0) a) 13 12 1 (t + 4) b) 13 12 1 (t + 8) c)) (t + 12) (fo_t) (by omega) e (Nat.le_refl 0)) (by omega) (Nat.le_of_ble_eq_true rfl) d11_feed_48 ?_
  refine g_aload_n d11_feed_51 rfl ?_
  refine g_get fl11_27 d11_feed_52 f_0_3 ?_
  refine g_iload d11_feed_55 rfl ?_
  refine g_VV1 vm8_addFour ml11_148 c_12 (r8_four (I := (fo (fo (fo (fo I 13 12 1 (t + 0) a) 13 12 1 (t + 4) b) 13 12 1 (t + 8) c) 13 12 1 (t + 12) e)) (t + 16) (fo_t) (by omega) f (Nat.le_refl 0)) (by omega) (Nat.le_of_ble_eq_true rfl) d11_feed_57 ?_
  refine g_aload_n d11_feed_60 rfl ?_
  refine g_get fl11_27 d11_feed_61 f_0_3 ?_
  refine g_get fl11_145 d11_feed_64 f_12_1 ?_
  refine g_topI (nI ((t + 20))) (fo_t) ?_
  exact g_iret rfl d11_feed_67 (⟨rfl, rfl⟩)
