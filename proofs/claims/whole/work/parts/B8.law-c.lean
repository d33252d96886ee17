theorem g_nstore {l : Launch} {K : cK} {M : MI} {d kc ks pc n : Nat} {lo : List (Nat × Value)} {st : List Value} {h : cH} {Q : Option Value → cH → Prop} {z : Nat} (hd : dc M pc (.astore z) 2 n) (hi : z < M.2.2.1) (k : GL l K M d kc ks n ((z, .null) :: lo) st h Q) : GL l K M d kc ks pc lo (.null :: st) h Q := by
  intro p e R s m args below meth c H locs cells slots mc ms ls hB h1 h2 h3 h4 h5 h6 h7 h8 h9 h10
  obtain ⟨hdg, rfl⟩ := hd
  refine lv_astoreN hB.1 hB.2.1 hdg h10 hi rfl (fun ls2 hl2 => ?_)
  exact k p e R s m args below meth c H locs cells slots mc ms ls2 hB h1 h2 h3 h4 h5 h6 h7 h8 h9 (lh_sub hl2 (lh_st1 (v := .null) (by rfl)))
/-- what reading a text changes -/
def FRt (I I2 : wI) : Prop := (∀ k, k ≠ 0 → k ≠ 55 → (k < 12 ∨ k = 13 ∨ 20 < k) → I2 k = I k) ∧ (∀ j, j ≠ 14 → j ≠ 15 → I2 0 j = I 0 j) ∧ I2 12 1 = 0
theorem FRt.n {I I1 : wI} {x : Int32} (h : FRr I I1) : FRt I (uI (uI (uI (uI I1 0 15 x) 12 1 (nI 0)) 55 4 (uI (uI I1 0 15 x) 12 1 (nI 0) 55 4 + 1)) 0 14 (-6)) ∧ (uI (uI (uI (uI I1 0 15 x) 12 1 (nI 0)) 55 4 (uI (uI I1 0 15 x) 12 1 (nI 0) 55 4 + 1)) 0 14 (-6)) 55 = upd (I 55) 4 (I 55 4 + 1) := by
  refine ⟨⟨fun k h0 h55 hk => ?_, fun j h14 h15 => ?_, ?_⟩, ?_⟩
  · rw [uI_n h0, uI_n h55, uI_n (by omega), uI_n h0]; exact h.1 k hk
  · rw [uI_sn h14, uI_n (by decide), uI_n (by decide), uI_sn h15, h.1 0 (by omega)]
  · rw [uI_n (by decide), uI_n (by decide), uI_ss]; rfl
  · rw [uI_n (by decide), uI_s, uI_n (by decide), uI_n (by decide), h.1 55 (by omega)]
theorem FRt.y {I I1 : wI} {x : Int32} (h : FRr I I1) : FRt I (uI (uI (uI I1 0 15 x) 12 1 (nI 0)) 0 14 0) ∧ (uI (uI (uI I1 0 15 x) 12 1 (nI 0)) 0 14 0) 55 = I 55 := by
  refine ⟨⟨fun k h0 h55 hk => ?_, fun j h14 h15 => ?_, ?_⟩, ?_⟩
  · rw [uI_n h0, uI_n (by omega), uI_n h0]; exact h.1 k hk
  · rw [uI_sn h14, uI_n (by decide), uI_sn h15, h.1 0 (by omega)]
  · rw [uI_n (by decide), uI_ss]; rfl
  · rw [uI_n (by decide), uI_n (by decide), uI_n (by decide), h.1 55 (by omega)]
/-- what reading a text leaves, k the cell of the texts, n how many there were -/
def RTq (I : wI) (L : wL) (R : wR) (dy : cH) (k n : Nat) (r : Nat ⊕ List Cl) (v : Option Value) (h : cH) : Prop := ∃ I2, FRt I I2 ∧ (match r with
  | .inl e => v = some (.int (-6)) ∧ h = hp I2 L R dy ∧ I2 0 15 = nI e ∧ I2 0 14 = -6 ∧ I2 55 = upd (I 55) 4 (I 55 4 + 1)
  | .inr cs => v = some (.int (nI n)) ∧ I2 0 15 = -1 ∧ I2 0 14 = 0 ∧ I2 55 = I 55 ∧ ∃ fs as, as.length = 6 ∧ h = hp I2 L (uR R k n (some (dy.length + 105))) (hO dy 9 fs as) ∧ CTX (hO dy 9 fs as) (dy.length + 105) cs)
set_option maxHeartbeats 200000 in
theorem r11_rt4_f {l : Launch} {K : cK} {d : Nat} {I : wI} {L : wL} {R : wR} {dy : cH} {x : Int32} (hd : 1 ≤ d) : CE l K m11_readText d [.ref 0, .ref 4, .int (nI 6), .int x] (hp I L R dy) (.int (-5)) (hp (uI (uI (uI I 12 1 (nI 0)) 55 3 (I 55 3 + 1)) 0 14 (-5)) L R dy) := by
  refine CC.of ok11_readText (Nat.le_of_ble_eq_true rfl) ?_
  refine g_iload_n d11_readText_0 rfl ?_
  refine g_bipushv (nI 6) d11_readText_1 rfl ?_
  refine g_ic_lt (6) (6) 21 (by decide) (by decide) d11_readText_3 rfl (fun c3 => absurd c3 (by decide)) (fun _ => ?_)
  refine g_aload_n d11_readText_6 rfl ?_
  refine g_get fl11_27 d11_readText_7 f_0_3 ?_
  refine g_iconstv (nI 0) d11_readText_10 rfl ?_
  refine g_putIh _ fl11_145 d11_readText_11 f_12_1 s_12_1 ?_
  refine g_aload_n d11_readText_14 rfl ?_
  refine g_bipushv ((-5 : Int32)) d11_readText_15 rfl ?_
  refine g_EV1 vm11_refuse ml11_108 c_0 (r11_refuse_5 (I := uI I 12 1 (nI 0)) (Nat.le_refl 0)) (by omega) (Nat.le_of_ble_eq_true rfl) d11_readText_17 ?_
  exact g_iret rfl d11_readText_20 (⟨rfl, rfl⟩)
set_option maxHeartbeats 1000000 in
theorem r11_rt4 {l : Launch} {K : cK} {d : Nat} {I : wI} {L : wL} {R : wR} {dy : cH} (tp : Nat → Nat) (t : Nat) (lw : Bool) (hTP : TPc I tp t) (n : Nat) (hn : n < 6) (hd : 80 ≤ d) : CC l K m11_readText d 7 855 [.ref 0, .ref 4, .int (nI n), .int (if lw = true then 1 else 0)] (hp I L R dy) (RTq I L R dy 4 n (ptx tp t lw)) := by
  refine CC.of ok11_readText (Nat.le_of_ble_eq_true rfl) ?_
  refine g_iload_n d11_readText_0 rfl ?_
  refine g_bipushv (nI 6) d11_readText_1 rfl ?_
  refine g_ic_lt ((n : Nat) : Int) (6) 21 (nI_ti (by omega)) (by decide) d11_readText_3 rfl (fun _ => ?_) (fun c3 => absurd c3 (by omega))
  refine g_aload_n d11_readText_21 rfl ?_
  refine g_get fl11_36 d11_readText_22 f_0_4 ?_
  refine g_iload_n d11_readText_25 rfl ?_
  refine g_callV_1k (kc1 := 7) (ks1 := 855) (kc2 := 0) (ks2 := 0) (Nat.le_refl 7) (Nat.le_refl 855) vm4_read ml11_343 c_14 (r4_read tp t lw hTP (Nat.le_refl 79)) (by omega) (Nat.le_of_ble_eq_true rfl) d11_readText_26 (fun r h1 hx => ?_)
  obtain ⟨I1, hF, hx⟩ := hx
  generalize hz : ptx tp t lw = z at hx ⊢
  rcases z with e | cs
  · obtain ⟨rfl, rfl, h4⟩ := hx
    refine g_st [.null] rfl ?_
    refine g_nstore d11_readText_29 (by decide) ?_
    refine g_aload_n d11_readText_31 rfl ?_
    refine g_aload_n d11_readText_32 rfl ?_
    refine g_get fl11_36 d11_readText_33 f_0_4 ?_
    refine g_get fl11_347 d11_readText_36 f_14_4 ?_
    refine g_topI (nI (e)) (h4) ?_
    refine g_putIh _ fl11_100 d11_readText_39 f_0_15 s_0_15 ?_
    refine g_aload_n d11_readText_42 rfl ?_
    refine g_get fl11_27 d11_readText_43 f_0_3 ?_
    refine g_iconstv (nI 0) d11_readText_46 rfl ?_
    refine g_putIh _ fl11_145 d11_readText_47 f_12_1 s_12_1 ?_
    refine g_nload d11_readText_50 rfl ?_
    refine g_ifnonnullN d11_readText_52 ?_
    refine g_aload_n d11_readText_55 rfl ?_
    refine g_bipushv ((-6 : Int32)) d11_readText_56 rfl ?_
    refine g_EV1 vm11_refuse ml11_108 c_0 (r11_refuse_6 (I := uI (uI I1 0 15 (nI e)) 12 1 (nI 0)) (Nat.le_refl 0)) (by omega) (Nat.le_of_ble_eq_true rfl) d11_readText_58 ?_
    exact g_iret rfl d11_readText_61 (⟨_, (FRt.n hF).1, rfl, rfl, by rw [uI_sn (by decide), uI_n (by decide), uI_n (by decide), uI_ss], uI_ss, (FRt.n hF).2⟩)
  · obtain ⟨rfl, h4, fs, as, hal, rfl, hC⟩ := hx
    refine g_st [.ref (dy.length + 105)] rfl ?_
    refine g_astore d11_readText_29 (by decide) ?_
    refine g_aload_n d11_readText_31 rfl ?_
    refine g_aload_n d11_readText_32 rfl ?_
    refine g_get fl11_36 d11_readText_33 f_0_4 ?_
    refine g_get fl11_347 d11_readText_36 f_14_4 ?_
    refine g_topI ((-1 : Int32)) (h4) ?_
    refine g_putIh _ fl11_100 d11_readText_39 f_0_15 s_0_15 ?_
    refine g_aload_n d11_readText_42 rfl ?_
    refine g_get fl11_27 d11_readText_43 f_0_3 ?_
    refine g_iconstv (nI 0) d11_readText_46 rfl ?_
    refine g_putIh _ fl11_145 d11_readText_47 f_12_1 s_12_1 ?_
    refine g_aload d11_readText_50 rfl ?_
    refine g_ifnonnull 62 d11_readText_52 rfl ?_
    refine g_aload_n d11_readText_62 rfl ?_
    refine g_iload_n d11_readText_63 rfl ?_
    refine g_aload d11_readText_64 rfl ?_
    refine g_aastV (o := some (dy.length + 105)) n _ d11_readText_66 a_4 hn (by decide) (Or.inr ⟨dy.length, fs, rfl, hO_at⟩) t_4 ?_
    refine g_aload_n d11_readText_67 rfl ?_
    refine g_iload_n d11_readText_68 rfl ?_
    refine g_EV1 vm11_allow ml11_119 c_0 (r11_allow (Nat.le_refl 0)) (by omega) (Nat.le_of_ble_eq_true rfl) d11_readText_69 ?_
    exact g_iret rfl d11_readText_72 (⟨_, (FRt.y hF).1, rfl, by rw [uI_sn (by decide), uI_n (by decide), uI_ss], uI_ss, (FRt.y hF).2, fs, as, hal, rfl, hC⟩)
set_option maxHeartbeats 200000 in
theorem r11_rt5_f {l : Launch} {K : cK} {d : Nat} {I : wI} {L : wL} {R : wR} {dy : cH} {x : Int32} (hd : 1 ≤ d) : CE l K m11_readText d [.ref 0, .ref 5, .int (nI 6), .int x] (hp I L R dy) (.int (-5)) (hp (uI (uI (uI I 12 1 (nI 0)) 55 3 (I 55 3 + 1)) 0 14 (-5)) L R dy) := by
  refine CC.of ok11_readText (Nat.le_of_ble_eq_true rfl) ?_
  refine g_iload_n d11_readText_0 rfl ?_
  refine g_bipushv (nI 6) d11_readText_1 rfl ?_
  refine g_ic_lt (6) (6) 21 (by decide) (by decide) d11_readText_3 rfl (fun c3 => absurd c3 (by decide)) (fun _ => ?_)
  refine g_aload_n d11_readText_6 rfl ?_
  refine g_get fl11_27 d11_readText_7 f_0_3 ?_
  refine g_iconstv (nI 0) d11_readText_10 rfl ?_
  refine g_putIh _ fl11_145 d11_readText_11 f_12_1 s_12_1 ?_
  refine g_aload_n d11_readText_14 rfl ?_
  refine g_bipushv ((-5 : Int32)) d11_readText_15 rfl ?_
  refine g_EV1 vm11_refuse ml11_108 c_0 (r11_refuse_5 (I := uI I 12 1 (nI 0)) (Nat.le_refl 0)) (by omega) (Nat.le_of_ble_eq_true rfl) d11_readText_17 ?_
  exact g_iret rfl d11_readText_20 (⟨rfl, rfl⟩)
set_option maxHeartbeats 1000000 in
theorem r11_rt5 {l : Launch} {K : cK} {d : Nat} {I : wI} {L : wL} {R : wR} {dy : cH} (tp : Nat → Nat) (t : Nat) (lw : Bool) (hTP : TPc I tp t) (n : Nat) (hn : n < 6) (hd : 80 ≤ d) : CC l K m11_readText d 7 855 [.ref 0, .ref 5, .int (nI n), .int (if lw = true then 1 else 0)] (hp I L R dy) (RTq I L R dy 5 n (ptx tp t lw)) := by
  refine CC.of ok11_readText (Nat.le_of_ble_eq_true rfl) ?_
  refine g_iload_n d11_readText_0 rfl ?_
  refine g_bipushv (nI 6) d11_readText_1 rfl ?_
  refine g_ic_lt ((n : Nat) : Int) (6) 21 (nI_ti (by omega)) (by decide) d11_readText_3 rfl (fun _ => ?_) (fun c3 => absurd c3 (by omega))
  refine g_aload_n d11_readText_21 rfl ?_
  refine g_get fl11_36 d11_readText_22 f_0_4 ?_
  refine g_iload_n d11_readText_25 rfl ?_
  refine g_callV_1k (kc1 := 7) (ks1 := 855) (kc2 := 0) (ks2 := 0) (Nat.le_refl 7) (Nat.le_refl 855) vm4_read ml11_343 c_14 (r4_read tp t lw hTP (Nat.le_refl 79)) (by omega) (Nat.le_of_ble_eq_true rfl) d11_readText_26 (fun r h1 hx => ?_)
  obtain ⟨I1, hF, hx⟩ := hx
  generalize hz : ptx tp t lw = z at hx ⊢
  rcases z with e | cs
  · obtain ⟨rfl, rfl, h4⟩ := hx
    refine g_st [.null] rfl ?_
    refine g_nstore d11_readText_29 (by decide) ?_
    refine g_aload_n d11_readText_31 rfl ?_
    refine g_aload_n d11_readText_32 rfl ?_
    refine g_get fl11_36 d11_readText_33 f_0_4 ?_
    refine g_get fl11_347 d11_readText_36 f_14_4 ?_
    refine g_topI (nI (e)) (h4) ?_
    refine g_putIh _ fl11_100 d11_readText_39 f_0_15 s_0_15 ?_
    refine g_aload_n d11_readText_42 rfl ?_
    refine g_get fl11_27 d11_readText_43 f_0_3 ?_
    refine g_iconstv (nI 0) d11_readText_46 rfl ?_
    refine g_putIh _ fl11_145 d11_readText_47 f_12_1 s_12_1 ?_
    refine g_nload d11_readText_50 rfl ?_
    refine g_ifnonnullN d11_readText_52 ?_
    refine g_aload_n d11_readText_55 rfl ?_
    refine g_bipushv ((-6 : Int32)) d11_readText_56 rfl ?_
    refine g_EV1 vm11_refuse ml11_108 c_0 (r11_refuse_6 (I := uI (uI I1 0 15 (nI e)) 12 1 (nI 0)) (Nat.le_refl 0)) (by omega) (Nat.le_of_ble_eq_true rfl) d11_readText_58 ?_
    exact g_iret rfl d11_readText_61 (⟨_, (FRt.n hF).1, rfl, rfl, by rw [uI_sn (by decide), uI_n (by decide), uI_n (by decide), uI_ss], uI_ss, (FRt.n hF).2⟩)
  · obtain ⟨rfl, h4, fs, as, hal, rfl, hC⟩ := hx
    refine g_st [.ref (dy.length + 105)] rfl ?_
    refine g_astore d11_readText_29 (by decide) ?_
    refine g_aload_n d11_readText_31 rfl ?_
    refine g_aload_n d11_readText_32 rfl ?_
    refine g_get fl11_36 d11_readText_33 f_0_4 ?_
    refine g_get fl11_347 d11_readText_36 f_14_4 ?_
    refine g_topI ((-1 : Int32)) (h4) ?_
    refine g_putIh _ fl11_100 d11_readText_39 f_0_15 s_0_15 ?_
    refine g_aload_n d11_readText_42 rfl ?_
    refine g_get fl11_27 d11_readText_43 f_0_3 ?_
    refine g_iconstv (nI 0) d11_readText_46 rfl ?_
    refine g_putIh _ fl11_145 d11_readText_47 f_12_1 s_12_1 ?_
    refine g_aload d11_readText_50 rfl ?_
    refine g_ifnonnull 62 d11_readText_52 rfl ?_
    refine g_aload_n d11_readText_62 rfl ?_
    refine g_iload_n d11_readText_63 rfl ?_
    refine g_aload d11_readText_64 rfl ?_
    refine g_aastV (o := some (dy.length + 105)) n _ d11_readText_66 a_5 hn (by decide) (Or.inr ⟨dy.length, fs, rfl, hO_at⟩) t_5 ?_
    refine g_aload_n d11_readText_67 rfl ?_
    refine g_iload_n d11_readText_68 rfl ?_
    refine g_EV1 vm11_allow ml11_119 c_0 (r11_allow (Nat.le_refl 0)) (by omega) (Nat.le_of_ble_eq_true rfl) d11_readText_69 ?_
    exact g_iret rfl d11_readText_72 (⟨_, (FRt.y hF).1, rfl, by rw [uI_sn (by decide), uI_n (by decide), uI_ss], uI_ss, (FRt.y hF).2, fs, as, hal, rfl, hC⟩)
set_option maxHeartbeats 400000 in
theorem r11_law_f {l : Launch} {K : cK} {d : Nat} {I : wI} {L : wL} {R : wR} {dy : cH} (hn : I 1 3 = nI 6) (hd : 2 ≤ d) : CE l K m11_law d [.ref 0] (hp I L R dy) (.int (-5)) (hp (uI (uI (uI I 12 1 (nI 0)) 55 3 (I 55 3 + 1)) 0 14 (-5)) L R dy) := by
  refine CC.of ok11_law (Nat.le_of_ble_eq_true rfl) ?_
  refine g_aload_n d11_law_0 rfl ?_
  refine g_aload_n d11_law_1 rfl ?_
  refine g_get fl11_10 d11_law_2 f_0_0 ?_
  refine g_get fl11_158 d11_law_5 f_1_4 ?_
  refine g_aload_n d11_law_8 rfl ?_
  refine g_get fl11_10 d11_law_9 f_0_0 ?_
  refine g_get fl11_162 d11_law_12 f_1_3 ?_
  refine g_topI (nI (6)) (hn) ?_
  refine g_iconstv (nI 1) d11_law_15 rfl ?_
  refine g_EV3 vm11_readText ml11_165 c_0 (r11_rt4_f (Nat.le_refl 1)) (by omega) (Nat.le_of_ble_eq_true rfl) d11_law_16 ?_
  refine g_istore_n d11_law_19 (by decide) ?_
  refine g_iload_n d11_law_20 rfl ?_
  refine g_iz_lt (-5) 37 (by decide) d11_law_21 rfl (fun _ => ?_) (fun c21 => absurd c21 (by decide))
  refine g_iload_n d11_law_37 rfl ?_
  exact g_iret rfl d11_law_38 (⟨rfl, rfl⟩)
/-- what law leaves -/
def LWP (I : wI) (L : wL) (R : wR) (dy : cH) (n : Nat) (r : Nat ⊕ List Cl) (v : Option Value) (h : cH) : Prop := ∃ I2, FRt I I2 ∧ (match r with
  | .inl e => v = some (.int (-6)) ∧ h = hp I2 L R dy ∧ I2 0 15 = nI e ∧ I2 0 14 = -6 ∧ I2 55 = upd (I 55) 4 (I 55 4 + 1)
  | .inr cs => v = some (.int (nI n)) ∧ I2 0 15 = -1 ∧ I2 0 14 = 0 ∧ I2 55 = I 55 ∧ ∃ fs as, as.length = 6 ∧ h = hp (uI I2 1 3 (nI (n + 1))) L (uR R 4 n (some (dy.length + 105))) (hO dy 9 fs as) ∧ CTX (hO dy 9 fs as) (dy.length + 105) cs)
set_option maxHeartbeats 1000000 in
theorem r11_law {l : Launch} {K : cK} {d : Nat} {I : wI} {L : wL} {R : wR} {dy : cH} (tp : Nat → Nat) (t : Nat) (hTP : TPc I tp t) (n : Nat) (hI : I 1 3 = nI n) (hn : n < 6) (hd : 81 ≤ d) : CC l K m11_law d 7 855 [.ref 0] (hp I L R dy) (LWP I L R dy n (ptx tp t true)) := by
  refine CC.of ok11_law (Nat.le_of_ble_eq_true rfl) ?_
  refine g_aload_n d11_law_0 rfl ?_
  refine g_aload_n d11_law_1 rfl ?_
  refine g_get fl11_10 d11_law_2 f_0_0 ?_
  refine g_get fl11_158 d11_law_5 f_1_4 ?_
  refine g_aload_n d11_law_8 rfl ?_
  refine g_get fl11_10 d11_law_9 f_0_0 ?_
  refine g_get fl11_162 d11_law_12 f_1_3 ?_
  refine g_topI (nI (n)) (hI) ?_
  refine g_iconstv (nI 1) d11_law_15 rfl ?_
  refine g_topI (if true = true then 1 else 0) rfl ?_
  refine g_callV_3k (kc1 := 7) (ks1 := 855) (kc2 := 0) (ks2 := 0) (Nat.le_refl 7) (Nat.le_refl 855) vm11_readText ml11_165 c_0 (r11_rt4 tp t true hTP n hn (Nat.le_refl 80)) (by omega) (Nat.le_of_ble_eq_true rfl) d11_law_16 (fun r h1 hx => ?_)
  obtain ⟨I1, hF, hx⟩ := hx
  generalize hz : ptx tp t true = z at hx ⊢
  rcases z with e | cs
  · obtain ⟨rfl, rfl, h4⟩ := hx
    refine g_st [.int (-6)] rfl ?_
    refine g_istore_n d11_law_19 (by decide) ?_
    refine g_iload_n d11_law_20 rfl ?_
    refine g_iz_lt (-6) 37 (by decide) d11_law_21 rfl (fun _ => ?_) (fun c21 => absurd c21 (by decide))
    refine g_iload_n d11_law_37 rfl ?_
    exact g_iret rfl d11_law_38 (⟨I1, hF, rfl, rfl, h4⟩)
  · obtain ⟨rfl, h4, h5, h6, fs, as, hal, rfl, hC⟩ := hx
    have e1 : I1 1 3 = nI n := by rw [hF.1 1 (by decide) (by decide) (by omega)]; exact hI
    refine g_st [.int (nI n)] rfl ?_
    refine g_istore_n d11_law_19 (by decide) ?_
    refine g_iload_n d11_law_20 rfl ?_
    refine g_iz_lt ((n : Nat) : Int) 37 (nI_ti (by omega)) d11_law_21 rfl (fun c21 => absurd c21 (by omega)) (fun _ => ?_)
    refine g_aload_n d11_law_24 rfl ?_
    refine g_get fl11_10 d11_law_25 f_0_0 ?_
    refine g_dup d11_law_28 rfl ?_
    refine g_get fl11_162 d11_law_29 f_1_3 ?_
    refine g_topI (nI (n)) (e1) ?_
    refine g_iconstv (nI 1) d11_law_32 rfl ?_
    refine g_iaddN d11_law_33 ?_
    refine g_putIh _ fl11_162 d11_law_34 f_1_3 s_1_3 ?_
    refine g_iload_n d11_law_37 rfl ?_
    exact g_iret rfl d11_law_38 (⟨I1, hF, rfl, h4, h5, h6, fs, as, hal, rfl, hC⟩)
set_option maxHeartbeats 400000 in
theorem r11_habit_f {l : Launch} {K : cK} {d : Nat} {I : wI} {L : wL} {R : wR} {dy : cH} (hn : I 1 6 = nI 6) (hd : 2 ≤ d) : CE l K m11_habit d [.ref 0] (hp I L R dy) (.int (-5)) (hp (uI (uI (uI I 12 1 (nI 0)) 55 3 (I 55 3 + 1)) 0 14 (-5)) L R dy) := by
  refine CC.of ok11_habit (Nat.le_of_ble_eq_true rfl) ?_
  refine g_aload_n d11_habit_0 rfl ?_
  refine g_aload_n d11_habit_1 rfl ?_
  refine g_get fl11_10 d11_habit_2 f_0_0 ?_
  refine g_get fl11_169 d11_habit_5 f_1_7 ?_
  refine g_aload_n d11_habit_8 rfl ?_
  refine g_get fl11_10 d11_habit_9 f_0_0 ?_
  refine g_get fl11_172 d11_habit_12 f_1_6 ?_
  refine g_topI (nI (6)) (hn) ?_
  refine g_iconstv (nI 0) d11_habit_15 rfl ?_
  refine g_EV3 vm11_readText ml11_165 c_0 (r11_rt5_f (Nat.le_refl 1)) (by omega) (Nat.le_of_ble_eq_true rfl) d11_habit_16 ?_
  refine g_istore_n d11_habit_19 (by decide) ?_
  refine g_iload_n d11_habit_20 rfl ?_
  refine g_iz_lt (-5) 37 (by decide) d11_habit_21 rfl (fun _ => ?_) (fun c21 => absurd c21 (by decide))
  refine g_iload_n d11_habit_37 rfl ?_
  exact g_iret rfl d11_habit_38 (⟨rfl, rfl⟩)
/-- what habit leaves -/
def HBP (I : wI) (L : wL) (R : wR) (dy : cH) (n : Nat) (r : Nat ⊕ List Cl) (v : Option Value) (h : cH) : Prop := ∃ I2, FRt I I2 ∧ (match r with
  | .inl e => v = some (.int (-6)) ∧ h = hp I2 L R dy ∧ I2 0 15 = nI e ∧ I2 0 14 = -6 ∧ I2 55 = upd (I 55) 4 (I 55 4 + 1)
  | .inr cs => v = some (.int (nI n)) ∧ I2 0 15 = -1 ∧ I2 0 14 = 0 ∧ I2 55 = I 55 ∧ ∃ fs as, as.length = 6 ∧ h = hp (uI I2 1 6 (nI (n + 1))) L (uR R 5 n (some (dy.length + 105))) (hO dy 9 fs as) ∧ CTX (hO dy 9 fs as) (dy.length + 105) cs)
set_option maxHeartbeats 1000000 in
theorem r11_habit {l : Launch} {K : cK} {d : Nat} {I : wI} {L : wL} {R : wR} {dy : cH} (tp : Nat → Nat) (t : Nat) (hTP : TPc I tp t) (n : Nat) (hI : I 1 6 = nI n) (hn : n < 6) (hd : 81 ≤ d) : CC l K m11_habit d 7 855 [.ref 0] (hp I L R dy) (HBP I L R dy n (ptx tp t false)) := by
  refine CC.of ok11_habit (Nat.le_of_ble_eq_true rfl) ?_
  refine g_aload_n d11_habit_0 rfl ?_
  refine g_aload_n d11_habit_1 rfl ?_
  refine g_get fl11_10 d11_habit_2 f_0_0 ?_
  refine g_get fl11_169 d11_habit_5 f_1_7 ?_
  refine g_aload_n d11_habit_8 rfl ?_
  refine g_get fl11_10 d11_habit_9 f_0_0 ?_
  refine g_get fl11_172 d11_habit_12 f_1_6 ?_
  refine g_topI (nI (n)) (hI) ?_
  refine g_iconstv (nI 0) d11_habit_15 rfl ?_
  refine g_topI (if false = true then 1 else 0) rfl ?_
  refine g_callV_3k (kc1 := 7) (ks1 := 855) (kc2 := 0) (ks2 := 0) (Nat.le_refl 7) (Nat.le_refl 855) vm11_readText ml11_165 c_0 (r11_rt5 tp t false hTP n hn (Nat.le_refl 80)) (by omega) (Nat.le_of_ble_eq_true rfl) d11_habit_16 (fun r h1 hx => ?_)
  obtain ⟨I1, hF, hx⟩ := hx
  generalize hz : ptx tp t false = z at hx ⊢
  rcases z with e | cs
  · obtain ⟨rfl, rfl, h4⟩ := hx
    refine g_st [.int (-6)] rfl ?_
    refine g_istore_n d11_habit_19 (by decide) ?_
    refine g_iload_n d11_habit_20 rfl ?_
    refine g_iz_lt (-6) 37 (by decide) d11_habit_21 rfl (fun _ => ?_) (fun c21 => absurd c21 (by decide))
    refine g_iload_n d11_habit_37 rfl ?_
    exact g_iret rfl d11_habit_38 (⟨I1, hF, rfl, rfl, h4⟩)
  · obtain ⟨rfl, h4, h5, h6, fs, as, hal, rfl, hC⟩ := hx
    have e1 : I1 1 6 = nI n := by rw [hF.1 1 (by decide) (by decide) (by omega)]; exact hI
    refine g_st [.int (nI n)] rfl ?_
    refine g_istore_n d11_habit_19 (by decide) ?_
    refine g_iload_n d11_habit_20 rfl ?_
    refine g_iz_lt ((n : Nat) : Int) 37 (nI_ti (by omega)) d11_habit_21 rfl (fun c21 => absurd c21 (by omega)) (fun _ => ?_)
    refine g_aload_n d11_habit_24 rfl ?_
    refine g_get fl11_10 d11_habit_25 f_0_0 ?_
    refine g_dup d11_habit_28 rfl ?_
    refine g_get fl11_172 d11_habit_29 f_1_6 ?_
    refine g_topI (nI (n)) (e1) ?_
    refine g_iconstv (nI 1) d11_habit_32 rfl ?_
    refine g_iaddN d11_habit_33 ?_
    refine g_putIh _ fl11_172 d11_habit_34 f_1_6 s_1_6 ?_
    refine g_iload_n d11_habit_37 rfl ?_
    exact g_iret rfl d11_habit_38 (⟨I1, hF, rfl, h4, h5, h6, fs, as, hal, rfl, hC⟩)
