set_option maxHeartbeats 200000 in
theorem r8_isWord {l : Launch} {K : cK} {d : Nat} {I : wI} {L : wL} {R : wR} {dy : cH} (tp : Nat → Nat) (t : Nat) (hTP : TPc I tp t) (f : Nat) (hK : TKc I tp t f) (i : Nat) (hi : i < 8) (hw : wrd tp t f i = none ∨ wrd tp t f i = some 0) (hd : 6 ≤ d) : CE l K m8_isWord d [.ref 12, .retAddr (8 + i)] (hp I L R dy) (.int (if wrd tp t f i = some 0 then 1 else 0)) (hp I L R dy) := by
  refine CC.of ok8_isWord (Nat.le_of_ble_eq_true rfl) ?_
  rcases hw with hw | hw
  · skip
    refine g_aload_n d8_isWord_0 rfl ?_
    refine g_sload_n d8_isWord_1 rfl ?_
    refine g_EV1 vm8_wordIn ml8_45 c_12 (r8_wordIn tp t hTP f hK i hi (Nat.le_refl 5)) (by omega) (Nat.le_of_ble_eq_true rfl) d8_isWord_2 ?_
    refine g_topI ((-1 : Int32)) (by rw [hw]; rfl) ?_
    refine g_iz_ne (-1) 12 (by decide) d8_isWord_5 rfl (fun _ => ?_) (fun c5 => absurd c5 (by decide))
    refine g_iconstv (nI 0) d8_isWord_12 rfl ?_
    exact g_zret rfl (by decide) d8_isWord_13 (⟨by rw [hw]; rfl, rfl⟩)
  · skip
    refine g_aload_n d8_isWord_0 rfl ?_
    refine g_sload_n d8_isWord_1 rfl ?_
    refine g_EV1 vm8_wordIn ml8_45 c_12 (r8_wordIn tp t hTP f hK i hi (Nat.le_refl 5)) (by omega) (Nat.le_of_ble_eq_true rfl) d8_isWord_2 ?_
    refine g_topI (nI 0) (by rw [hw]; rfl) ?_
    refine g_iz_ne (0) 12 (by decide) d8_isWord_5 rfl (fun c5 => absurd c5 (by decide)) (fun _ => ?_)
    refine g_iconstv (nI 1) d8_isWord_8 rfl ?_
    refine g_goto 13 d8_isWord_9 rfl ?_
    exact g_zret rfl (by decide) d8_isWord_13 (⟨by rw [hw]; rfl, rfl⟩)
def sgI (x y z s : Nat) : Int32 := if s = x then nI x else if s = y then nI y else if s = z then nI z else -1
set_option maxHeartbeats 200000 in
theorem r4_sign {l : Launch} {K : cK} {d : Nat} {I : wI} {L : wL} {R : wR} {dy : cH} (tp : Nat → Nat) (t : Nat) (hTP : TPc I tp t) (f : Nat) (hK : TKc I tp t f) (x y z : Nat) (hx : 0 < x ∧ x < 256) (hy : 0 < y ∧ y < 256) (hz : 0 < z ∧ z < 256) (hd : 1 ≤ d) : CE l K m4_signAmong d [.ref 14, .int (nI x), .int (nI y), .int (nI z)] (hp I L R dy) (.int (sgI x y z (sg tp t f))) (hp I L R dy) := by
  refine CC.of ok4_signAmong (Nat.le_of_ble_eq_true rfl) ?_
  by_cases e1 : sg tp t f = x
  · skip
    refine g_aload_n d4_signAmong_0 rfl ?_
    refine g_get fl4_30 d4_signAmong_1 f_14_0 ?_
    refine g_iload_n d4_signAmong_4 rfl ?_
    refine g_EV1 vm8_isSign ml4_71 c_12 (r8_isSign tp t hTP f hK x hx.2 hx.1 (Nat.le_refl 0)) (by omega) (Nat.le_of_ble_eq_true rfl) d4_signAmong_5 ?_
    refine g_bz 13 d4_signAmong_8 rfl (fun c8 => absurd c8 (fun q => q e1)) (fun _ => ?_)
    refine g_iload_n d4_signAmong_11 rfl ?_
    exact g_iret rfl d4_signAmong_12 (⟨by unfold sgI; rw [if_pos e1], rfl⟩)
  · by_cases e2 : sg tp t f = y
    · skip
      refine g_aload_n d4_signAmong_0 rfl ?_
      refine g_get fl4_30 d4_signAmong_1 f_14_0 ?_
      refine g_iload_n d4_signAmong_4 rfl ?_
      refine g_EV1 vm8_isSign ml4_71 c_12 (r8_isSign tp t hTP f hK x hx.2 hx.1 (Nat.le_refl 0)) (by omega) (Nat.le_of_ble_eq_true rfl) d4_signAmong_5 ?_
      refine g_bz 13 d4_signAmong_8 rfl (fun _ => ?_) (fun c8 => absurd c8 (e1))
      refine g_aload_n d4_signAmong_13 rfl ?_
      refine g_get fl4_30 d4_signAmong_14 f_14_0 ?_
      refine g_iload_n d4_signAmong_17 rfl ?_
      refine g_EV1 vm8_isSign ml4_71 c_12 (r8_isSign tp t hTP f hK y hy.2 hy.1 (Nat.le_refl 0)) (by omega) (Nat.le_of_ble_eq_true rfl) d4_signAmong_18 ?_
      refine g_bz 26 d4_signAmong_21 rfl (fun c21 => absurd c21 (fun q => q e2)) (fun _ => ?_)
      refine g_iload_n d4_signAmong_24 rfl ?_
      exact g_iret rfl d4_signAmong_25 (⟨by unfold sgI; rw [if_neg e1, if_pos e2], rfl⟩)
    · by_cases e3 : sg tp t f = z
      · skip
        refine g_aload_n d4_signAmong_0 rfl ?_
        refine g_get fl4_30 d4_signAmong_1 f_14_0 ?_
        refine g_iload_n d4_signAmong_4 rfl ?_
        refine g_EV1 vm8_isSign ml4_71 c_12 (r8_isSign tp t hTP f hK x hx.2 hx.1 (Nat.le_refl 0)) (by omega) (Nat.le_of_ble_eq_true rfl) d4_signAmong_5 ?_
        refine g_bz 13 d4_signAmong_8 rfl (fun _ => ?_) (fun c8 => absurd c8 (e1))
        refine g_aload_n d4_signAmong_13 rfl ?_
        refine g_get fl4_30 d4_signAmong_14 f_14_0 ?_
        refine g_iload_n d4_signAmong_17 rfl ?_
        refine g_EV1 vm8_isSign ml4_71 c_12 (r8_isSign tp t hTP f hK y hy.2 hy.1 (Nat.le_refl 0)) (by omega) (Nat.le_of_ble_eq_true rfl) d4_signAmong_18 ?_
        refine g_bz 26 d4_signAmong_21 rfl (fun _ => ?_) (fun c21 => absurd c21 (e2))
        refine g_aload_n d4_signAmong_26 rfl ?_
        refine g_get fl4_30 d4_signAmong_27 f_14_0 ?_
        refine g_iload_n d4_signAmong_30 rfl ?_
        refine g_EV1 vm8_isSign ml4_71 c_12 (r8_isSign tp t hTP f hK z hz.2 hz.1 (Nat.le_refl 0)) (by omega) (Nat.le_of_ble_eq_true rfl) d4_signAmong_31 ?_
        refine g_bz 41 d4_signAmong_34 rfl (fun c34 => absurd c34 (fun q => q e3)) (fun _ => ?_)
        refine g_iload_n d4_signAmong_37 rfl ?_
        refine g_goto 42 d4_signAmong_38 rfl ?_
        exact g_iret rfl d4_signAmong_42 (⟨by unfold sgI; rw [if_neg e1, if_neg e2, if_pos e3], rfl⟩)
      · skip
        refine g_aload_n d4_signAmong_0 rfl ?_
        refine g_get fl4_30 d4_signAmong_1 f_14_0 ?_
        refine g_iload_n d4_signAmong_4 rfl ?_
        refine g_EV1 vm8_isSign ml4_71 c_12 (r8_isSign tp t hTP f hK x hx.2 hx.1 (Nat.le_refl 0)) (by omega) (Nat.le_of_ble_eq_true rfl) d4_signAmong_5 ?_
        refine g_bz 13 d4_signAmong_8 rfl (fun _ => ?_) (fun c8 => absurd c8 (e1))
        refine g_aload_n d4_signAmong_13 rfl ?_
        refine g_get fl4_30 d4_signAmong_14 f_14_0 ?_
        refine g_iload_n d4_signAmong_17 rfl ?_
        refine g_EV1 vm8_isSign ml4_71 c_12 (r8_isSign tp t hTP f hK y hy.2 hy.1 (Nat.le_refl 0)) (by omega) (Nat.le_of_ble_eq_true rfl) d4_signAmong_18 ?_
        refine g_bz 26 d4_signAmong_21 rfl (fun _ => ?_) (fun c21 => absurd c21 (e2))
        refine g_aload_n d4_signAmong_26 rfl ?_
        refine g_get fl4_30 d4_signAmong_27 f_14_0 ?_
        refine g_iload_n d4_signAmong_30 rfl ?_
        refine g_EV1 vm8_isSign ml4_71 c_12 (r8_isSign tp t hTP f hK z hz.2 hz.1 (Nat.le_refl 0)) (by omega) (Nat.le_of_ble_eq_true rfl) d4_signAmong_31 ?_
        refine g_bz 41 d4_signAmong_34 rfl (fun _ => ?_) (fun c34 => absurd c34 (e3))
        refine g_iconstv ((-1 : Int32)) d4_signAmong_41 rfl ?_
        exact g_iret rfl d4_signAmong_42 (⟨by unfold sgI; rw [if_neg e1, if_neg e2, if_neg e3], rfl⟩)
set_option maxHeartbeats 200000 in
theorem r4_add {l : Launch} {K : cK} {d : Nat} {I : wI} {L : wL} {R : wR} {dy : cH} (b : Nat) (hb : I 14 10 = nI b) (hb4 : b < 400) (s w : Int32) (hd : 1 ≤ d) : CE l K m4_add d [.ref 14, .int s, .int w] (hp I L R dy) (.int (nI b)) (hp (uI (uI (uI I 19 b s) 20 b w) 14 10 (nI (b + 1))) L R dy) := by
  refine CC.of ok4_add (Nat.le_of_ble_eq_true rfl) ?_
  refine g_aload_n d4_add_0 rfl ?_
  refine g_get fl4_51 d4_add_1 f_14_10 ?_
  refine g_topI (nI (b)) (hb) ?_
  refine g_sipushv (nI 399) d4_add_4 rfl ?_
  refine g_min ml4_144 (by omega) (Nat.le_of_ble_eq_true rfl) d4_add_7 ?_
  refine g_topI (nI (b)) (by rw [nI_mn (a := b) (b := 399) (by omega) (by decide), Nat.min_eq_left (by omega)]) ?_
  refine g_istore_n d4_add_10 (by decide) ?_
  refine g_aload_n d4_add_11 rfl ?_
  refine g_get fl4_24 d4_add_12 f_14_11 ?_
  refine g_iload_n d4_add_15 rfl ?_
  refine g_iload_n d4_add_16 rfl ?_
  refine g_iastN (b) _ d4_add_17 a_19 (rfl) (by omega) (by decide) t_19 ?_
  refine g_aload_n d4_add_18 rfl ?_
  refine g_get fl4_27 d4_add_19 f_14_12 ?_
  refine g_iload_n d4_add_22 rfl ?_
  refine g_iload_n d4_add_23 rfl ?_
  refine g_iastN (b) _ d4_add_24 a_20 (rfl) (by omega) (by decide) t_20 ?_
  refine g_aload_n d4_add_25 rfl ?_
  refine g_iload_n d4_add_26 rfl ?_
  refine g_iconstv (nI 1) d4_add_27 rfl ?_
  refine g_iaddN d4_add_28 ?_
  refine g_putIh _ fl4_51 d4_add_29 f_14_10 s_14_10 ?_
  refine g_iload_n d4_add_32 rfl ?_
  exact g_iret rfl d4_add_33 (⟨rfl, rfl⟩)
set_option maxHeartbeats 200000 in
theorem r4_wrong {l : Launch} {K : cK} {d : Nat} {I : wI} {L : wL} {R : wR} {dy : cH} (f : Nat) (hf : I 12 2 = nI f) (hd : 0 ≤ d) : CE l K m4_wrong d [.ref 14] (hp I L R dy) (.int 0) (hp (uI I 14 4 (nI f)) L R dy) := by
  refine CC.of ok4_wrong (Nat.le_of_ble_eq_true rfl) ?_
  refine g_aload_n d4_wrong_0 rfl ?_
  refine g_aload_n d4_wrong_1 rfl ?_
  refine g_get fl4_30 d4_wrong_2 f_14_0 ?_
  refine g_get fl4_81 d4_wrong_5 f_12_2 ?_
  refine g_topI (nI (f)) (hf) ?_
  refine g_putIh _ fl4_45 d4_wrong_8 f_14_4 s_14_4 ?_
  refine g_iconstv (nI 0) d4_wrong_11 rfl ?_
  exact g_zret rfl (by decide) d4_wrong_12 (⟨rfl, rfl⟩)
