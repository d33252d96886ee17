set_option maxHeartbeats 200000 in
theorem r11_refuse_1 {l : Launch} {K : cK} {d : Nat} {I : wI} {L : wL} {R : wR} {dy : cH}  (hd : 0 ≤ d) : CE l K m11_refuse d [.ref 0, .int (-1)] (hp I L R dy) (.int (-1)) (hp (uI (uI (I) 55 0 (I 55 0 + 1)) 0 14 (-1)) L R dy) := by
  refine CC.of ok11_refuse (Nat.le_of_ble_eq_true rfl) ?_
  refine g_iconstv (nI 0) d11_refuse_0 rfl ?_
  refine g_istore_n d11_refuse_1 (by decide) ?_
  refine g_iload_n d11_refuse_2 rfl ?_
  refine g_gets (j := 1) rfl fs11_93 d11_refuse_3 ?_
  refine g_alS (j := 1) rfl d11_refuse_6 ?_
  refine g_topI (nI 5) rfl ?_
  refine g_ic_ge (0) (5) 35 (by decide) (by decide) d11_refuse_7 rfl (fun c7 => absurd c7 (by decide)) (fun _ => ?_)
  refine g_gets (j := 1) rfl fs11_93 d11_refuse_10 ?_
  refine g_iload_n d11_refuse_13 rfl ?_
  refine g_iaSN (0) rfl (rfl) (by omega) (by decide) d11_refuse_14 ?_
  refine g_topI ((-1 : Int32)) rfl ?_
  refine g_iload_n d11_refuse_15 rfl ?_
  refine g_ic_ne (-1) (-1) 29 (by decide) (by decide) d11_refuse_16 rfl (fun c16 => absurd c16 (by decide)) (fun _ => ?_)
  refine g_aload_n d11_refuse_19 rfl ?_
  refine g_get fl11_97 d11_refuse_20 f_0_13 ?_
  refine g_iload_n d11_refuse_23 rfl ?_
  refine g_dup2 d11_refuse_24 rfl rfl ?_
  refine g_ialdN (0) d11_refuse_25 a_55 (rfl) (by omega) (by decide) ?_
  refine g_iconstv (nI 1) d11_refuse_26 rfl ?_
  refine g_iadd d11_refuse_27 ?_
  refine g_iastN (0) _ d11_refuse_28 a_55 (rfl) (by omega) (by decide) t_55 ?_
  refine g_iinc (nI 1) d11_refuse_29 rfl (by decide) (by decide) ?_
  refine g_goto 2 d11_refuse_32 rfl ?_
  refine g_iload_n d11_refuse_2 rfl ?_
  refine g_gets (j := 1) rfl fs11_93 d11_refuse_3 ?_
  refine g_alS (j := 1) rfl d11_refuse_6 ?_
  refine g_topI (nI 5) rfl ?_
  refine g_ic_ge (1) (5) 35 (by decide) (by decide) d11_refuse_7 rfl (fun c7 => absurd c7 (by decide)) (fun _ => ?_)
  refine g_gets (j := 1) rfl fs11_93 d11_refuse_10 ?_
  refine g_iload_n d11_refuse_13 rfl ?_
  refine g_iaSN (1) rfl (rfl) (by omega) (by decide) d11_refuse_14 ?_
  refine g_topI ((-2 : Int32)) rfl ?_
  refine g_iload_n d11_refuse_15 rfl ?_
  refine g_ic_ne (-2) (-1) 29 (by decide) (by decide) d11_refuse_16 rfl (fun _ => ?_) (fun c16 => absurd c16 (by decide))
  refine g_iinc (nI 2) d11_refuse_29 rfl (by decide) (by decide) ?_
  refine g_goto 2 d11_refuse_32 rfl ?_
  refine g_iload_n d11_refuse_2 rfl ?_
  refine g_gets (j := 1) rfl fs11_93 d11_refuse_3 ?_
  refine g_alS (j := 1) rfl d11_refuse_6 ?_
  refine g_topI (nI 5) rfl ?_
  refine g_ic_ge (2) (5) 35 (by decide) (by decide) d11_refuse_7 rfl (fun c7 => absurd c7 (by decide)) (fun _ => ?_)
  refine g_gets (j := 1) rfl fs11_93 d11_refuse_10 ?_
  refine g_iload_n d11_refuse_13 rfl ?_
  refine g_iaSN (2) rfl (rfl) (by omega) (by decide) d11_refuse_14 ?_
  refine g_topI ((-3 : Int32)) rfl ?_
  refine g_iload_n d11_refuse_15 rfl ?_
  refine g_ic_ne (-3) (-1) 29 (by decide) (by decide) d11_refuse_16 rfl (fun _ => ?_) (fun c16 => absurd c16 (by decide))
  refine g_iinc (nI 3) d11_refuse_29 rfl (by decide) (by decide) ?_
  refine g_goto 2 d11_refuse_32 rfl ?_
  refine g_iload_n d11_refuse_2 rfl ?_
  refine g_gets (j := 1) rfl fs11_93 d11_refuse_3 ?_
  refine g_alS (j := 1) rfl d11_refuse_6 ?_
  refine g_topI (nI 5) rfl ?_
  refine g_ic_ge (3) (5) 35 (by decide) (by decide) d11_refuse_7 rfl (fun c7 => absurd c7 (by decide)) (fun _ => ?_)
  refine g_gets (j := 1) rfl fs11_93 d11_refuse_10 ?_
  refine g_iload_n d11_refuse_13 rfl ?_
  refine g_iaSN (3) rfl (rfl) (by omega) (by decide) d11_refuse_14 ?_
  refine g_topI ((-5 : Int32)) rfl ?_
  refine g_iload_n d11_refuse_15 rfl ?_
  refine g_ic_ne (-5) (-1) 29 (by decide) (by decide) d11_refuse_16 rfl (fun _ => ?_) (fun c16 => absurd c16 (by decide))
  refine g_iinc (nI 4) d11_refuse_29 rfl (by decide) (by decide) ?_
  refine g_goto 2 d11_refuse_32 rfl ?_
  refine g_iload_n d11_refuse_2 rfl ?_
  refine g_gets (j := 1) rfl fs11_93 d11_refuse_3 ?_
  refine g_alS (j := 1) rfl d11_refuse_6 ?_
  refine g_topI (nI 5) rfl ?_
  refine g_ic_ge (4) (5) 35 (by decide) (by decide) d11_refuse_7 rfl (fun c7 => absurd c7 (by decide)) (fun _ => ?_)
  refine g_gets (j := 1) rfl fs11_93 d11_refuse_10 ?_
  refine g_iload_n d11_refuse_13 rfl ?_
  refine g_iaSN (4) rfl (rfl) (by omega) (by decide) d11_refuse_14 ?_
  refine g_topI ((-6 : Int32)) rfl ?_
  refine g_iload_n d11_refuse_15 rfl ?_
  refine g_ic_ne (-6) (-1) 29 (by decide) (by decide) d11_refuse_16 rfl (fun _ => ?_) (fun c16 => absurd c16 (by decide))
  refine g_iinc (nI 5) d11_refuse_29 rfl (by decide) (by decide) ?_
  refine g_goto 2 d11_refuse_32 rfl ?_
  refine g_iload_n d11_refuse_2 rfl ?_
  refine g_gets (j := 1) rfl fs11_93 d11_refuse_3 ?_
  refine g_alS (j := 1) rfl d11_refuse_6 ?_
  refine g_topI (nI 5) rfl ?_
  refine g_ic_ge (5) (5) 35 (by decide) (by decide) d11_refuse_7 rfl (fun _ => ?_) (fun c7 => absurd c7 (by decide))
  refine g_aload_n d11_refuse_35 rfl ?_
  refine g_iload_n d11_refuse_36 rfl ?_
  refine g_putIh _ fl11_337 d11_refuse_37 f_0_14 s_0_14 ?_
  refine g_iload_n d11_refuse_40 rfl ?_
  exact g_iret rfl d11_refuse_41 (⟨rfl, rfl⟩)
set_option maxHeartbeats 200000 in
theorem r11_refuse_2 {l : Launch} {K : cK} {d : Nat} {I : wI} {L : wL} {R : wR} {dy : cH}  (hd : 0 ≤ d) : CE l K m11_refuse d [.ref 0, .int (-2)] (hp I L R dy) (.int (-2)) (hp (uI (uI (I) 55 1 (I 55 1 + 1)) 0 14 (-2)) L R dy) := by
  refine CC.of ok11_refuse (Nat.le_of_ble_eq_true rfl) ?_
  refine g_iconstv (nI 0) d11_refuse_0 rfl ?_
  refine g_istore_n d11_refuse_1 (by decide) ?_
  refine g_iload_n d11_refuse_2 rfl ?_
  refine g_gets (j := 1) rfl fs11_93 d11_refuse_3 ?_
  refine g_alS (j := 1) rfl d11_refuse_6 ?_
  refine g_topI (nI 5) rfl ?_
  refine g_ic_ge (0) (5) 35 (by decide) (by decide) d11_refuse_7 rfl (fun c7 => absurd c7 (by decide)) (fun _ => ?_)
  refine g_gets (j := 1) rfl fs11_93 d11_refuse_10 ?_
  refine g_iload_n d11_refuse_13 rfl ?_
  refine g_iaSN (0) rfl (rfl) (by omega) (by decide) d11_refuse_14 ?_
  refine g_topI ((-1 : Int32)) rfl ?_
  refine g_iload_n d11_refuse_15 rfl ?_
  refine g_ic_ne (-1) (-2) 29 (by decide) (by decide) d11_refuse_16 rfl (fun _ => ?_) (fun c16 => absurd c16 (by decide))
  refine g_iinc (nI 1) d11_refuse_29 rfl (by decide) (by decide) ?_
  refine g_goto 2 d11_refuse_32 rfl ?_
  refine g_iload_n d11_refuse_2 rfl ?_
  refine g_gets (j := 1) rfl fs11_93 d11_refuse_3 ?_
  refine g_alS (j := 1) rfl d11_refuse_6 ?_
  refine g_topI (nI 5) rfl ?_
  refine g_ic_ge (1) (5) 35 (by decide) (by decide) d11_refuse_7 rfl (fun c7 => absurd c7 (by decide)) (fun _ => ?_)
  refine g_gets (j := 1) rfl fs11_93 d11_refuse_10 ?_
  refine g_iload_n d11_refuse_13 rfl ?_
  refine g_iaSN (1) rfl (rfl) (by omega) (by decide) d11_refuse_14 ?_
  refine g_topI ((-2 : Int32)) rfl ?_
  refine g_iload_n d11_refuse_15 rfl ?_
  refine g_ic_ne (-2) (-2) 29 (by decide) (by decide) d11_refuse_16 rfl (fun c16 => absurd c16 (by decide)) (fun _ => ?_)
  refine g_aload_n d11_refuse_19 rfl ?_
  refine g_get fl11_97 d11_refuse_20 f_0_13 ?_
  refine g_iload_n d11_refuse_23 rfl ?_
  refine g_dup2 d11_refuse_24 rfl rfl ?_
  refine g_ialdN (1) d11_refuse_25 a_55 (rfl) (by omega) (by decide) ?_
  refine g_iconstv (nI 1) d11_refuse_26 rfl ?_
  refine g_iadd d11_refuse_27 ?_
  refine g_iastN (1) _ d11_refuse_28 a_55 (rfl) (by omega) (by decide) t_55 ?_
  refine g_iinc (nI 2) d11_refuse_29 rfl (by decide) (by decide) ?_
  refine g_goto 2 d11_refuse_32 rfl ?_
  refine g_iload_n d11_refuse_2 rfl ?_
  refine g_gets (j := 1) rfl fs11_93 d11_refuse_3 ?_
  refine g_alS (j := 1) rfl d11_refuse_6 ?_
  refine g_topI (nI 5) rfl ?_
  refine g_ic_ge (2) (5) 35 (by decide) (by decide) d11_refuse_7 rfl (fun c7 => absurd c7 (by decide)) (fun _ => ?_)
  refine g_gets (j := 1) rfl fs11_93 d11_refuse_10 ?_
  refine g_iload_n d11_refuse_13 rfl ?_
  refine g_iaSN (2) rfl (rfl) (by omega) (by decide) d11_refuse_14 ?_
  refine g_topI ((-3 : Int32)) rfl ?_
  refine g_iload_n d11_refuse_15 rfl ?_
  refine g_ic_ne (-3) (-2) 29 (by decide) (by decide) d11_refuse_16 rfl (fun _ => ?_) (fun c16 => absurd c16 (by decide))
  refine g_iinc (nI 3) d11_refuse_29 rfl (by decide) (by decide) ?_
  refine g_goto 2 d11_refuse_32 rfl ?_
  refine g_iload_n d11_refuse_2 rfl ?_
  refine g_gets (j := 1) rfl fs11_93 d11_refuse_3 ?_
  refine g_alS (j := 1) rfl d11_refuse_6 ?_
  refine g_topI (nI 5) rfl ?_
  refine g_ic_ge (3) (5) 35 (by decide) (by decide) d11_refuse_7 rfl (fun c7 => absurd c7 (by decide)) (fun _ => ?_)
  refine g_gets (j := 1) rfl fs11_93 d11_refuse_10 ?_
  refine g_iload_n d11_refuse_13 rfl ?_
  refine g_iaSN (3) rfl (rfl) (by omega) (by decide) d11_refuse_14 ?_
  refine g_topI ((-5 : Int32)) rfl ?_
  refine g_iload_n d11_refuse_15 rfl ?_
  refine g_ic_ne (-5) (-2) 29 (by decide) (by decide) d11_refuse_16 rfl (fun _ => ?_) (fun c16 => absurd c16 (by decide))
  refine g_iinc (nI 4) d11_refuse_29 rfl (by decide) (by decide) ?_
  refine g_goto 2 d11_refuse_32 rfl ?_
  refine g_iload_n d11_refuse_2 rfl ?_
  refine g_gets (j := 1) rfl fs11_93 d11_refuse_3 ?_
  refine g_alS (j := 1) rfl d11_refuse_6 ?_
  refine g_topI (nI 5) rfl ?_
  refine g_ic_ge (4) (5) 35 (by decide) (by decide) d11_refuse_7 rfl (fun c7 => absurd c7 (by decide)) (fun _ => ?_)
  refine g_gets (j := 1) rfl fs11_93 d11_refuse_10 ?_
  refine g_iload_n d11_refuse_13 rfl ?_
  refine g_iaSN (4) rfl (rfl) (by omega) (by decide) d11_refuse_14 ?_
  refine g_topI ((-6 : Int32)) rfl ?_
  refine g_iload_n d11_refuse_15 rfl ?_
  refine g_ic_ne (-6) (-2) 29 (by decide) (by decide) d11_refuse_16 rfl (fun _ => ?_) (fun c16 => absurd c16 (by decide))
  refine g_iinc (nI 5) d11_refuse_29 rfl (by decide) (by decide) ?_
  refine g_goto 2 d11_refuse_32 rfl ?_
  refine g_iload_n d11_refuse_2 rfl ?_
  refine g_gets (j := 1) rfl fs11_93 d11_refuse_3 ?_
  refine g_alS (j := 1) rfl d11_refuse_6 ?_
  refine g_topI (nI 5) rfl ?_
  refine g_ic_ge (5) (5) 35 (by decide) (by decide) d11_refuse_7 rfl (fun _ => ?_) (fun c7 => absurd c7 (by decide))
  refine g_aload_n d11_refuse_35 rfl ?_
  refine g_iload_n d11_refuse_36 rfl ?_
  refine g_putIh _ fl11_337 d11_refuse_37 f_0_14 s_0_14 ?_
  refine g_iload_n d11_refuse_40 rfl ?_
  exact g_iret rfl d11_refuse_41 (⟨rfl, rfl⟩)
set_option maxHeartbeats 200000 in
theorem r11_refuse_3 {l : Launch} {K : cK} {d : Nat} {I : wI} {L : wL} {R : wR} {dy : cH}  (hd : 0 ≤ d) : CE l K m11_refuse d [.ref 0, .int (-3)] (hp I L R dy) (.int (-3)) (hp (uI (uI (I) 55 2 (I 55 2 + 1)) 0 14 (-3)) L R dy) := by
  refine CC.of ok11_refuse (Nat.le_of_ble_eq_true rfl) ?_
  refine g_iconstv (nI 0) d11_refuse_0 rfl ?_
  refine g_istore_n d11_refuse_1 (by decide) ?_
  refine g_iload_n d11_refuse_2 rfl ?_
  refine g_gets (j := 1) rfl fs11_93 d11_refuse_3 ?_
  refine g_alS (j := 1) rfl d11_refuse_6 ?_
  refine g_topI (nI 5) rfl ?_
  refine g_ic_ge (0) (5) 35 (by decide) (by decide) d11_refuse_7 rfl (fun c7 => absurd c7 (by decide)) (fun _ => ?_)
  refine g_gets (j := 1) rfl fs11_93 d11_refuse_10 ?_
  refine g_iload_n d11_refuse_13 rfl ?_
  refine g_iaSN (0) rfl (rfl) (by omega) (by decide) d11_refuse_14 ?_
  refine g_topI ((-1 : Int32)) rfl ?_
  refine g_iload_n d11_refuse_15 rfl ?_
  refine g_ic_ne (-1) (-3) 29 (by decide) (by decide) d11_refuse_16 rfl (fun _ => ?_) (fun c16 => absurd c16 (by decide))
  refine g_iinc (nI 1) d11_refuse_29 rfl (by decide) (by decide) ?_
  refine g_goto 2 d11_refuse_32 rfl ?_
  refine g_iload_n d11_refuse_2 rfl ?_
  refine g_gets (j := 1) rfl fs11_93 d11_refuse_3 ?_
  refine g_alS (j := 1) rfl d11_refuse_6 ?_
  refine g_topI (nI 5) rfl ?_
  refine g_ic_ge (1) (5) 35 (by decide) (by decide) d11_refuse_7 rfl (fun c7 => absurd c7 (by decide)) (fun _ => ?_)
  refine g_gets (j := 1) rfl fs11_93 d11_refuse_10 ?_
  refine g_iload_n d11_refuse_13 rfl ?_
  refine g_iaSN (1) rfl (rfl) (by omega) (by decide) d11_refuse_14 ?_
  refine g_topI ((-2 : Int32)) rfl ?_
  refine g_iload_n d11_refuse_15 rfl ?_
  refine g_ic_ne (-2) (-3) 29 (by decide) (by decide) d11_refuse_16 rfl (fun _ => ?_) (fun c16 => absurd c16 (by decide))
  refine g_iinc (nI 2) d11_refuse_29 rfl (by decide) (by decide) ?_
  refine g_goto 2 d11_refuse_32 rfl ?_
  refine g_iload_n d11_refuse_2 rfl ?_
  refine g_gets (j := 1) rfl fs11_93 d11_refuse_3 ?_
  refine g_alS (j := 1) rfl d11_refuse_6 ?_
  refine g_topI (nI 5) rfl ?_
  refine g_ic_ge (2) (5) 35 (by decide) (by decide) d11_refuse_7 rfl (fun c7 => absurd c7 (by decide)) (fun _ => ?_)
  refine g_gets (j := 1) rfl fs11_93 d11_refuse_10 ?_
  refine g_iload_n d11_refuse_13 rfl ?_
  refine g_iaSN (2) rfl (rfl) (by omega) (by decide) d11_refuse_14 ?_
  refine g_topI ((-3 : Int32)) rfl ?_
  refine g_iload_n d11_refuse_15 rfl ?_
  refine g_ic_ne (-3) (-3) 29 (by decide) (by decide) d11_refuse_16 rfl (fun c16 => absurd c16 (by decide)) (fun _ => ?_)
  refine g_aload_n d11_refuse_19 rfl ?_
  refine g_get fl11_97 d11_refuse_20 f_0_13 ?_
  refine g_iload_n d11_refuse_23 rfl ?_
  refine g_dup2 d11_refuse_24 rfl rfl ?_
  refine g_ialdN (2) d11_refuse_25 a_55 (rfl) (by omega) (by decide) ?_
  refine g_iconstv (nI 1) d11_refuse_26 rfl ?_
  refine g_iadd d11_refuse_27 ?_
  refine g_iastN (2) _ d11_refuse_28 a_55 (rfl) (by omega) (by decide) t_55 ?_
  refine g_iinc (nI 3) d11_refuse_29 rfl (by decide) (by decide) ?_
  refine g_goto 2 d11_refuse_32 rfl ?_
  refine g_iload_n d11_refuse_2 rfl ?_
  refine g_gets (j := 1) rfl fs11_93 d11_refuse_3 ?_
  refine g_alS (j := 1) rfl d11_refuse_6 ?_
  refine g_topI (nI 5) rfl ?_
  refine g_ic_ge (3) (5) 35 (by decide) (by decide) d11_refuse_7 rfl (fun c7 => absurd c7 (by decide)) (fun _ => ?_)
  refine g_gets (j := 1) rfl fs11_93 d11_refuse_10 ?_
  refine g_iload_n d11_refuse_13 rfl ?_
  refine g_iaSN (3) rfl (rfl) (by omega) (by decide) d11_refuse_14 ?_
  refine g_topI ((-5 : Int32)) rfl ?_
  refine g_iload_n d11_refuse_15 rfl ?_
  refine g_ic_ne (-5) (-3) 29 (by decide) (by decide) d11_refuse_16 rfl (fun _ => ?_) (fun c16 => absurd c16 (by decide))
  refine g_iinc (nI 4) d11_refuse_29 rfl (by decide) (by decide) ?_
  refine g_goto 2 d11_refuse_32 rfl ?_
  refine g_iload_n d11_refuse_2 rfl ?_
  refine g_gets (j := 1) rfl fs11_93 d11_refuse_3 ?_
  refine g_alS (j := 1) rfl d11_refuse_6 ?_
  refine g_topI (nI 5) rfl ?_
  refine g_ic_ge (4) (5) 35 (by decide) (by decide) d11_refuse_7 rfl (fun c7 => absurd c7 (by decide)) (fun _ => ?_)
  refine g_gets (j := 1) rfl fs11_93 d11_refuse_10 ?_
  refine g_iload_n d11_refuse_13 rfl ?_
  refine g_iaSN (4) rfl (rfl) (by omega) (by decide) d11_refuse_14 ?_
  refine g_topI ((-6 : Int32)) rfl ?_
  refine g_iload_n d11_refuse_15 rfl ?_
  refine g_ic_ne (-6) (-3) 29 (by decide) (by decide) d11_refuse_16 rfl (fun _ => ?_) (fun c16 => absurd c16 (by decide))
  refine g_iinc (nI 5) d11_refuse_29 rfl (by decide) (by decide) ?_
  refine g_goto 2 d11_refuse_32 rfl ?_
  refine g_iload_n d11_refuse_2 rfl ?_
  refine g_gets (j := 1) rfl fs11_93 d11_refuse_3 ?_
  refine g_alS (j := 1) rfl d11_refuse_6 ?_
  refine g_topI (nI 5) rfl ?_
  refine g_ic_ge (5) (5) 35 (by decide) (by decide) d11_refuse_7 rfl (fun _ => ?_) (fun c7 => absurd c7 (by decide))
  refine g_aload_n d11_refuse_35 rfl ?_
  refine g_iload_n d11_refuse_36 rfl ?_
  refine g_putIh _ fl11_337 d11_refuse_37 f_0_14 s_0_14 ?_
  refine g_iload_n d11_refuse_40 rfl ?_
  exact g_iret rfl d11_refuse_41 (⟨rfl, rfl⟩)
set_option maxHeartbeats 200000 in
theorem r11_refuse_5 {l : Launch} {K : cK} {d : Nat} {I : wI} {L : wL} {R : wR} {dy : cH}  (hd : 0 ≤ d) : CE l K m11_refuse d [.ref 0, .int (-5)] (hp I L R dy) (.int (-5)) (hp (uI (uI (I) 55 3 (I 55 3 + 1)) 0 14 (-5)) L R dy) := by
  refine CC.of ok11_refuse (Nat.le_of_ble_eq_true rfl) ?_
  refine g_iconstv (nI 0) d11_refuse_0 rfl ?_
  refine g_istore_n d11_refuse_1 (by decide) ?_
  refine g_iload_n d11_refuse_2 rfl ?_
  refine g_gets (j := 1) rfl fs11_93 d11_refuse_3 ?_
  refine g_alS (j := 1) rfl d11_refuse_6 ?_
  refine g_topI (nI 5) rfl ?_
  refine g_ic_ge (0) (5) 35 (by decide) (by decide) d11_refuse_7 rfl (fun c7 => absurd c7 (by decide)) (fun _ => ?_)
  refine g_gets (j := 1) rfl fs11_93 d11_refuse_10 ?_
  refine g_iload_n d11_refuse_13 rfl ?_
  refine g_iaSN (0) rfl (rfl) (by omega) (by decide) d11_refuse_14 ?_
  refine g_topI ((-1 : Int32)) rfl ?_
  refine g_iload_n d11_refuse_15 rfl ?_
  refine g_ic_ne (-1) (-5) 29 (by decide) (by decide) d11_refuse_16 rfl (fun _ => ?_) (fun c16 => absurd c16 (by decide))
  refine g_iinc (nI 1) d11_refuse_29 rfl (by decide) (by decide) ?_
  refine g_goto 2 d11_refuse_32 rfl ?_
  refine g_iload_n d11_refuse_2 rfl ?_
  refine g_gets (j := 1) rfl fs11_93 d11_refuse_3 ?_
  refine g_alS (j := 1) rfl d11_refuse_6 ?_
  refine g_topI (nI 5) rfl ?_
  refine g_ic_ge (1) (5) 35 (by decide) (by decide) d11_refuse_7 rfl (fun c7 => absurd c7 (by decide)) (fun _ => ?_)
  refine g_gets (j := 1) rfl fs11_93 d11_refuse_10 ?_
  refine g_iload_n d11_refuse_13 rfl ?_
  refine g_iaSN (1) rfl (rfl) (by omega) (by decide) d11_refuse_14 ?_
  refine g_topI ((-2 : Int32)) rfl ?_
  refine g_iload_n d11_refuse_15 rfl ?_
  refine g_ic_ne (-2) (-5) 29 (by decide) (by decide) d11_refuse_16 rfl (fun _ => ?_) (fun c16 => absurd c16 (by decide))
  refine g_iinc (nI 2) d11_refuse_29 rfl (by decide) (by decide) ?_
  refine g_goto 2 d11_refuse_32 rfl ?_
  refine g_iload_n d11_refuse_2 rfl ?_
  refine g_gets (j := 1) rfl fs11_93 d11_refuse_3 ?_
  refine g_alS (j := 1) rfl d11_refuse_6 ?_
  refine g_topI (nI 5) rfl ?_
  refine g_ic_ge (2) (5) 35 (by decide) (by decide) d11_refuse_7 rfl (fun c7 => absurd c7 (by decide)) (fun _ => ?_)
  refine g_gets (j := 1) rfl fs11_93 d11_refuse_10 ?_
  refine g_iload_n d11_refuse_13 rfl ?_
  refine g_iaSN (2) rfl (rfl) (by omega) (by decide) d11_refuse_14 ?_
  refine g_topI ((-3 : Int32)) rfl ?_
  refine g_iload_n d11_refuse_15 rfl ?_
  refine g_ic_ne (-3) (-5) 29 (by decide) (by decide) d11_refuse_16 rfl (fun _ => ?_) (fun c16 => absurd c16 (by decide))
  refine g_iinc (nI 3) d11_refuse_29 rfl (by decide) (by decide) ?_
  refine g_goto 2 d11_refuse_32 rfl ?_
  refine g_iload_n d11_refuse_2 rfl ?_
  refine g_gets (j := 1) rfl fs11_93 d11_refuse_3 ?_
  refine g_alS (j := 1) rfl d11_refuse_6 ?_
  refine g_topI (nI 5) rfl ?_
  refine g_ic_ge (3) (5) 35 (by decide) (by decide) d11_refuse_7 rfl (fun c7 => absurd c7 (by decide)) (fun _ => ?_)
  refine g_gets (j := 1) rfl fs11_93 d11_refuse_10 ?_
  refine g_iload_n d11_refuse_13 rfl ?_
  refine g_iaSN (3) rfl (rfl) (by omega) (by decide) d11_refuse_14 ?_
  refine g_topI ((-5 : Int32)) rfl ?_
  refine g_iload_n d11_refuse_15 rfl ?_
  refine g_ic_ne (-5) (-5) 29 (by decide) (by decide) d11_refuse_16 rfl (fun c16 => absurd c16 (by decide)) (fun _ => ?_)
  refine g_aload_n d11_refuse_19 rfl ?_
  refine g_get fl11_97 d11_refuse_20 f_0_13 ?_
  refine g_iload_n d11_refuse_23 rfl ?_
  refine g_dup2 d11_refuse_24 rfl rfl ?_
  refine g_ialdN (3) d11_refuse_25 a_55 (rfl) (by omega) (by decide) ?_
  refine g_iconstv (nI 1) d11_refuse_26 rfl ?_
  refine g_iadd d11_refuse_27 ?_
  refine g_iastN (3) _ d11_refuse_28 a_55 (rfl) (by omega) (by decide) t_55 ?_
  refine g_iinc (nI 4) d11_refuse_29 rfl (by decide) (by decide) ?_
  refine g_goto 2 d11_refuse_32 rfl ?_
  refine g_iload_n d11_refuse_2 rfl ?_
  refine g_gets (j := 1) rfl fs11_93 d11_refuse_3 ?_
  refine g_alS (j := 1) rfl d11_refuse_6 ?_
  refine g_topI (nI 5) rfl ?_
  refine g_ic_ge (4) (5) 35 (by decide) (by decide) d11_refuse_7 rfl (fun c7 => absurd c7 (by decide)) (fun _ => ?_)
  refine g_gets (j := 1) rfl fs11_93 d11_refuse_10 ?_
  refine g_iload_n d11_refuse_13 rfl ?_
  refine g_iaSN (4) rfl (rfl) (by omega) (by decide) d11_refuse_14 ?_
  refine g_topI ((-6 : Int32)) rfl ?_
  refine g_iload_n d11_refuse_15 rfl ?_
  refine g_ic_ne (-6) (-5) 29 (by decide) (by decide) d11_refuse_16 rfl (fun _ => ?_) (fun c16 => absurd c16 (by decide))
  refine g_iinc (nI 5) d11_refuse_29 rfl (by decide) (by decide) ?_
  refine g_goto 2 d11_refuse_32 rfl ?_
  refine g_iload_n d11_refuse_2 rfl ?_
  refine g_gets (j := 1) rfl fs11_93 d11_refuse_3 ?_
  refine g_alS (j := 1) rfl d11_refuse_6 ?_
  refine g_topI (nI 5) rfl ?_
  refine g_ic_ge (5) (5) 35 (by decide) (by decide) d11_refuse_7 rfl (fun _ => ?_) (fun c7 => absurd c7 (by decide))
  refine g_aload_n d11_refuse_35 rfl ?_
  refine g_iload_n d11_refuse_36 rfl ?_
  refine g_putIh _ fl11_337 d11_refuse_37 f_0_14 s_0_14 ?_
  refine g_iload_n d11_refuse_40 rfl ?_
  exact g_iret rfl d11_refuse_41 (⟨rfl, rfl⟩)
set_option maxHeartbeats 200000 in
theorem r11_refuse_6 {l : Launch} {K : cK} {d : Nat} {I : wI} {L : wL} {R : wR} {dy : cH}  (hd : 0 ≤ d) : CE l K m11_refuse d [.ref 0, .int (-6)] (hp I L R dy) (.int (-6)) (hp (uI (uI (I) 55 4 (I 55 4 + 1)) 0 14 (-6)) L R dy) := by
  refine CC.of ok11_refuse (Nat.le_of_ble_eq_true rfl) ?_
  refine g_iconstv (nI 0) d11_refuse_0 rfl ?_
  refine g_istore_n d11_refuse_1 (by decide) ?_
  refine g_iload_n d11_refuse_2 rfl ?_
  refine g_gets (j := 1) rfl fs11_93 d11_refuse_3 ?_
  refine g_alS (j := 1) rfl d11_refuse_6 ?_
  refine g_topI (nI 5) rfl ?_
  refine g_ic_ge (0) (5) 35 (by decide) (by decide) d11_refuse_7 rfl (fun c7 => absurd c7 (by decide)) (fun _ => ?_)
  refine g_gets (j := 1) rfl fs11_93 d11_refuse_10 ?_
  refine g_iload_n d11_refuse_13 rfl ?_
  refine g_iaSN (0) rfl (rfl) (by omega) (by decide) d11_refuse_14 ?_
  refine g_topI ((-1 : Int32)) rfl ?_
  refine g_iload_n d11_refuse_15 rfl ?_
  refine g_ic_ne (-1) (-6) 29 (by decide) (by decide) d11_refuse_16 rfl (fun _ => ?_) (fun c16 => absurd c16 (by decide))
  refine g_iinc (nI 1) d11_refuse_29 rfl (by decide) (by decide) ?_
  refine g_goto 2 d11_refuse_32 rfl ?_
  refine g_iload_n d11_refuse_2 rfl ?_
  refine g_gets (j := 1) rfl fs11_93 d11_refuse_3 ?_
  refine g_alS (j := 1) rfl d11_refuse_6 ?_
  refine g_topI (nI 5) rfl ?_
  refine g_ic_ge (1) (5) 35 (by decide) (by decide) d11_refuse_7 rfl (fun c7 => absurd c7 (by decide)) (fun _ => ?_)
  refine g_gets (j := 1) rfl fs11_93 d11_refuse_10 ?_
  refine g_iload_n d11_refuse_13 rfl ?_
  refine g_iaSN (1) rfl (rfl) (by omega) (by decide) d11_refuse_14 ?_
  refine g_topI ((-2 : Int32)) rfl ?_
  refine g_iload_n d11_refuse_15 rfl ?_
  refine g_ic_ne (-2) (-6) 29 (by decide) (by decide) d11_refuse_16 rfl (fun _ => ?_) (fun c16 => absurd c16 (by decide))
  refine g_iinc (nI 2) d11_refuse_29 rfl (by decide) (by decide) ?_
  refine g_goto 2 d11_refuse_32 rfl ?_
  refine g_iload_n d11_refuse_2 rfl ?_
  refine g_gets (j := 1) rfl fs11_93 d11_refuse_3 ?_
  refine g_alS (j := 1) rfl d11_refuse_6 ?_
  refine g_topI (nI 5) rfl ?_
  refine g_ic_ge (2) (5) 35 (by decide) (by decide) d11_refuse_7 rfl (fun c7 => absurd c7 (by decide)) (fun _ => ?_)
  refine g_gets (j := 1) rfl fs11_93 d11_refuse_10 ?_
  refine g_iload_n d11_refuse_13 rfl ?_
  refine g_iaSN (2) rfl (rfl) (by omega) (by decide) d11_refuse_14 ?_
  refine g_topI ((-3 : Int32)) rfl ?_
  refine g_iload_n d11_refuse_15 rfl ?_
  refine g_ic_ne (-3) (-6) 29 (by decide) (by decide) d11_refuse_16 rfl (fun _ => ?_) (fun c16 => absurd c16 (by decide))
  refine g_iinc (nI 3) d11_refuse_29 rfl (by decide) (by decide) ?_
  refine g_goto 2 d11_refuse_32 rfl ?_
  refine g_iload_n d11_refuse_2 rfl ?_
  refine g_gets (j := 1) rfl fs11_93 d11_refuse_3 ?_
  refine g_alS (j := 1) rfl d11_refuse_6 ?_
  refine g_topI (nI 5) rfl ?_
  refine g_ic_ge (3) (5) 35 (by decide) (by decide) d11_refuse_7 rfl (fun c7 => absurd c7 (by decide)) (fun _ => ?_)
  refine g_gets (j := 1) rfl fs11_93 d11_refuse_10 ?_
  refine g_iload_n d11_refuse_13 rfl ?_
  refine g_iaSN (3) rfl (rfl) (by omega) (by decide) d11_refuse_14 ?_
  refine g_topI ((-5 : Int32)) rfl ?_
  refine g_iload_n d11_refuse_15 rfl ?_
  refine g_ic_ne (-5) (-6) 29 (by decide) (by decide) d11_refuse_16 rfl (fun _ => ?_) (fun c16 => absurd c16 (by decide))
  refine g_iinc (nI 4) d11_refuse_29 rfl (by decide) (by decide) ?_
  refine g_goto 2 d11_refuse_32 rfl ?_
  refine g_iload_n d11_refuse_2 rfl ?_
  refine g_gets (j := 1) rfl fs11_93 d11_refuse_3 ?_
  refine g_alS (j := 1) rfl d11_refuse_6 ?_
  refine g_topI (nI 5) rfl ?_
  refine g_ic_ge (4) (5) 35 (by decide) (by decide) d11_refuse_7 rfl (fun c7 => absurd c7 (by decide)) (fun _ => ?_)
  refine g_gets (j := 1) rfl fs11_93 d11_refuse_10 ?_
  refine g_iload_n d11_refuse_13 rfl ?_
  refine g_iaSN (4) rfl (rfl) (by omega) (by decide) d11_refuse_14 ?_
  refine g_topI ((-6 : Int32)) rfl ?_
  refine g_iload_n d11_refuse_15 rfl ?_
  refine g_ic_ne (-6) (-6) 29 (by decide) (by decide) d11_refuse_16 rfl (fun c16 => absurd c16 (by decide)) (fun _ => ?_)
  refine g_aload_n d11_refuse_19 rfl ?_
  refine g_get fl11_97 d11_refuse_20 f_0_13 ?_
  refine g_iload_n d11_refuse_23 rfl ?_
  refine g_dup2 d11_refuse_24 rfl rfl ?_
  refine g_ialdN (4) d11_refuse_25 a_55 (rfl) (by omega) (by decide) ?_
  refine g_iconstv (nI 1) d11_refuse_26 rfl ?_
  refine g_iadd d11_refuse_27 ?_
  refine g_iastN (4) _ d11_refuse_28 a_55 (rfl) (by omega) (by decide) t_55 ?_
  refine g_iinc (nI 5) d11_refuse_29 rfl (by decide) (by decide) ?_
  refine g_goto 2 d11_refuse_32 rfl ?_
  refine g_iload_n d11_refuse_2 rfl ?_
  refine g_gets (j := 1) rfl fs11_93 d11_refuse_3 ?_
  refine g_alS (j := 1) rfl d11_refuse_6 ?_
  refine g_topI (nI 5) rfl ?_
  refine g_ic_ge (5) (5) 35 (by decide) (by decide) d11_refuse_7 rfl (fun _ => ?_) (fun c7 => absurd c7 (by decide))
  refine g_aload_n d11_refuse_35 rfl ?_
  refine g_iload_n d11_refuse_36 rfl ?_
  refine g_putIh _ fl11_337 d11_refuse_37 f_0_14 s_0_14 ?_
  refine g_iload_n d11_refuse_40 rfl ?_
  exact g_iret rfl d11_refuse_41 (⟨rfl, rfl⟩)
set_option maxHeartbeats 200000 in
theorem r11_allow {l : Launch} {K : cK} {d : Nat} {I : wI} {L : wL} {R : wR} {dy : cH} {x : Int32} (hd : 0 ≤ d) : CE l K m11_allow d [.ref 0, .int x] (hp I L R dy) (.int x) (hp (uI (I) 0 14 0) L R dy) := by
  refine CC.of ok11_allow (Nat.le_of_ble_eq_true rfl) ?_
  refine g_aload_n d11_allow_0 rfl ?_
  refine g_iconstv (nI 0) d11_allow_1 rfl ?_
  refine g_putIh _ fl11_337 d11_allow_2 f_0_14 s_0_14 ?_
  refine g_iload_n d11_allow_5 rfl ?_
  exact g_iret rfl d11_allow_6 (⟨rfl, rfl⟩)
set_option maxHeartbeats 200000 in
theorem r11_isSlot {l : Launch} {K : cK} {d : Nat} {h : cH} {x : Int32} (hd : 0 ≤ d) : CE l K m11_isSlot d [.int x] h (.int (if 0 ≤ x.toInt ∧ x.toInt ≤ 11 then 1 else 0)) h := by
  refine CC.of ok11_isSlot (Nat.le_of_ble_eq_true rfl) ?_
  refine g_iload_n d11_isSlot_0 rfl ?_
  refine g_iz_lt _ 14 (rfl) d11_isSlot_1 rfl (fun c1 => ?_) (fun c1 => ?_)
  · refine g_iconstv (nI 0) d11_isSlot_14 rfl ?_
    exact g_zret rfl (by decide) d11_isSlot_15 (⟨by first | rw [b_f (by omega)]; rfl | rw [b_t (by omega)]; rfl, rfl⟩)
  · refine g_iload_n d11_isSlot_4 rfl ?_
    refine g_bipushv (nI 12) d11_isSlot_5 rfl ?_
    refine g_ic_ge _ (12) 14 (rfl) (by decide) d11_isSlot_7 rfl (fun c7 => ?_) (fun c7 => ?_)
    · refine g_iconstv (nI 0) d11_isSlot_14 rfl ?_
      exact g_zret rfl (by decide) d11_isSlot_15 (⟨by first | rw [b_f (by omega)]; rfl | rw [b_t (by omega)]; rfl, rfl⟩)
    · refine g_iconstv (nI 1) d11_isSlot_10 rfl ?_
      refine g_goto 15 d11_isSlot_11 rfl ?_
      exact g_zret rfl (by decide) d11_isSlot_15 (⟨by first | rw [b_f (by omega)]; rfl | rw [b_t (by omega)]; rfl, rfl⟩)
theorem r11_isSlotI {l : Launch} {K : cK} {d : Nat} {h : cH} {x : Int32} {xi : Int}  (hx : x.toInt = xi) (hd : 0 ≤ d) : CE l K m11_isSlot d [.int x] h (.int (if 0 ≤ xi ∧ xi ≤ 11 then 1 else 0)) h := by
  subst hx
  exact r11_isSlot hd
set_option maxHeartbeats 200000 in
theorem r11_canBeCar {l : Launch} {K : cK} {d : Nat} {h : cH} {a b c e : Int32} (hd : 0 ≤ d) : CE l K m11_canBeCar d [.int a, .int b, .int c, .int e] h (.int (if 0 ≤ a.toInt ∧ a.toInt ≤ b.toInt ∧ b.toInt ≤ 11 ∧ 0 ≤ c.toInt ∧ c.toInt ≤ 1 ∧ 0 ≤ e.toInt ∧ e.toInt ≤ 9 then 1 else 0)) h := by
  refine CC.of ok11_canBeCar (Nat.le_of_ble_eq_true rfl) ?_
  refine g_iload_n d11_canBeCar_0 rfl ?_
  refine g_iz_lt _ 48 (rfl) d11_canBeCar_1 rfl (fun c1 => ?_) (fun c1 => ?_)
  · refine g_iconstv (nI 0) d11_canBeCar_48 rfl ?_
    exact g_zret rfl (by decide) d11_canBeCar_49 (⟨by first | rw [b_f (by omega)]; rfl | rw [b_t (by omega)]; rfl, rfl⟩)
  · refine g_iload_n d11_canBeCar_4 rfl ?_
    refine g_iload_n d11_canBeCar_5 rfl ?_
    refine g_ic_lt _ _ 48 (rfl) (rfl) d11_canBeCar_6 rfl (fun c6 => ?_) (fun c6 => ?_)
    · refine g_iconstv (nI 0) d11_canBeCar_48 rfl ?_
      exact g_zret rfl (by decide) d11_canBeCar_49 (⟨by first | rw [b_f (by omega)]; rfl | rw [b_t (by omega)]; rfl, rfl⟩)
    · refine g_iload_n d11_canBeCar_9 rfl ?_
      refine g_gets (j := 2) rfl fs11_122 d11_canBeCar_10 ?_
      refine g_iconstv (nI 1) d11_canBeCar_13 rfl ?_
      refine g_iaSN (1) rfl (rfl) (by omega) (by decide) d11_canBeCar_14 ?_
      refine g_topI (nI 11) rfl ?_
      refine g_ic_gt _ (11) 48 (rfl) (by decide) d11_canBeCar_15 rfl (fun c15 => ?_) (fun c15 => ?_)
      · refine g_iconstv (nI 0) d11_canBeCar_48 rfl ?_
        exact g_zret rfl (by decide) d11_canBeCar_49 (⟨by first | rw [b_f (by omega)]; rfl | rw [b_t (by omega)]; rfl, rfl⟩)
      · refine g_iload_n d11_canBeCar_18 rfl ?_
        refine g_iz_lt _ 48 (rfl) d11_canBeCar_19 rfl (fun c19 => ?_) (fun c19 => ?_)
        · refine g_iconstv (nI 0) d11_canBeCar_48 rfl ?_
          exact g_zret rfl (by decide) d11_canBeCar_49 (⟨by first | rw [b_f (by omega)]; rfl | rw [b_t (by omega)]; rfl, rfl⟩)
        · refine g_iload_n d11_canBeCar_22 rfl ?_
          refine g_gets (j := 2) rfl fs11_122 d11_canBeCar_23 ?_
          refine g_iconstv (nI 2) d11_canBeCar_26 rfl ?_
          refine g_iaSN (2) rfl (rfl) (by omega) (by decide) d11_canBeCar_27 ?_
          refine g_topI (nI 1) rfl ?_
          refine g_ic_gt _ (1) 48 (rfl) (by decide) d11_canBeCar_28 rfl (fun c28 => ?_) (fun c28 => ?_)
          · refine g_iconstv (nI 0) d11_canBeCar_48 rfl ?_
            exact g_zret rfl (by decide) d11_canBeCar_49 (⟨by first | rw [b_f (by omega)]; rfl | rw [b_t (by omega)]; rfl, rfl⟩)
          · refine g_iload_n d11_canBeCar_31 rfl ?_
            refine g_iz_lt _ 48 (rfl) d11_canBeCar_32 rfl (fun c32 => ?_) (fun c32 => ?_)
            · refine g_iconstv (nI 0) d11_canBeCar_48 rfl ?_
              exact g_zret rfl (by decide) d11_canBeCar_49 (⟨by first | rw [b_f (by omega)]; rfl | rw [b_t (by omega)]; rfl, rfl⟩)
            · refine g_iload_n d11_canBeCar_35 rfl ?_
              refine g_gets (j := 2) rfl fs11_122 d11_canBeCar_36 ?_
              refine g_iconstv (nI 3) d11_canBeCar_39 rfl ?_
              refine g_iaSN (3) rfl (rfl) (by omega) (by decide) d11_canBeCar_40 ?_
              refine g_topI (nI 9) rfl ?_
              refine g_ic_gt _ (9) 48 (rfl) (by decide) d11_canBeCar_41 rfl (fun c41 => ?_) (fun c41 => ?_)
              · refine g_iconstv (nI 0) d11_canBeCar_48 rfl ?_
                exact g_zret rfl (by decide) d11_canBeCar_49 (⟨by first | rw [b_f (by omega)]; rfl | rw [b_t (by omega)]; rfl, rfl⟩)
              · refine g_iconstv (nI 1) d11_canBeCar_44 rfl ?_
                refine g_goto 49 d11_canBeCar_45 rfl ?_
                exact g_zret rfl (by decide) d11_canBeCar_49 (⟨by first | rw [b_f (by omega)]; rfl | rw [b_t (by omega)]; rfl, rfl⟩)
theorem r11_canBeCarI {l : Launch} {K : cK} {d : Nat} {h : cH} {a : Int32} {ai : Int} {b : Int32} {bi : Int} {c : Int32} {ci : Int} {e : Int32} {ei : Int}  (ha : a.toInt = ai) (hb : b.toInt = bi) (hc : c.toInt = ci) (he : e.toInt = ei) (hd : 0 ≤ d) : CE l K m11_canBeCar d [.int a, .int b, .int c, .int e] h (.int (if 0 ≤ ai ∧ ai ≤ bi ∧ bi ≤ 11 ∧ 0 ≤ ci ∧ ci ≤ 1 ∧ 0 ≤ ei ∧ ei ≤ 9 then 1 else 0)) h := by
  subst ha
  subst hb
  subst hc
  subst he
  exact r11_canBeCar hd
set_option maxHeartbeats 200000 in
theorem r6_hasCar {l : Launch} {K : cK} {d : Nat} {I : wI} {L : wL} {R : wR} {dy : cH} (n : Nat) (hn : I 1 0 = nI n) (hn6 : n ≤ 6) (x : Int32) (hd : 0 ≤ d) : CE l K m6_hasCar d [.ref 1, .int x] (hp I L R dy) (.int (if 0 ≤ x.toInt ∧ x.toInt < n then 1 else 0)) (hp I L R dy) := by
  refine CC.of ok6_hasCar (Nat.le_of_ble_eq_true rfl) ?_
  refine g_iload_n d6_hasCar_0 rfl ?_
  refine g_iz_lt _ 16 (rfl) d6_hasCar_1 rfl (fun c1 => ?_) (fun c1 => ?_)
  · refine g_iconstv (nI 0) d6_hasCar_16 rfl ?_
    exact g_zret rfl (by decide) d6_hasCar_17 (⟨by first | rw [b_f (by omega)]; rfl | rw [b_t (by omega)]; rfl, rfl⟩)
  · refine g_iload_n d6_hasCar_4 rfl ?_
    refine g_aload_n d6_hasCar_5 rfl ?_
    refine g_get fl6_52 d6_hasCar_6 f_1_0 ?_
    refine g_topI (nI n) (hn) ?_
    refine g_ic_ge _ ((n : Nat) : Int) 16 (rfl) (nI_ti (by omega)) d6_hasCar_9 rfl (fun c9 => ?_) (fun c9 => ?_)
    · refine g_iconstv (nI 0) d6_hasCar_16 rfl ?_
      exact g_zret rfl (by decide) d6_hasCar_17 (⟨by first | rw [b_f (by omega)]; rfl | rw [b_t (by omega)]; rfl, rfl⟩)
    · refine g_iconstv (nI 1) d6_hasCar_12 rfl ?_
      refine g_goto 17 d6_hasCar_13 rfl ?_
      exact g_zret rfl (by decide) d6_hasCar_17 (⟨by first | rw [b_f (by omega)]; rfl | rw [b_t (by omega)]; rfl, rfl⟩)
theorem r6_hasCarI {l : Launch} {K : cK} {d : Nat} {I : wI} {L : wL} {R : wR} {dy : cH} {x : Int32} {xi : Int} (n : Nat) (hn : I 1 0 = nI n) (hn6 : n ≤ 6) (hx : x.toInt = xi) (hd : 0 ≤ d) : CE l K m6_hasCar d [.ref 1, .int x] (hp I L R dy) (.int (if 0 ≤ xi ∧ xi < n then 1 else 0)) (hp I L R dy) := by
  subst hx
  exact r6_hasCar n hn hn6 _ hd
set_option maxHeartbeats 200000 in
theorem r6_hasLaw {l : Launch} {K : cK} {d : Nat} {I : wI} {L : wL} {R : wR} {dy : cH} (n : Nat) (hn : I 1 3 = nI n) (hn6 : n ≤ 6) (x : Int32) (hd : 0 ≤ d) : CE l K m6_hasLaw d [.ref 1, .int x] (hp I L R dy) (.int (if 0 ≤ x.toInt ∧ x.toInt < n then 1 else 0)) (hp I L R dy) := by
  refine CC.of ok6_hasLaw (Nat.le_of_ble_eq_true rfl) ?_
  refine g_iload_n d6_hasLaw_0 rfl ?_
  refine g_iz_lt _ 16 (rfl) d6_hasLaw_1 rfl (fun c1 => ?_) (fun c1 => ?_)
  · refine g_iconstv (nI 0) d6_hasLaw_16 rfl ?_
    exact g_zret rfl (by decide) d6_hasLaw_17 (⟨by first | rw [b_f (by omega)]; rfl | rw [b_t (by omega)]; rfl, rfl⟩)
  · refine g_iload_n d6_hasLaw_4 rfl ?_
    refine g_aload_n d6_hasLaw_5 rfl ?_
    refine g_get fl6_55 d6_hasLaw_6 f_1_3 ?_
    refine g_topI (nI n) (hn) ?_
    refine g_ic_ge _ ((n : Nat) : Int) 16 (rfl) (nI_ti (by omega)) d6_hasLaw_9 rfl (fun c9 => ?_) (fun c9 => ?_)
    · refine g_iconstv (nI 0) d6_hasLaw_16 rfl ?_
      exact g_zret rfl (by decide) d6_hasLaw_17 (⟨by first | rw [b_f (by omega)]; rfl | rw [b_t (by omega)]; rfl, rfl⟩)
    · refine g_iconstv (nI 1) d6_hasLaw_12 rfl ?_
      refine g_goto 17 d6_hasLaw_13 rfl ?_
      exact g_zret rfl (by decide) d6_hasLaw_17 (⟨by first | rw [b_f (by omega)]; rfl | rw [b_t (by omega)]; rfl, rfl⟩)
theorem r6_hasLawI {l : Launch} {K : cK} {d : Nat} {I : wI} {L : wL} {R : wR} {dy : cH} {x : Int32} {xi : Int} (n : Nat) (hn : I 1 3 = nI n) (hn6 : n ≤ 6) (hx : x.toInt = xi) (hd : 0 ≤ d) : CE l K m6_hasLaw d [.ref 1, .int x] (hp I L R dy) (.int (if 0 ≤ xi ∧ xi < n then 1 else 0)) (hp I L R dy) := by
  subst hx
  exact r6_hasLaw n hn hn6 _ hd
set_option maxHeartbeats 200000 in
theorem r6_hasHabit {l : Launch} {K : cK} {d : Nat} {I : wI} {L : wL} {R : wR} {dy : cH} (n : Nat) (hn : I 1 6 = nI n) (hn6 : n ≤ 6) (x : Int32) (hd : 0 ≤ d) : CE l K m6_hasHabit d [.ref 1, .int x] (hp I L R dy) (.int (if 0 ≤ x.toInt ∧ x.toInt < n then 1 else 0)) (hp I L R dy) := by
  refine CC.of ok6_hasHabit (Nat.le_of_ble_eq_true rfl) ?_
  refine g_iload_n d6_hasHabit_0 rfl ?_
  refine g_iz_lt _ 16 (rfl) d6_hasHabit_1 rfl (fun c1 => ?_) (fun c1 => ?_)
  · refine g_iconstv (nI 0) d6_hasHabit_16 rfl ?_
    exact g_zret rfl (by decide) d6_hasHabit_17 (⟨by first | rw [b_f (by omega)]; rfl | rw [b_t (by omega)]; rfl, rfl⟩)
  · refine g_iload_n d6_hasHabit_4 rfl ?_
    refine g_aload_n d6_hasHabit_5 rfl ?_
    refine g_get fl6_58 d6_hasHabit_6 f_1_6 ?_
    refine g_topI (nI n) (hn) ?_
    refine g_ic_ge _ ((n : Nat) : Int) 16 (rfl) (nI_ti (by omega)) d6_hasHabit_9 rfl (fun c9 => ?_) (fun c9 => ?_)
    · refine g_iconstv (nI 0) d6_hasHabit_16 rfl ?_
      exact g_zret rfl (by decide) d6_hasHabit_17 (⟨by first | rw [b_f (by omega)]; rfl | rw [b_t (by omega)]; rfl, rfl⟩)
    · refine g_iconstv (nI 1) d6_hasHabit_12 rfl ?_
      refine g_goto 17 d6_hasHabit_13 rfl ?_
      exact g_zret rfl (by decide) d6_hasHabit_17 (⟨by first | rw [b_f (by omega)]; rfl | rw [b_t (by omega)]; rfl, rfl⟩)
theorem r6_hasHabitI {l : Launch} {K : cK} {d : Nat} {I : wI} {L : wL} {R : wR} {dy : cH} {x : Int32} {xi : Int} (n : Nat) (hn : I 1 6 = nI n) (hn6 : n ≤ 6) (hx : x.toInt = xi) (hd : 0 ≤ d) : CE l K m6_hasHabit d [.ref 1, .int x] (hp I L R dy) (.int (if 0 ≤ xi ∧ xi < n then 1 else 0)) (hp I L R dy) := by
  subst hx
  exact r6_hasHabit n hn hn6 _ hd
set_option maxHeartbeats 200000 in
theorem r6_factOf {l : Launch} {K : cK} {d : Nat} {I : wI} {L : wL} {R : wR} {dy : cH} (c j : Nat) (hc : c < 6) (hj : j < 4) (hd : 0 ≤ d) : CE l K m6_factOf d [.ref 1, .int (nI c), .int (nI j)] (hp I L R dy) (.int (I 2 (c * 4 + j))) (hp I L R dy) := by
  refine CC.of ok6_factOf (Nat.le_of_ble_eq_true rfl) ?_
  refine g_aload_n d6_factOf_0 rfl ?_
  refine g_get fl6_9 d6_factOf_1 f_1_1 ?_
  refine g_iload_n d6_factOf_4 rfl ?_
  refine g_iconstv (nI 4) d6_factOf_5 rfl ?_
  refine g_imulN d6_factOf_6 ?_
  refine g_iload_n d6_factOf_7 rfl ?_
  refine g_iaddN d6_factOf_8 ?_
  refine g_ialdN (((c * 4) + j)) d6_factOf_9 a_2 (rfl) (by omega) (by decide) ?_
  exact g_iret rfl d6_factOf_10 (⟨rfl, rfl⟩)
set_option maxHeartbeats 200000 in
theorem r6_addCar {l : Launch} {K : cK} {d : Nat} {I : wI} {L : wL} {R : wR} {dy : cH} (a b c e : Int32) (n : Nat) (hn : I 1 0 = nI n) (hn6 : n < 6) (hd : 0 ≤ d) : CE l K m6_addCar d [.ref 1, .int a, .int b, .int c, .int e] (hp I L R dy) (.int (nI n)) (hp (uI (uI (uI (uI (uI I 2 (n * 4 + 0) a) 2 (n * 4 + 1) b) 2 (n * 4 + 2) c) 2 (n * 4 + 3) e) 1 0 (nI (n + 1))) L R dy) := by
  refine CC.of ok6_addCar (Nat.le_of_ble_eq_true rfl) ?_
  refine g_aload_n d6_addCar_0 rfl ?_
  refine g_get fl6_9 d6_addCar_1 f_1_1 ?_
  refine g_aload_n d6_addCar_4 rfl ?_
  refine g_get fl6_52 d6_addCar_5 f_1_0 ?_
  refine g_topI (nI n) (hn) ?_
  refine g_iconstv (nI 4) d6_addCar_8 rfl ?_
  refine g_imulN d6_addCar_9 ?_
  refine g_iconstv (nI 0) d6_addCar_10 rfl ?_
  refine g_iaddN d6_addCar_11 ?_
  refine g_iload_n d6_addCar_12 rfl ?_
  refine g_iastN (((n * 4) + 0)) _ d6_addCar_13 a_2 (rfl) (by omega) (by decide) t_2 ?_
  refine g_aload_n d6_addCar_14 rfl ?_
  refine g_get fl6_9 d6_addCar_15 f_1_1 ?_
  refine g_aload_n d6_addCar_18 rfl ?_
  refine g_get fl6_52 d6_addCar_19 f_1_0 ?_
  refine g_topI (nI n) (hn) ?_
  refine g_iconstv (nI 4) d6_addCar_22 rfl ?_
  refine g_imulN d6_addCar_23 ?_
  refine g_iconstv (nI 1) d6_addCar_24 rfl ?_
  refine g_iaddN d6_addCar_25 ?_
  refine g_iload_n d6_addCar_26 rfl ?_
  refine g_iastN (((n * 4) + 1)) _ d6_addCar_27 a_2 (rfl) (by omega) (by decide) t_2 ?_
  refine g_aload_n d6_addCar_28 rfl ?_
  refine g_get fl6_9 d6_addCar_29 f_1_1 ?_
  refine g_aload_n d6_addCar_32 rfl ?_
  refine g_get fl6_52 d6_addCar_33 f_1_0 ?_
  refine g_topI (nI n) (hn) ?_
  refine g_iconstv (nI 4) d6_addCar_36 rfl ?_
  refine g_imulN d6_addCar_37 ?_
  refine g_iconstv (nI 2) d6_addCar_38 rfl ?_
  refine g_iaddN d6_addCar_39 ?_
  refine g_iload_n d6_addCar_40 rfl ?_
  refine g_iastN (((n * 4) + 2)) _ d6_addCar_41 a_2 (rfl) (by omega) (by decide) t_2 ?_
  refine g_aload_n d6_addCar_42 rfl ?_
  refine g_get fl6_9 d6_addCar_43 f_1_1 ?_
  refine g_aload_n d6_addCar_46 rfl ?_
  refine g_get fl6_52 d6_addCar_47 f_1_0 ?_
  refine g_topI (nI n) (hn) ?_
  refine g_iconstv (nI 4) d6_addCar_50 rfl ?_
  refine g_imulN d6_addCar_51 ?_
  refine g_iconstv (nI 3) d6_addCar_52 rfl ?_
  refine g_iaddN d6_addCar_53 ?_
  refine g_iload d6_addCar_54 rfl ?_
  refine g_iastN (((n * 4) + 3)) _ d6_addCar_56 a_2 (rfl) (by omega) (by decide) t_2 ?_
  refine g_aload_n d6_addCar_57 rfl ?_
  refine g_dup d6_addCar_58 rfl ?_
  refine g_get fl6_52 d6_addCar_59 f_1_0 ?_
  refine g_topI (nI n) (hn) ?_
  refine g_iconstv (nI 1) d6_addCar_62 rfl ?_
  refine g_iaddN d6_addCar_63 ?_
  refine g_putIh _ fl6_52 d6_addCar_64 f_1_0 s_1_0 ?_
  refine g_aload_n d6_addCar_67 rfl ?_
  refine g_get fl6_52 d6_addCar_68 f_1_0 ?_
  refine g_topI (nI (n + 1)) (rfl) ?_
  refine g_iconstv (nI 1) d6_addCar_71 rfl ?_
  refine g_isubN (by omega) d6_addCar_72 ?_
  exact g_iret rfl d6_addCar_73 (⟨by rw [Nat.add_sub_cancel], rfl⟩)
set_option maxHeartbeats 200000 in
theorem r11_car_bad {l : Launch} {K : cK} {d : Nat} {I : wI} {L : wL} {R : wR} {dy : cH} (a b c e : Int32) (hbad : ¬ (0 ≤ a.toInt ∧ a.toInt ≤ b.toInt ∧ b.toInt ≤ 11 ∧ 0 ≤ c.toInt ∧ c.toInt ≤ 1 ∧ 0 ≤ e.toInt ∧ e.toInt ≤ 9)) (hd : 1 ≤ d) : CE l K m11_car d [.ref 0, .int a, .int b, .int c, .int e] (hp I L R dy) (.int (-1)) (hp (uI (uI (I) 55 0 (I 55 0 + 1)) 0 14 (-1)) L R dy) := by
  refine CC.of ok11_car (Nat.le_of_ble_eq_true rfl) ?_
  refine g_iload_n d11_car_0 rfl ?_
  refine g_iload_n d11_car_1 rfl ?_
  refine g_iload_n d11_car_2 rfl ?_
  refine g_iload d11_car_3 rfl ?_
  refine g_ES4 sm11_canBeCar ml11_104 (r11_canBeCarI  (rfl) (rfl) (rfl) (rfl) (Nat.le_refl 0)) (by omega) (by decide) d11_car_5 ?_
  refine g_bnz 17 d11_car_8 rfl (fun c8 => absurd c8 (hbad)) (fun _ => ?_)
  refine g_aload_n d11_car_11 rfl ?_
  refine g_iconstv ((-1 : Int32)) d11_car_12 rfl ?_
  refine g_EV1 vm11_refuse ml11_108 c_0 (r11_refuse_1 (Nat.le_refl 0)) (by omega) (by decide) d11_car_13 ?_
  exact g_iret rfl d11_car_16 (⟨rfl, rfl⟩)
set_option maxHeartbeats 200000 in
theorem r11_car_full {l : Launch} {K : cK} {d : Nat} {I : wI} {L : wL} {R : wR} {dy : cH} (a b c e : Int32) (hok : 0 ≤ a.toInt ∧ a.toInt ≤ b.toInt ∧ b.toInt ≤ 11 ∧ 0 ≤ c.toInt ∧ c.toInt ≤ 1 ∧ 0 ≤ e.toInt ∧ e.toInt ≤ 9) (hn : I 1 0 = nI 6) (hd : 1 ≤ d) : CE l K m11_car d [.ref 0, .int a, .int b, .int c, .int e] (hp I L R dy) (.int (-5)) (hp (uI (uI (I) 55 3 (I 55 3 + 1)) 0 14 (-5)) L R dy) := by
  refine CC.of ok11_car (Nat.le_of_ble_eq_true rfl) ?_
  refine g_iload_n d11_car_0 rfl ?_
  refine g_iload_n d11_car_1 rfl ?_
  refine g_iload_n d11_car_2 rfl ?_
  refine g_iload d11_car_3 rfl ?_
  refine g_ES4 sm11_canBeCar ml11_104 (r11_canBeCarI  (rfl) (rfl) (rfl) (rfl) (Nat.le_refl 0)) (by omega) (by decide) d11_car_5 ?_
  refine g_bnz 17 d11_car_8 rfl (fun _ => ?_) (fun c8 => absurd c8 (fun q => q hok))
  refine g_aload_n d11_car_17 rfl ?_
  refine g_get fl11_10 d11_car_18 f_0_0 ?_
  refine g_get fl11_112 d11_car_21 f_1_0 ?_
  refine g_topI (nI 6) (hn) ?_
  refine g_bipushv (nI 6) d11_car_24 rfl ?_
  refine g_ic_lt ((6 : Nat) : Int) (6) 36 (nI_ti (by omega)) (by decide) d11_car_26 rfl (fun c26 => absurd c26 (by decide)) (fun _ => ?_)
  refine g_aload_n d11_car_29 rfl ?_
  refine g_bipushv ((-5 : Int32)) d11_car_30 rfl ?_
  refine g_EV1 vm11_refuse ml11_108 c_0 (r11_refuse_5 (Nat.le_refl 0)) (by omega) (by decide) d11_car_32 ?_
  exact g_iret rfl d11_car_35 (⟨rfl, rfl⟩)
set_option maxHeartbeats 200000 in
theorem r11_car_ok {l : Launch} {K : cK} {d : Nat} {I : wI} {L : wL} {R : wR} {dy : cH} (a b c e : Int32) (hok : 0 ≤ a.toInt ∧ a.toInt ≤ b.toInt ∧ b.toInt ≤ 11 ∧ 0 ≤ c.toInt ∧ c.toInt ≤ 1 ∧ 0 ≤ e.toInt ∧ e.toInt ≤ 9) (n : Nat) (hn : I 1 0 = nI n) (hn6 : n < 6) (hd : 1 ≤ d) : CE l K m11_car d [.ref 0, .int a, .int b, .int c, .int e] (hp I L R dy) (.int (nI n)) (hp (uI (uI (uI (uI (uI (uI I 2 (n * 4 + 0) a) 2 (n * 4 + 1) b) 2 (n * 4 + 2) c) 2 (n * 4 + 3) e) 1 0 (nI (n + 1))) 0 14 0) L R dy) := by
  refine CC.of ok11_car (Nat.le_of_ble_eq_true rfl) ?_
  refine g_iload_n d11_car_0 rfl ?_
  refine g_iload_n d11_car_1 rfl ?_
  refine g_iload_n d11_car_2 rfl ?_
  refine g_iload d11_car_3 rfl ?_
  refine g_ES4 sm11_canBeCar ml11_104 (r11_canBeCarI  (rfl) (rfl) (rfl) (rfl) (Nat.le_refl 0)) (by omega) (by decide) d11_car_5 ?_
  refine g_bnz 17 d11_car_8 rfl (fun _ => ?_) (fun c8 => absurd c8 (fun q => q hok))
  refine g_aload_n d11_car_17 rfl ?_
  refine g_get fl11_10 d11_car_18 f_0_0 ?_
  refine g_get fl11_112 d11_car_21 f_1_0 ?_
  refine g_topI (nI n) (hn) ?_
  refine g_bipushv (nI 6) d11_car_24 rfl ?_
  refine g_ic_lt ((n : Nat) : Int) (6) 36 (nI_ti (by omega)) (by decide) d11_car_26 rfl (fun _ => ?_) (fun c26 => absurd c26 (by omega))
  refine g_aload_n d11_car_36 rfl ?_
  refine g_aload_n d11_car_37 rfl ?_
  refine g_get fl11_10 d11_car_38 f_0_0 ?_
  refine g_iload_n d11_car_41 rfl ?_
  refine g_iload_n d11_car_42 rfl ?_
  refine g_iload_n d11_car_43 rfl ?_
  refine g_iload d11_car_44 rfl ?_
  refine g_EV4 vm6_addCar ml11_115 c_1 (r6_addCar _ _ _ _ n (by exact hn) hn6 (Nat.le_refl 0)) (by omega) (by decide) d11_car_46 ?_
  refine g_EV1 vm11_allow ml11_119 c_0 (r11_allow (Nat.le_refl 0)) (by omega) (by decide) d11_car_49 ?_
  exact g_iret rfl d11_car_52 (⟨rfl, rfl⟩)
set_option maxHeartbeats 200000 in
theorem r11_put_1 {l : Launch} {K : cK} {d : Nat} {I : wI} {L : wL} {R : wR} {dy : cH} (c w x : Int32) (hbad : ¬ ((w.toInt = 0 ∨ w.toInt = 1) ∧ 0 ≤ x.toInt ∧ x.toInt ≤ 11 ∨ w.toInt = 2 ∧ 0 ≤ x.toInt ∧ x.toInt ≤ 1 ∨ w.toInt = 3 ∧ 0 ≤ x.toInt ∧ x.toInt ≤ 9)) (hd : 1 ≤ d) : CE l K m11_put d [.ref 0, .int c, .int w, .int x] (hp I L R dy) (.int (-1)) (hp (uI (uI (I) 55 0 (I 55 0 + 1)) 0 14 (-1)) L R dy) := by
  refine CC.of ok11_put (Nat.le_of_ble_eq_true rfl) ?_
  refine g_iload_n d11_put_0 rfl ?_
  refine g_iz_lt _ 22 (rfl) d11_put_1 rfl (fun c1 => ?_) (fun c1 => ?_)
  · refine g_aload_n d11_put_22 rfl ?_
    refine g_iconstv ((-1 : Int32)) d11_put_23 rfl ?_
    refine g_EV1 vm11_refuse ml11_108 c_0 (r11_refuse_1 (Nat.le_refl 0)) (by omega) (by decide) d11_put_24 ?_
    exact g_iret rfl d11_put_27 (⟨rfl, rfl⟩)
  · refine g_iload_n d11_put_4 rfl ?_
    refine g_iconstv (nI 4) d11_put_5 rfl ?_
    refine g_ic_ge _ (4) 22 (rfl) (by decide) d11_put_6 rfl (fun c6 => ?_) (fun c6 => ?_)
    · refine g_aload_n d11_put_22 rfl ?_
      refine g_iconstv ((-1 : Int32)) d11_put_23 rfl ?_
      refine g_EV1 vm11_refuse ml11_108 c_0 (r11_refuse_1 (Nat.le_refl 0)) (by omega) (by decide) d11_put_24 ?_
      exact g_iret rfl d11_put_27 (⟨rfl, rfl⟩)
    · refine g_iload_n d11_put_9 rfl ?_
      refine g_iz_lt _ 22 (rfl) d11_put_10 rfl (fun c10 => ?_) (fun c10 => ?_)
      · refine g_aload_n d11_put_22 rfl ?_
        refine g_iconstv ((-1 : Int32)) d11_put_23 rfl ?_
        refine g_EV1 vm11_refuse ml11_108 c_0 (r11_refuse_1 (Nat.le_refl 0)) (by omega) (by decide) d11_put_24 ?_
        exact g_iret rfl d11_put_27 (⟨rfl, rfl⟩)
      · refine g_iload_n d11_put_13 rfl ?_
        refine g_gets (j := 2) rfl fs11_122 d11_put_14 ?_
        have hw4 : w.toInt < 4 ∧ 0 ≤ w.toInt := by omega
        obtain ⟨j, hj, rfl⟩ : ∃ j : Nat, j < 4 ∧ w = nI j := ⟨w.toInt.toNat, by omega, by rw [i_eq, nI_ti (by omega)]; omega⟩
        have hjj : (nI j).toInt = (j : Int) := nI_ti (by omega)
        refine g_iload_n d11_put_17 rfl ?_
        refine g_iaSN (j) rfl (rfl) (by omega) (by decide) d11_put_18 ?_
        refine g_ic_le _ _ 28 (rfl) (rfl) d11_put_19 rfl (fun c19 => ?_) (fun c19 => ?_)
        · exfalso
          rcases (by omega : j = 0 ∨ j = 1 ∨ j = 2 ∨ j = 3) with rfl | rfl | rfl | rfl <;> simp [i_eq] at c19 hjj <;> first | (have e : (11 : Int32).toInt = 11 := rfl; omega) | (have e : (1 : Int32).toInt = 1 := rfl; omega) | (have e : (9 : Int32).toInt = 9 := rfl; omega)
        · refine g_aload_n d11_put_22 rfl ?_
          refine g_iconstv ((-1 : Int32)) d11_put_23 rfl ?_
          refine g_EV1 vm11_refuse ml11_108 c_0 (r11_refuse_1 (Nat.le_refl 0)) (by omega) (by decide) d11_put_24 ?_
          exact g_iret rfl d11_put_27 (⟨rfl, rfl⟩)
