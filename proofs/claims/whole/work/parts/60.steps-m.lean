theorem wpa_kd {tp : Nat → Nat} {t f : Nat} {lw : Bool} : ∀ k, wpa tp t f lw k ≠ 0 → kd tp t f = 1
  | 0, h => absurd rfl h
  | k + 1, h => by
    by_cases e : iw tp t f (lws lw k)
    · exact e.1
    · rw [show wpa tp t f lw (k + 1) = wpa tp t f lw k from if_neg e] at h; exact wpa_kd k h
theorem sg_kd {tp : Nat → Nat} {t f c : Nat} (h : sg tp t f = c) (hc : c ≠ 0) : kd tp t f = 3 := ((sg_ne hc).1 h).1
theorem kd_sg {tp : Nat → Nat} {t f : Nat} (h : kd tp t f ≠ 3) : sg tp t f = 0 := if_neg h
set_option maxHeartbeats 200000 in
theorem r12_rp_b {l : Launch} {K : cK} {d : Nat} {I : wI} {L : wL} {R : wR} {dy : cH} (tp : Nat → Nat) (t : Nat) (lw : Bool) (X : List (Nat × Nat)) (b pa br f : Nat) (hS : PSt I L tp t lw X b pa br f) (hB : b + X.length ≤ f) (hsg : sg tp t f = 91) (hbr : br < 8) (hd : 4 ≤ d) : CX l K m12_readPart d [.ref 74] (hp I L R dy) (α := wI × wL) (fun x => PSt x.1 x.2 tp t lw (X ++ [(32, 0)]) b pa (br + 1) (nxt tp t f) ∧ FP I L x.1 x.2 ∧ ∀ q, x.1 81 q = I 81 q ∧ x.1 82 q = I 82 q) (fun _ => .int (nI 1)) (fun x => hp x.1 x.2 R dy) := by
  obtain ⟨g1, g2, g3, g4, g5, g6, g7, g8, g9, g10⟩ := id hS
  have hnx := nxt_le (tp := tp) g2.1
  have ht4 := g1.1
  have hft := g2.1
  have hte := (tE_le (tp := tp) g2.1).1
  have hk3 := sg_kd hsg (by decide)
  refine CC.of ok12_readPart (Nat.le_of_ble_eq_true rfl) ?_
  refine g_aload_n d12_readPart_0 rfl ?_
  refine g_bipushv (nI 91) d12_readPart_1 rfl ?_
  refine g_EV1 vm12_isSign ml12_265 c_74 (r12_isSign tp t f hS.1 hS.2.1 91 (by decide) (by decide) (Nat.le_refl 0)) (by omega) (Nat.le_of_ble_eq_true rfl) d12_readPart_3 ?_
  refine g_bz 17 d12_readPart_6 rfl (fun c6 => absurd (hsg) c6) (fun _ => ?_)
  refine g_aload_n d12_readPart_9 rfl ?_
  refine g_bipushv (nI 32) d12_readPart_10 rfl ?_
  refine g_WV1 vm12_openBracket ml12_268 c_74 (r12_open_ok tp t lw X b pa br f hS hB 32 (Or.inr rfl) (by omega) hbr (Nat.le_refl 3)) (by omega) (Nat.le_of_ble_eq_true rfl) d12_readPart_12 (fun x hx => ?_)
  refine g_iconstv (nI 1) d12_readPart_15 rfl ?_
  exact g_iret rfl d12_readPart_16 (⟨x, hx, rfl, rfl⟩)
set_option maxHeartbeats 200000 in
theorem r12_rp_bn {l : Launch} {K : cK} {d : Nat} {I : wI} {L : wL} {R : wR} {dy : cH} (tp : Nat → Nat) (t : Nat) (lw : Bool) (X : List (Nat × Nat)) (b pa br f : Nat) (hS : PSt I L tp t lw X b pa br f) (hB : b + X.length ≤ f) (hsg : sg tp t f = 91) (hbr : ¬ br < 8) (hb8 : br ≤ 8) (hd : 4 ≤ d) : CX l K m12_readPart d [.ref 74] (hp I L R dy) (α := wI × wL) (BSt I L f) (fun _ => .int (nI 1)) (fun x => hp x.1 x.2 R dy) := by
  obtain ⟨g1, g2, g3, g4, g5, g6, g7, g8, g9, g10⟩ := id hS
  have hnx := nxt_le (tp := tp) g2.1
  have ht4 := g1.1
  have hft := g2.1
  have hte := (tE_le (tp := tp) g2.1).1
  refine CC.of ok12_readPart (Nat.le_of_ble_eq_true rfl) ?_
  refine g_aload_n d12_readPart_0 rfl ?_
  refine g_bipushv (nI 91) d12_readPart_1 rfl ?_
  refine g_EV1 vm12_isSign ml12_265 c_74 (r12_isSign tp t f hS.1 hS.2.1 91 (by decide) (by decide) (Nat.le_refl 0)) (by omega) (Nat.le_of_ble_eq_true rfl) d12_readPart_3 ?_
  refine g_bz 17 d12_readPart_6 rfl (fun c6 => absurd (hsg) c6) (fun _ => ?_)
  refine g_aload_n d12_readPart_9 rfl ?_
  refine g_bipushv (nI 32) d12_readPart_10 rfl ?_
  refine g_WV1 vm12_openBracket ml12_268 c_74 (r12_open_no tp t lw X b pa br f hS hB 32 hbr hb8 (Nat.le_refl 3)) (by omega) (Nat.le_of_ble_eq_true rfl) d12_readPart_12 (fun x hx => ?_)
  refine g_iconstv (nI 1) d12_readPart_15 rfl ?_
  exact g_iret rfl d12_readPart_16 (⟨x, hx, rfl, rfl⟩)
set_option maxHeartbeats 400000 in
theorem r12_rp_w {l : Launch} {K : cK} {d : Nat} {I : wI} {L : wL} {R : wR} {dy : cH} (tp : Nat → Nat) (t : Nat) (lw : Bool) (X : List (Nat × Nat)) (b pa br f : Nat) (hS : PSt I L tp t lw X b pa br f) (hB : b + X.length ≤ f) (hsg : sg tp t f ≠ 91) (hw : wpa tp t f lw 7 ≠ 0) (hpa : pa < 50) (hd : 4 ≤ d) : CX l K m12_readPart d [.ref 74] (hp I L R dy) (α := wI × wL) (fun x => PSt x.1 x.2 tp t lw X (b + 1) (pa + 1) br (nxt tp t f) ∧ FP I L x.1 x.2 ∧ (∀ q, q ≠ b → x.1 81 q = I 81 q ∧ x.1 82 q = I 82 q) ∧ x.1 81 b = nI (wpa tp t f lw 7) ∧ x.1 82 b = nI (0)) (fun _ => .int (nI 3)) (fun x => hp x.1 x.2 R dy) := by
  obtain ⟨g1, g2, g3, g4, g5, g6, g7, g8, g9, g10⟩ := id hS
  have hnx := nxt_le (tp := tp) g2.1
  have ht4 := g1.1
  have hft := g2.1
  have hte := (tE_le (tp := tp) g2.1).1
  have hk1 := wpa_kd 7 hw
  have hw7 := wpa_le tp t f lw 7
  refine CC.of ok12_readPart (Nat.le_of_ble_eq_true rfl) ?_
  cases lw
  · skip
    refine g_aload_n d12_readPart_0 rfl ?_
    refine g_bipushv (nI 91) d12_readPart_1 rfl ?_
    refine g_EV1 vm12_isSign ml12_265 c_74 (r12_isSign tp t f hS.1 hS.2.1 91 (by decide) (by decide) (Nat.le_refl 0)) (by omega) (Nat.le_of_ble_eq_true rfl) d12_readPart_3 ?_
    refine g_bz 17 d12_readPart_6 rfl (fun _ => ?_) (fun c6 => absurd c6 (hsg))
    refine g_aload_n d12_readPart_17 rfl ?_
    refine g_get fl12_271 d12_readPart_18 f_74_15 ?_
    refine g_topI ((1 : Int32)) (g5) ?_
    refine g_iz_eq (1) 31 (by decide) d12_readPart_21 rfl (fun c21 => absurd c21 (by decide)) (fun _ => ?_)
    refine g_aload_n d12_readPart_24 rfl ?_
    refine g_EV0 vm12_orderPartAt ml12_274 c_74 (r12_orderPartAt tp t _ X b pa br f hS (Nat.le_refl 1)) (by omega) (Nat.le_of_ble_eq_true rfl) d12_readPart_25 ?_
    refine g_topI (nI (wpa tp t f false 7)) (if_neg hw) ?_
    refine g_goto 35 d12_readPart_28 rfl ?_
    refine g_istore_n d12_readPart_35 (by decide) ?_
    refine g_aload_n d12_readPart_36 rfl ?_
    refine g_get fl12_212 d12_readPart_37 f_74_11 ?_
    refine g_topI (nI (kd tp t f)) (g2.2.2.2.1) ?_
    refine g_iconstv (nI 2) d12_readPart_40 rfl ?_
    refine g_ic_ne ((kd tp t f : Nat) : Int) (2) 59 (nI_ti (by omega)) (by decide) d12_readPart_41 rfl (fun _ => ?_) (fun c41 => absurd c41 (by omega))
    refine g_iconstv (nI 0) d12_readPart_59 rfl ?_
    refine g_istore_n d12_readPart_60 (by decide) ?_
    refine g_aload_n d12_readPart_61 rfl ?_
    refine g_iload_n d12_readPart_62 rfl ?_
    refine g_iconstv ((-1 : Int32)) d12_readPart_63 rfl ?_
    refine g_ic_ne (((wpa tp t f false 7) : Nat) : Int) (-1) 71 (nI_ti (by omega)) (by decide) d12_readPart_64 rfl (fun _ => ?_) (fun c64 => absurd c64 (by omega))
    refine g_iconstv (nI 1) d12_readPart_71 rfl ?_
    refine g_goto 76 d12_readPart_72 rfl ?_
    refine g_iload_n d12_readPart_76 rfl ?_
    refine g_iconstv ((-1 : Int32)) d12_readPart_77 rfl ?_
    refine g_ic_ne (((wpa tp t f false 7) : Nat) : Int) (-1) 85 (nI_ti (by omega)) (by decide) d12_readPart_78 rfl (fun _ => ?_) (fun c78 => absurd c78 (by omega))
    refine g_iload_n d12_readPart_85 rfl ?_
    refine g_iload_n d12_readPart_86 rfl ?_
    refine g_iz_eq (0) 98 (by decide) d12_readPart_87 rfl (fun _ => ?_) (fun c87 => absurd c87 (by decide))
    refine g_iconstv (nI 0) d12_readPart_98 rfl ?_
    refine g_WV3 vm12_leaf ml12_283 c_74 (r12_leaf_ok tp t false X b pa br f hS hB (by omega) (wpa tp t f false 7) 0 (by omega) (by decide) hpa (Nat.le_refl 3)) (by omega) (Nat.le_of_ble_eq_true rfl) d12_readPart_99 (fun x hx => ?_)
    refine g_iconstv (nI 3) d12_readPart_102 rfl ?_
    exact g_iret rfl d12_readPart_103 (⟨x, hx, rfl, rfl⟩)
  · skip
    refine g_aload_n d12_readPart_0 rfl ?_
    refine g_bipushv (nI 91) d12_readPart_1 rfl ?_
    refine g_EV1 vm12_isSign ml12_265 c_74 (r12_isSign tp t f hS.1 hS.2.1 91 (by decide) (by decide) (Nat.le_refl 0)) (by omega) (Nat.le_of_ble_eq_true rfl) d12_readPart_3 ?_
    refine g_bz 17 d12_readPart_6 rfl (fun _ => ?_) (fun c6 => absurd c6 (hsg))
    refine g_aload_n d12_readPart_17 rfl ?_
    refine g_get fl12_271 d12_readPart_18 f_74_15 ?_
    refine g_topI ((0 : Int32)) (g5) ?_
    refine g_iz_eq (0) 31 (by decide) d12_readPart_21 rfl (fun _ => ?_) (fun c21 => absurd c21 (by decide))
    refine g_aload_n d12_readPart_31 rfl ?_
    refine g_EV0 vm12_partAt ml12_278 c_74 (r12_partAt tp t _ X b pa br f hS (Nat.le_refl 1)) (by omega) (Nat.le_of_ble_eq_true rfl) d12_readPart_32 ?_
    refine g_topI (nI (wpa tp t f true 7)) (if_neg hw) ?_
    refine g_istore_n d12_readPart_35 (by decide) ?_
    refine g_aload_n d12_readPart_36 rfl ?_
    refine g_get fl12_212 d12_readPart_37 f_74_11 ?_
    refine g_topI (nI (kd tp t f)) (g2.2.2.2.1) ?_
    refine g_iconstv (nI 2) d12_readPart_40 rfl ?_
    refine g_ic_ne ((kd tp t f : Nat) : Int) (2) 59 (nI_ti (by omega)) (by decide) d12_readPart_41 rfl (fun _ => ?_) (fun c41 => absurd c41 (by omega))
    refine g_iconstv (nI 0) d12_readPart_59 rfl ?_
    refine g_istore_n d12_readPart_60 (by decide) ?_
    refine g_aload_n d12_readPart_61 rfl ?_
    refine g_iload_n d12_readPart_62 rfl ?_
    refine g_iconstv ((-1 : Int32)) d12_readPart_63 rfl ?_
    refine g_ic_ne (((wpa tp t f true 7) : Nat) : Int) (-1) 71 (nI_ti (by omega)) (by decide) d12_readPart_64 rfl (fun _ => ?_) (fun c64 => absurd c64 (by omega))
    refine g_iconstv (nI 1) d12_readPart_71 rfl ?_
    refine g_goto 76 d12_readPart_72 rfl ?_
    refine g_iload_n d12_readPart_76 rfl ?_
    refine g_iconstv ((-1 : Int32)) d12_readPart_77 rfl ?_
    refine g_ic_ne (((wpa tp t f true 7) : Nat) : Int) (-1) 85 (nI_ti (by omega)) (by decide) d12_readPart_78 rfl (fun _ => ?_) (fun c78 => absurd c78 (by omega))
    refine g_iload_n d12_readPart_85 rfl ?_
    refine g_iload_n d12_readPart_86 rfl ?_
    refine g_iz_eq (0) 98 (by decide) d12_readPart_87 rfl (fun _ => ?_) (fun c87 => absurd c87 (by decide))
    refine g_iconstv (nI 0) d12_readPart_98 rfl ?_
    refine g_WV3 vm12_leaf ml12_283 c_74 (r12_leaf_ok tp t true X b pa br f hS hB (by omega) (wpa tp t f true 7) 0 (by omega) (by decide) hpa (Nat.le_refl 3)) (by omega) (Nat.le_of_ble_eq_true rfl) d12_readPart_99 (fun x hx => ?_)
    refine g_iconstv (nI 3) d12_readPart_102 rfl ?_
    exact g_iret rfl d12_readPart_103 (⟨x, hx, rfl, rfl⟩)
set_option maxHeartbeats 400000 in
theorem r12_rp_wn {l : Launch} {K : cK} {d : Nat} {I : wI} {L : wL} {R : wR} {dy : cH} (tp : Nat → Nat) (t : Nat) (lw : Bool) (X : List (Nat × Nat)) (b pa br f : Nat) (hS : PSt I L tp t lw X b pa br f) (hB : b + X.length ≤ f) (hsg : sg tp t f ≠ 91) (hw : wpa tp t f lw 7 ≠ 0) (hpa : ¬ pa < 50) (hp5 : pa ≤ 50) (hd : 4 ≤ d) : CX l K m12_readPart d [.ref 74] (hp I L R dy) (α := wI × wL) (BSt I L f) (fun _ => .int (nI 3)) (fun x => hp x.1 x.2 R dy) := by
  obtain ⟨g1, g2, g3, g4, g5, g6, g7, g8, g9, g10⟩ := id hS
  have hnx := nxt_le (tp := tp) g2.1
  have ht4 := g1.1
  have hft := g2.1
  have hte := (tE_le (tp := tp) g2.1).1
  have hk1 := wpa_kd 7 hw
  have hw7 := wpa_le tp t f lw 7
  refine CC.of ok12_readPart (Nat.le_of_ble_eq_true rfl) ?_
  cases lw
  · skip
    refine g_aload_n d12_readPart_0 rfl ?_
    refine g_bipushv (nI 91) d12_readPart_1 rfl ?_
    refine g_EV1 vm12_isSign ml12_265 c_74 (r12_isSign tp t f hS.1 hS.2.1 91 (by decide) (by decide) (Nat.le_refl 0)) (by omega) (Nat.le_of_ble_eq_true rfl) d12_readPart_3 ?_
    refine g_bz 17 d12_readPart_6 rfl (fun _ => ?_) (fun c6 => absurd c6 (hsg))
    refine g_aload_n d12_readPart_17 rfl ?_
    refine g_get fl12_271 d12_readPart_18 f_74_15 ?_
    refine g_topI ((1 : Int32)) (g5) ?_
    refine g_iz_eq (1) 31 (by decide) d12_readPart_21 rfl (fun c21 => absurd c21 (by decide)) (fun _ => ?_)
    refine g_aload_n d12_readPart_24 rfl ?_
    refine g_EV0 vm12_orderPartAt ml12_274 c_74 (r12_orderPartAt tp t _ X b pa br f hS (Nat.le_refl 1)) (by omega) (Nat.le_of_ble_eq_true rfl) d12_readPart_25 ?_
    refine g_topI (nI (wpa tp t f false 7)) (if_neg hw) ?_
    refine g_goto 35 d12_readPart_28 rfl ?_
    refine g_istore_n d12_readPart_35 (by decide) ?_
    refine g_aload_n d12_readPart_36 rfl ?_
    refine g_get fl12_212 d12_readPart_37 f_74_11 ?_
    refine g_topI (nI (kd tp t f)) (g2.2.2.2.1) ?_
    refine g_iconstv (nI 2) d12_readPart_40 rfl ?_
    refine g_ic_ne ((kd tp t f : Nat) : Int) (2) 59 (nI_ti (by omega)) (by decide) d12_readPart_41 rfl (fun _ => ?_) (fun c41 => absurd c41 (by omega))
    refine g_iconstv (nI 0) d12_readPart_59 rfl ?_
    refine g_istore_n d12_readPart_60 (by decide) ?_
    refine g_aload_n d12_readPart_61 rfl ?_
    refine g_iload_n d12_readPart_62 rfl ?_
    refine g_iconstv ((-1 : Int32)) d12_readPart_63 rfl ?_
    refine g_ic_ne (((wpa tp t f false 7) : Nat) : Int) (-1) 71 (nI_ti (by omega)) (by decide) d12_readPart_64 rfl (fun _ => ?_) (fun c64 => absurd c64 (by omega))
    refine g_iconstv (nI 1) d12_readPart_71 rfl ?_
    refine g_goto 76 d12_readPart_72 rfl ?_
    refine g_iload_n d12_readPart_76 rfl ?_
    refine g_iconstv ((-1 : Int32)) d12_readPart_77 rfl ?_
    refine g_ic_ne (((wpa tp t f false 7) : Nat) : Int) (-1) 85 (nI_ti (by omega)) (by decide) d12_readPart_78 rfl (fun _ => ?_) (fun c78 => absurd c78 (by omega))
    refine g_iload_n d12_readPart_85 rfl ?_
    refine g_iload_n d12_readPart_86 rfl ?_
    refine g_iz_eq (0) 98 (by decide) d12_readPart_87 rfl (fun _ => ?_) (fun c87 => absurd c87 (by decide))
    refine g_iconstv (nI 0) d12_readPart_98 rfl ?_
    refine g_WV3 vm12_leaf ml12_283 c_74 (r12_leaf_no1 tp t false X b pa br f hS hB _ _ hpa hp5 (Nat.le_refl 3)) (by omega) (Nat.le_of_ble_eq_true rfl) d12_readPart_99 (fun x hx => ?_)
    refine g_iconstv (nI 3) d12_readPart_102 rfl ?_
    exact g_iret rfl d12_readPart_103 (⟨x, hx, rfl, rfl⟩)
  · skip
    refine g_aload_n d12_readPart_0 rfl ?_
    refine g_bipushv (nI 91) d12_readPart_1 rfl ?_
    refine g_EV1 vm12_isSign ml12_265 c_74 (r12_isSign tp t f hS.1 hS.2.1 91 (by decide) (by decide) (Nat.le_refl 0)) (by omega) (Nat.le_of_ble_eq_true rfl) d12_readPart_3 ?_
    refine g_bz 17 d12_readPart_6 rfl (fun _ => ?_) (fun c6 => absurd c6 (hsg))
    refine g_aload_n d12_readPart_17 rfl ?_
    refine g_get fl12_271 d12_readPart_18 f_74_15 ?_
    refine g_topI ((0 : Int32)) (g5) ?_
    refine g_iz_eq (0) 31 (by decide) d12_readPart_21 rfl (fun _ => ?_) (fun c21 => absurd c21 (by decide))
    refine g_aload_n d12_readPart_31 rfl ?_
    refine g_EV0 vm12_partAt ml12_278 c_74 (r12_partAt tp t _ X b pa br f hS (Nat.le_refl 1)) (by omega) (Nat.le_of_ble_eq_true rfl) d12_readPart_32 ?_
    refine g_topI (nI (wpa tp t f true 7)) (if_neg hw) ?_
    refine g_istore_n d12_readPart_35 (by decide) ?_
    refine g_aload_n d12_readPart_36 rfl ?_
    refine g_get fl12_212 d12_readPart_37 f_74_11 ?_
    refine g_topI (nI (kd tp t f)) (g2.2.2.2.1) ?_
    refine g_iconstv (nI 2) d12_readPart_40 rfl ?_
    refine g_ic_ne ((kd tp t f : Nat) : Int) (2) 59 (nI_ti (by omega)) (by decide) d12_readPart_41 rfl (fun _ => ?_) (fun c41 => absurd c41 (by omega))
    refine g_iconstv (nI 0) d12_readPart_59 rfl ?_
    refine g_istore_n d12_readPart_60 (by decide) ?_
    refine g_aload_n d12_readPart_61 rfl ?_
    refine g_iload_n d12_readPart_62 rfl ?_
    refine g_iconstv ((-1 : Int32)) d12_readPart_63 rfl ?_
    refine g_ic_ne (((wpa tp t f true 7) : Nat) : Int) (-1) 71 (nI_ti (by omega)) (by decide) d12_readPart_64 rfl (fun _ => ?_) (fun c64 => absurd c64 (by omega))
    refine g_iconstv (nI 1) d12_readPart_71 rfl ?_
    refine g_goto 76 d12_readPart_72 rfl ?_
    refine g_iload_n d12_readPart_76 rfl ?_
    refine g_iconstv ((-1 : Int32)) d12_readPart_77 rfl ?_
    refine g_ic_ne (((wpa tp t f true 7) : Nat) : Int) (-1) 85 (nI_ti (by omega)) (by decide) d12_readPart_78 rfl (fun _ => ?_) (fun c78 => absurd c78 (by omega))
    refine g_iload_n d12_readPart_85 rfl ?_
    refine g_iload_n d12_readPart_86 rfl ?_
    refine g_iz_eq (0) 98 (by decide) d12_readPart_87 rfl (fun _ => ?_) (fun c87 => absurd c87 (by decide))
    refine g_iconstv (nI 0) d12_readPart_98 rfl ?_
    refine g_WV3 vm12_leaf ml12_283 c_74 (r12_leaf_no1 tp t true X b pa br f hS hB _ _ hpa hp5 (Nat.le_refl 3)) (by omega) (Nat.le_of_ble_eq_true rfl) d12_readPart_99 (fun x hx => ?_)
    refine g_iconstv (nI 3) d12_readPart_102 rfl ?_
    exact g_iret rfl d12_readPart_103 (⟨x, hx, rfl, rfl⟩)
set_option maxHeartbeats 400000 in
theorem r12_rp_d {l : Launch} {K : cK} {d : Nat} {I : wI} {L : wL} {R : wR} {dy : cH} (tp : Nat → Nat) (t : Nat) (lw : Bool) (X : List (Nat × Nat)) (b pa br f : Nat) (hS : PSt I L tp t lw X b pa br f) (hB : b + X.length ≤ f) (hsg : sg tp t f ≠ 91) (hnum : num tp t f) (hpa : pa < 50) (hd : 4 ≤ d) : CX l K m12_readPart d [.ref 74] (hp I L R dy) (α := wI × wL) (fun x => PSt x.1 x.2 tp t lw X (b + 1) (pa + 1) br (nxt tp t f) ∧ FP I L x.1 x.2 ∧ (∀ q, q ≠ b → x.1 81 q = I 81 q ∧ x.1 82 q = I 82 q) ∧ x.1 81 b = nI (0) ∧ x.1 82 b = nI (nu tp t f)) (fun _ => .int (nI 3)) (fun x => hp x.1 x.2 R dy) := by
  obtain ⟨g1, g2, g3, g4, g5, g6, g7, g8, g9, g10⟩ := id hS
  have hnx := nxt_le (tp := tp) g2.1
  have ht4 := g1.1
  have hft := g2.1
  have hte := (tE_le (tp := tp) g2.1).1
  have hk2 := hnum.1
  have hnu := hnum.2
  have hw : wpa tp t f lw 7 = 0 := by
    by_cases e : wpa tp t f lw 7 = 0
    · exact e
    · have := wpa_kd 7 e; omega
  refine CC.of ok12_readPart (Nat.le_of_ble_eq_true rfl) ?_
  cases lw
  · skip
    refine g_aload_n d12_readPart_0 rfl ?_
    refine g_bipushv (nI 91) d12_readPart_1 rfl ?_
    refine g_EV1 vm12_isSign ml12_265 c_74 (r12_isSign tp t f hS.1 hS.2.1 91 (by decide) (by decide) (Nat.le_refl 0)) (by omega) (Nat.le_of_ble_eq_true rfl) d12_readPart_3 ?_
    refine g_bz 17 d12_readPart_6 rfl (fun _ => ?_) (fun c6 => absurd c6 (hsg))
    refine g_aload_n d12_readPart_17 rfl ?_
    refine g_get fl12_271 d12_readPart_18 f_74_15 ?_
    refine g_topI ((1 : Int32)) (g5) ?_
    refine g_iz_eq (1) 31 (by decide) d12_readPart_21 rfl (fun c21 => absurd c21 (by decide)) (fun _ => ?_)
    refine g_aload_n d12_readPart_24 rfl ?_
    refine g_EV0 vm12_orderPartAt ml12_274 c_74 (r12_orderPartAt tp t _ X b pa br f hS (Nat.le_refl 1)) (by omega) (Nat.le_of_ble_eq_true rfl) d12_readPart_25 ?_
    refine g_topI ((-1 : Int32)) (by rw [hw]; rfl) ?_
    refine g_goto 35 d12_readPart_28 rfl ?_
    refine g_istore_n d12_readPart_35 (by decide) ?_
    refine g_aload_n d12_readPart_36 rfl ?_
    refine g_get fl12_212 d12_readPart_37 f_74_11 ?_
    refine g_topI (nI (kd tp t f)) (g2.2.2.2.1) ?_
    refine g_iconstv (nI 2) d12_readPart_40 rfl ?_
    refine g_ic_ne ((kd tp t f : Nat) : Int) (2) 59 (nI_ti (by omega)) (by decide) d12_readPart_41 rfl (fun c41 => absurd c41 (by omega)) (fun _ => ?_)
    refine g_aload_n d12_readPart_44 rfl ?_
    refine g_get fl12_202 d12_readPart_45 f_74_12 ?_
    refine g_topL (lN (nu tp t f)) (g2.2.2.2.2.trans (wth2 hk2)) ?_
    refine g_ldc2 d12_readPart_48 kl12_281 ?_
    refine g_lx_gt ((nu tp t f : Nat) : Int) (1000) 59 (pk_lT (by omega)) (by decide) d12_readPart_51 d12_readPart_52 rfl (fun c51 => absurd c51 (by omega)) (fun _ => ?_)
    refine g_iconstv (nI 1) d12_readPart_55 rfl ?_
    refine g_goto 60 d12_readPart_56 rfl ?_
    refine g_istore_n d12_readPart_60 (by decide) ?_
    refine g_aload_n d12_readPart_61 rfl ?_
    refine g_iload_n d12_readPart_62 rfl ?_
    refine g_iconstv ((-1 : Int32)) d12_readPart_63 rfl ?_
    refine g_ic_ne (-1) (-1) 71 (by decide) (by decide) d12_readPart_64 rfl (fun c64 => absurd c64 (by decide)) (fun _ => ?_)
    refine g_iload_n d12_readPart_67 rfl ?_
    refine g_iz_eq (1) 75 (by decide) d12_readPart_68 rfl (fun c68 => absurd c68 (by decide)) (fun _ => ?_)
    refine g_iconstv (nI 1) d12_readPart_71 rfl ?_
    refine g_goto 76 d12_readPart_72 rfl ?_
    refine g_iload_n d12_readPart_76 rfl ?_
    refine g_iconstv ((-1 : Int32)) d12_readPart_77 rfl ?_
    refine g_ic_ne (-1) (-1) 85 (by decide) (by decide) d12_readPart_78 rfl (fun c78 => absurd c78 (by decide)) (fun _ => ?_)
    refine g_iconstv (nI 0) d12_readPart_81 rfl ?_
    refine g_goto 86 d12_readPart_82 rfl ?_
    refine g_iload_n d12_readPart_86 rfl ?_
    refine g_iz_eq (1) 98 (by decide) d12_readPart_87 rfl (fun c87 => absurd c87 (by decide)) (fun _ => ?_)
    refine g_aload_n d12_readPart_90 rfl ?_
    refine g_get fl12_202 d12_readPart_91 f_74_12 ?_
    refine g_topL (lN (nu tp t f)) (g2.2.2.2.2.trans (wth2 hk2)) ?_
    refine g_l2i d12_readPart_94 ?_
    refine g_topI (nI (nu tp t f)) (lN_i _) ?_
    refine g_goto 99 d12_readPart_95 rfl ?_
    refine g_WV3 vm12_leaf ml12_283 c_74 (r12_leaf_ok tp t false X b pa br f hS hB (by omega) 0 (nu tp t f) (by decide) (by omega) hpa (Nat.le_refl 3)) (by omega) (Nat.le_of_ble_eq_true rfl) d12_readPart_99 (fun x hx => ?_)
    refine g_iconstv (nI 3) d12_readPart_102 rfl ?_
    exact g_iret rfl d12_readPart_103 (⟨x, hx, rfl, rfl⟩)
  · skip
    refine g_aload_n d12_readPart_0 rfl ?_
    refine g_bipushv (nI 91) d12_readPart_1 rfl ?_
    refine g_EV1 vm12_isSign ml12_265 c_74 (r12_isSign tp t f hS.1 hS.2.1 91 (by decide) (by decide) (Nat.le_refl 0)) (by omega) (Nat.le_of_ble_eq_true rfl) d12_readPart_3 ?_
    refine g_bz 17 d12_readPart_6 rfl (fun _ => ?_) (fun c6 => absurd c6 (hsg))
    refine g_aload_n d12_readPart_17 rfl ?_
    refine g_get fl12_271 d12_readPart_18 f_74_15 ?_
    refine g_topI ((0 : Int32)) (g5) ?_
    refine g_iz_eq (0) 31 (by decide) d12_readPart_21 rfl (fun _ => ?_) (fun c21 => absurd c21 (by decide))
    refine g_aload_n d12_readPart_31 rfl ?_
    refine g_EV0 vm12_partAt ml12_278 c_74 (r12_partAt tp t _ X b pa br f hS (Nat.le_refl 1)) (by omega) (Nat.le_of_ble_eq_true rfl) d12_readPart_32 ?_
    refine g_topI ((-1 : Int32)) (by rw [hw]; rfl) ?_
    refine g_istore_n d12_readPart_35 (by decide) ?_
    refine g_aload_n d12_readPart_36 rfl ?_
    refine g_get fl12_212 d12_readPart_37 f_74_11 ?_
    refine g_topI (nI (kd tp t f)) (g2.2.2.2.1) ?_
    refine g_iconstv (nI 2) d12_readPart_40 rfl ?_
    refine g_ic_ne ((kd tp t f : Nat) : Int) (2) 59 (nI_ti (by omega)) (by decide) d12_readPart_41 rfl (fun c41 => absurd c41 (by omega)) (fun _ => ?_)
    refine g_aload_n d12_readPart_44 rfl ?_
    refine g_get fl12_202 d12_readPart_45 f_74_12 ?_
    refine g_topL (lN (nu tp t f)) (g2.2.2.2.2.trans (wth2 hk2)) ?_
    refine g_ldc2 d12_readPart_48 kl12_281 ?_
    refine g_lx_gt ((nu tp t f : Nat) : Int) (1000) 59 (pk_lT (by omega)) (by decide) d12_readPart_51 d12_readPart_52 rfl (fun c51 => absurd c51 (by omega)) (fun _ => ?_)
    refine g_iconstv (nI 1) d12_readPart_55 rfl ?_
    refine g_goto 60 d12_readPart_56 rfl ?_
    refine g_istore_n d12_readPart_60 (by decide) ?_
    refine g_aload_n d12_readPart_61 rfl ?_
    refine g_iload_n d12_readPart_62 rfl ?_
    refine g_iconstv ((-1 : Int32)) d12_readPart_63 rfl ?_
    refine g_ic_ne (-1) (-1) 71 (by decide) (by decide) d12_readPart_64 rfl (fun c64 => absurd c64 (by decide)) (fun _ => ?_)
    refine g_iload_n d12_readPart_67 rfl ?_
    refine g_iz_eq (1) 75 (by decide) d12_readPart_68 rfl (fun c68 => absurd c68 (by decide)) (fun _ => ?_)
    refine g_iconstv (nI 1) d12_readPart_71 rfl ?_
    refine g_goto 76 d12_readPart_72 rfl ?_
    refine g_iload_n d12_readPart_76 rfl ?_
    refine g_iconstv ((-1 : Int32)) d12_readPart_77 rfl ?_
    refine g_ic_ne (-1) (-1) 85 (by decide) (by decide) d12_readPart_78 rfl (fun c78 => absurd c78 (by decide)) (fun _ => ?_)
    refine g_iconstv (nI 0) d12_readPart_81 rfl ?_
    refine g_goto 86 d12_readPart_82 rfl ?_
    refine g_iload_n d12_readPart_86 rfl ?_
    refine g_iz_eq (1) 98 (by decide) d12_readPart_87 rfl (fun c87 => absurd c87 (by decide)) (fun _ => ?_)
    refine g_aload_n d12_readPart_90 rfl ?_
    refine g_get fl12_202 d12_readPart_91 f_74_12 ?_
    refine g_topL (lN (nu tp t f)) (g2.2.2.2.2.trans (wth2 hk2)) ?_
    refine g_l2i d12_readPart_94 ?_
    refine g_topI (nI (nu tp t f)) (lN_i _) ?_
    refine g_goto 99 d12_readPart_95 rfl ?_
    refine g_WV3 vm12_leaf ml12_283 c_74 (r12_leaf_ok tp t true X b pa br f hS hB (by omega) 0 (nu tp t f) (by decide) (by omega) hpa (Nat.le_refl 3)) (by omega) (Nat.le_of_ble_eq_true rfl) d12_readPart_99 (fun x hx => ?_)
    refine g_iconstv (nI 3) d12_readPart_102 rfl ?_
    exact g_iret rfl d12_readPart_103 (⟨x, hx, rfl, rfl⟩)
set_option maxHeartbeats 400000 in
theorem r12_rp_dn {l : Launch} {K : cK} {d : Nat} {I : wI} {L : wL} {R : wR} {dy : cH} (tp : Nat → Nat) (t : Nat) (lw : Bool) (X : List (Nat × Nat)) (b pa br f : Nat) (hS : PSt I L tp t lw X b pa br f) (hB : b + X.length ≤ f) (hsg : sg tp t f ≠ 91) (hnum : num tp t f) (hpa : ¬ pa < 50) (hp5 : pa ≤ 50) (hd : 4 ≤ d) : CX l K m12_readPart d [.ref 74] (hp I L R dy) (α := wI × wL) (BSt I L f) (fun _ => .int (nI 3)) (fun x => hp x.1 x.2 R dy) := by
  obtain ⟨g1, g2, g3, g4, g5, g6, g7, g8, g9, g10⟩ := id hS
  have hnx := nxt_le (tp := tp) g2.1
  have ht4 := g1.1
  have hft := g2.1
  have hte := (tE_le (tp := tp) g2.1).1
  have hk2 := hnum.1
  have hnu := hnum.2
  have hw : wpa tp t f lw 7 = 0 := by
    by_cases e : wpa tp t f lw 7 = 0
    · exact e
    · have := wpa_kd 7 e; omega
  refine CC.of ok12_readPart (Nat.le_of_ble_eq_true rfl) ?_
  cases lw
  · skip
    refine g_aload_n d12_readPart_0 rfl ?_
    refine g_bipushv (nI 91) d12_readPart_1 rfl ?_
    refine g_EV1 vm12_isSign ml12_265 c_74 (r12_isSign tp t f hS.1 hS.2.1 91 (by decide) (by decide) (Nat.le_refl 0)) (by omega) (Nat.le_of_ble_eq_true rfl) d12_readPart_3 ?_
    refine g_bz 17 d12_readPart_6 rfl (fun _ => ?_) (fun c6 => absurd c6 (hsg))
    refine g_aload_n d12_readPart_17 rfl ?_
    refine g_get fl12_271 d12_readPart_18 f_74_15 ?_
    refine g_topI ((1 : Int32)) (g5) ?_
    refine g_iz_eq (1) 31 (by decide) d12_readPart_21 rfl (fun c21 => absurd c21 (by decide)) (fun _ => ?_)
    refine g_aload_n d12_readPart_24 rfl ?_
    refine g_EV0 vm12_orderPartAt ml12_274 c_74 (r12_orderPartAt tp t _ X b pa br f hS (Nat.le_refl 1)) (by omega) (Nat.le_of_ble_eq_true rfl) d12_readPart_25 ?_
    refine g_topI ((-1 : Int32)) (by rw [hw]; rfl) ?_
    refine g_goto 35 d12_readPart_28 rfl ?_
    refine g_istore_n d12_readPart_35 (by decide) ?_
    refine g_aload_n d12_readPart_36 rfl ?_
    refine g_get fl12_212 d12_readPart_37 f_74_11 ?_
    refine g_topI (nI (kd tp t f)) (g2.2.2.2.1) ?_
    refine g_iconstv (nI 2) d12_readPart_40 rfl ?_
    refine g_ic_ne ((kd tp t f : Nat) : Int) (2) 59 (nI_ti (by omega)) (by decide) d12_readPart_41 rfl (fun c41 => absurd c41 (by omega)) (fun _ => ?_)
    refine g_aload_n d12_readPart_44 rfl ?_
    refine g_get fl12_202 d12_readPart_45 f_74_12 ?_
    refine g_topL (lN (nu tp t f)) (g2.2.2.2.2.trans (wth2 hk2)) ?_
    refine g_ldc2 d12_readPart_48 kl12_281 ?_
    refine g_lx_gt ((nu tp t f : Nat) : Int) (1000) 59 (pk_lT (by omega)) (by decide) d12_readPart_51 d12_readPart_52 rfl (fun c51 => absurd c51 (by omega)) (fun _ => ?_)
    refine g_iconstv (nI 1) d12_readPart_55 rfl ?_
    refine g_goto 60 d12_readPart_56 rfl ?_
    refine g_istore_n d12_readPart_60 (by decide) ?_
    refine g_aload_n d12_readPart_61 rfl ?_
    refine g_iload_n d12_readPart_62 rfl ?_
    refine g_iconstv ((-1 : Int32)) d12_readPart_63 rfl ?_
    refine g_ic_ne (-1) (-1) 71 (by decide) (by decide) d12_readPart_64 rfl (fun c64 => absurd c64 (by decide)) (fun _ => ?_)
    refine g_iload_n d12_readPart_67 rfl ?_
    refine g_iz_eq (1) 75 (by decide) d12_readPart_68 rfl (fun c68 => absurd c68 (by decide)) (fun _ => ?_)
    refine g_iconstv (nI 1) d12_readPart_71 rfl ?_
    refine g_goto 76 d12_readPart_72 rfl ?_
    refine g_iload_n d12_readPart_76 rfl ?_
    refine g_iconstv ((-1 : Int32)) d12_readPart_77 rfl ?_
    refine g_ic_ne (-1) (-1) 85 (by decide) (by decide) d12_readPart_78 rfl (fun c78 => absurd c78 (by decide)) (fun _ => ?_)
    refine g_iconstv (nI 0) d12_readPart_81 rfl ?_
    refine g_goto 86 d12_readPart_82 rfl ?_
    refine g_iload_n d12_readPart_86 rfl ?_
    refine g_iz_eq (1) 98 (by decide) d12_readPart_87 rfl (fun c87 => absurd c87 (by decide)) (fun _ => ?_)
    refine g_aload_n d12_readPart_90 rfl ?_
    refine g_get fl12_202 d12_readPart_91 f_74_12 ?_
    refine g_topL (lN (nu tp t f)) (g2.2.2.2.2.trans (wth2 hk2)) ?_
    refine g_l2i d12_readPart_94 ?_
    refine g_topI (nI (nu tp t f)) (lN_i _) ?_
    refine g_goto 99 d12_readPart_95 rfl ?_
    refine g_WV3 vm12_leaf ml12_283 c_74 (r12_leaf_no1 tp t false X b pa br f hS hB _ _ hpa hp5 (Nat.le_refl 3)) (by omega) (Nat.le_of_ble_eq_true rfl) d12_readPart_99 (fun x hx => ?_)
    refine g_iconstv (nI 3) d12_readPart_102 rfl ?_
    exact g_iret rfl d12_readPart_103 (⟨x, hx, rfl, rfl⟩)
  · skip
    refine g_aload_n d12_readPart_0 rfl ?_
    refine g_bipushv (nI 91) d12_readPart_1 rfl ?_
    refine g_EV1 vm12_isSign ml12_265 c_74 (r12_isSign tp t f hS.1 hS.2.1 91 (by decide) (by decide) (Nat.le_refl 0)) (by omega) (Nat.le_of_ble_eq_true rfl) d12_readPart_3 ?_
    refine g_bz 17 d12_readPart_6 rfl (fun _ => ?_) (fun c6 => absurd c6 (hsg))
    refine g_aload_n d12_readPart_17 rfl ?_
    refine g_get fl12_271 d12_readPart_18 f_74_15 ?_
    refine g_topI ((0 : Int32)) (g5) ?_
    refine g_iz_eq (0) 31 (by decide) d12_readPart_21 rfl (fun _ => ?_) (fun c21 => absurd c21 (by decide))
    refine g_aload_n d12_readPart_31 rfl ?_
    refine g_EV0 vm12_partAt ml12_278 c_74 (r12_partAt tp t _ X b pa br f hS (Nat.le_refl 1)) (by omega) (Nat.le_of_ble_eq_true rfl) d12_readPart_32 ?_
    refine g_topI ((-1 : Int32)) (by rw [hw]; rfl) ?_
    refine g_istore_n d12_readPart_35 (by decide) ?_
    refine g_aload_n d12_readPart_36 rfl ?_
    refine g_get fl12_212 d12_readPart_37 f_74_11 ?_
    refine g_topI (nI (kd tp t f)) (g2.2.2.2.1) ?_
    refine g_iconstv (nI 2) d12_readPart_40 rfl ?_
    refine g_ic_ne ((kd tp t f : Nat) : Int) (2) 59 (nI_ti (by omega)) (by decide) d12_readPart_41 rfl (fun c41 => absurd c41 (by omega)) (fun _ => ?_)
    refine g_aload_n d12_readPart_44 rfl ?_
    refine g_get fl12_202 d12_readPart_45 f_74_12 ?_
    refine g_topL (lN (nu tp t f)) (g2.2.2.2.2.trans (wth2 hk2)) ?_
    refine g_ldc2 d12_readPart_48 kl12_281 ?_
    refine g_lx_gt ((nu tp t f : Nat) : Int) (1000) 59 (pk_lT (by omega)) (by decide) d12_readPart_51 d12_readPart_52 rfl (fun c51 => absurd c51 (by omega)) (fun _ => ?_)
    refine g_iconstv (nI 1) d12_readPart_55 rfl ?_
    refine g_goto 60 d12_readPart_56 rfl ?_
    refine g_istore_n d12_readPart_60 (by decide) ?_
    refine g_aload_n d12_readPart_61 rfl ?_
    refine g_iload_n d12_readPart_62 rfl ?_
    refine g_iconstv ((-1 : Int32)) d12_readPart_63 rfl ?_
    refine g_ic_ne (-1) (-1) 71 (by decide) (by decide) d12_readPart_64 rfl (fun c64 => absurd c64 (by decide)) (fun _ => ?_)
    refine g_iload_n d12_readPart_67 rfl ?_
    refine g_iz_eq (1) 75 (by decide) d12_readPart_68 rfl (fun c68 => absurd c68 (by decide)) (fun _ => ?_)
    refine g_iconstv (nI 1) d12_readPart_71 rfl ?_
    refine g_goto 76 d12_readPart_72 rfl ?_
    refine g_iload_n d12_readPart_76 rfl ?_
    refine g_iconstv ((-1 : Int32)) d12_readPart_77 rfl ?_
    refine g_ic_ne (-1) (-1) 85 (by decide) (by decide) d12_readPart_78 rfl (fun c78 => absurd c78 (by decide)) (fun _ => ?_)
    refine g_iconstv (nI 0) d12_readPart_81 rfl ?_
    refine g_goto 86 d12_readPart_82 rfl ?_
    refine g_iload_n d12_readPart_86 rfl ?_
    refine g_iz_eq (1) 98 (by decide) d12_readPart_87 rfl (fun c87 => absurd c87 (by decide)) (fun _ => ?_)
    refine g_aload_n d12_readPart_90 rfl ?_
    refine g_get fl12_202 d12_readPart_91 f_74_12 ?_
    refine g_topL (lN (nu tp t f)) (g2.2.2.2.2.trans (wth2 hk2)) ?_
    refine g_l2i d12_readPart_94 ?_
    refine g_topI (nI (nu tp t f)) (lN_i _) ?_
    refine g_goto 99 d12_readPart_95 rfl ?_
    refine g_WV3 vm12_leaf ml12_283 c_74 (r12_leaf_no1 tp t true X b pa br f hS hB _ _ hpa hp5 (Nat.le_refl 3)) (by omega) (Nat.le_of_ble_eq_true rfl) d12_readPart_99 (fun x hx => ?_)
    refine g_iconstv (nI 3) d12_readPart_102 rfl ?_
    exact g_iret rfl d12_readPart_103 (⟨x, hx, rfl, rfl⟩)
set_option maxHeartbeats 400000 in
theorem r12_rp_n {l : Launch} {K : cK} {d : Nat} {I : wI} {L : wL} {R : wR} {dy : cH} (tp : Nat → Nat) (t : Nat) (lw : Bool) (X : List (Nat × Nat)) (b pa br f : Nat) (hS : PSt I L tp t lw X b pa br f) (hB : b + X.length ≤ f) (hsg : sg tp t f ≠ 91) (hw : wpa tp t f lw 7 = 0) (hnum : ¬ num tp t f) (hd : 4 ≤ d) : CX l K m12_readPart d [.ref 74] (hp I L R dy) (α := wI × wL) (BSt I L f) (fun _ => .int (nI 3)) (fun x => hp x.1 x.2 R dy) := by
  obtain ⟨g1, g2, g3, g4, g5, g6, g7, g8, g9, g10⟩ := id hS
  have hnx := nxt_le (tp := tp) g2.1
  have ht4 := g1.1
  have hft := g2.1
  have hte := (tE_le (tp := tp) g2.1).1
  have hk3 := kd_le tp t f
  have hnu : kd tp t f = 2 → 1000 < nu tp t f := fun z => by have := fun y => hnum ⟨z, y⟩; omega
  refine CC.of ok12_readPart (Nat.le_of_ble_eq_true rfl) ?_
  cases lw
  · skip
    by_cases hk2 : kd tp t f = 2
    · have hnl := nu_le hk2
      refine g_aload_n d12_readPart_0 rfl ?_
      refine g_bipushv (nI 91) d12_readPart_1 rfl ?_
      refine g_EV1 vm12_isSign ml12_265 c_74 (r12_isSign tp t f hS.1 hS.2.1 91 (by decide) (by decide) (Nat.le_refl 0)) (by omega) (Nat.le_of_ble_eq_true rfl) d12_readPart_3 ?_
      refine g_bz 17 d12_readPart_6 rfl (fun _ => ?_) (fun c6 => absurd c6 (hsg))
      refine g_aload_n d12_readPart_17 rfl ?_
      refine g_get fl12_271 d12_readPart_18 f_74_15 ?_
      refine g_topI ((1 : Int32)) (g5) ?_
      refine g_iz_eq (1) 31 (by decide) d12_readPart_21 rfl (fun c21 => absurd c21 (by decide)) (fun _ => ?_)
      refine g_aload_n d12_readPart_24 rfl ?_
      refine g_EV0 vm12_orderPartAt ml12_274 c_74 (r12_orderPartAt tp t _ X b pa br f hS (Nat.le_refl 1)) (by omega) (Nat.le_of_ble_eq_true rfl) d12_readPart_25 ?_
      refine g_topI ((-1 : Int32)) (by rw [hw]; rfl) ?_
      refine g_goto 35 d12_readPart_28 rfl ?_
      refine g_istore_n d12_readPart_35 (by decide) ?_
      refine g_aload_n d12_readPart_36 rfl ?_
      refine g_get fl12_212 d12_readPart_37 f_74_11 ?_
      refine g_topI (nI (kd tp t f)) (g2.2.2.2.1) ?_
      refine g_iconstv (nI 2) d12_readPart_40 rfl ?_
      refine g_ic_ne ((kd tp t f : Nat) : Int) (2) 59 (nI_ti (by omega)) (by decide) d12_readPart_41 rfl (fun c41 => absurd c41 (by omega)) (fun _ => ?_)
      refine g_aload_n d12_readPart_44 rfl ?_
      refine g_get fl12_202 d12_readPart_45 f_74_12 ?_
      refine g_topL (lN (nu tp t f)) (g2.2.2.2.2.trans (wth2 hk2)) ?_
      refine g_ldc2 d12_readPart_48 kl12_281 ?_
      refine g_lx_gt ((nu tp t f : Nat) : Int) (1000) 59 (pk_lT (by omega)) (by decide) d12_readPart_51 d12_readPart_52 rfl (fun _ => ?_) (fun c51 => absurd c51 (by have := hnu hk2; omega))
      refine g_iconstv (nI 0) d12_readPart_59 rfl ?_
      refine g_istore_n d12_readPart_60 (by decide) ?_
      refine g_aload_n d12_readPart_61 rfl ?_
      refine g_iload_n d12_readPart_62 rfl ?_
      refine g_iconstv ((-1 : Int32)) d12_readPart_63 rfl ?_
      refine g_ic_ne (-1) (-1) 71 (by decide) (by decide) d12_readPart_64 rfl (fun c64 => absurd c64 (by decide)) (fun _ => ?_)
      refine g_iload_n d12_readPart_67 rfl ?_
      refine g_iz_eq (0) 75 (by decide) d12_readPart_68 rfl (fun _ => ?_) (fun c68 => absurd c68 (by decide))
      refine g_iconstv (nI 0) d12_readPart_75 rfl ?_
      refine g_iload_n d12_readPart_76 rfl ?_
      refine g_iconstv ((-1 : Int32)) d12_readPart_77 rfl ?_
      refine g_ic_ne (-1) (-1) 85 (by decide) (by decide) d12_readPart_78 rfl (fun c78 => absurd c78 (by decide)) (fun _ => ?_)
      refine g_iconstv (nI 0) d12_readPart_81 rfl ?_
      refine g_goto 86 d12_readPart_82 rfl ?_
      refine g_iload_n d12_readPart_86 rfl ?_
      refine g_iz_eq (0) 98 (by decide) d12_readPart_87 rfl (fun _ => ?_) (fun c87 => absurd c87 (by decide))
      refine g_iconstv (nI 0) d12_readPart_98 rfl ?_
      refine g_WV3 vm12_leaf ml12_283 c_74 (r12_leaf_no0 tp t false X b pa br f hS hB _ _ (Nat.le_refl 3)) (by omega) (Nat.le_of_ble_eq_true rfl) d12_readPart_99 (fun x hx => ?_)
      refine g_iconstv (nI 3) d12_readPart_102 rfl ?_
      exact g_iret rfl d12_readPart_103 (⟨x, hx, rfl, rfl⟩)
    · skip
      refine g_aload_n d12_readPart_0 rfl ?_
      refine g_bipushv (nI 91) d12_readPart_1 rfl ?_
      refine g_EV1 vm12_isSign ml12_265 c_74 (r12_isSign tp t f hS.1 hS.2.1 91 (by decide) (by decide) (Nat.le_refl 0)) (by omega) (Nat.le_of_ble_eq_true rfl) d12_readPart_3 ?_
      refine g_bz 17 d12_readPart_6 rfl (fun _ => ?_) (fun c6 => absurd c6 (hsg))
      refine g_aload_n d12_readPart_17 rfl ?_
      refine g_get fl12_271 d12_readPart_18 f_74_15 ?_
      refine g_topI ((1 : Int32)) (g5) ?_
      refine g_iz_eq (1) 31 (by decide) d12_readPart_21 rfl (fun c21 => absurd c21 (by decide)) (fun _ => ?_)
      refine g_aload_n d12_readPart_24 rfl ?_
      refine g_EV0 vm12_orderPartAt ml12_274 c_74 (r12_orderPartAt tp t _ X b pa br f hS (Nat.le_refl 1)) (by omega) (Nat.le_of_ble_eq_true rfl) d12_readPart_25 ?_
      refine g_topI ((-1 : Int32)) (by rw [hw]; rfl) ?_
      refine g_goto 35 d12_readPart_28 rfl ?_
      refine g_istore_n d12_readPart_35 (by decide) ?_
      refine g_aload_n d12_readPart_36 rfl ?_
      refine g_get fl12_212 d12_readPart_37 f_74_11 ?_
      refine g_topI (nI (kd tp t f)) (g2.2.2.2.1) ?_
      refine g_iconstv (nI 2) d12_readPart_40 rfl ?_
      refine g_ic_ne ((kd tp t f : Nat) : Int) (2) 59 (nI_ti (by omega)) (by decide) d12_readPart_41 rfl (fun _ => ?_) (fun c41 => absurd c41 (by omega))
      refine g_iconstv (nI 0) d12_readPart_59 rfl ?_
      refine g_istore_n d12_readPart_60 (by decide) ?_
      refine g_aload_n d12_readPart_61 rfl ?_
      refine g_iload_n d12_readPart_62 rfl ?_
      refine g_iconstv ((-1 : Int32)) d12_readPart_63 rfl ?_
      refine g_ic_ne (-1) (-1) 71 (by decide) (by decide) d12_readPart_64 rfl (fun c64 => absurd c64 (by decide)) (fun _ => ?_)
      refine g_iload_n d12_readPart_67 rfl ?_
      refine g_iz_eq (0) 75 (by decide) d12_readPart_68 rfl (fun _ => ?_) (fun c68 => absurd c68 (by decide))
      refine g_iconstv (nI 0) d12_readPart_75 rfl ?_
      refine g_iload_n d12_readPart_76 rfl ?_
      refine g_iconstv ((-1 : Int32)) d12_readPart_77 rfl ?_
      refine g_ic_ne (-1) (-1) 85 (by decide) (by decide) d12_readPart_78 rfl (fun c78 => absurd c78 (by decide)) (fun _ => ?_)
      refine g_iconstv (nI 0) d12_readPart_81 rfl ?_
      refine g_goto 86 d12_readPart_82 rfl ?_
      refine g_iload_n d12_readPart_86 rfl ?_
      refine g_iz_eq (0) 98 (by decide) d12_readPart_87 rfl (fun _ => ?_) (fun c87 => absurd c87 (by decide))
      refine g_iconstv (nI 0) d12_readPart_98 rfl ?_
      refine g_WV3 vm12_leaf ml12_283 c_74 (r12_leaf_no0 tp t false X b pa br f hS hB _ _ (Nat.le_refl 3)) (by omega) (Nat.le_of_ble_eq_true rfl) d12_readPart_99 (fun x hx => ?_)
      refine g_iconstv (nI 3) d12_readPart_102 rfl ?_
      exact g_iret rfl d12_readPart_103 (⟨x, hx, rfl, rfl⟩)
  · skip
    by_cases hk2 : kd tp t f = 2
    · have hnl := nu_le hk2
      refine g_aload_n d12_readPart_0 rfl ?_
      refine g_bipushv (nI 91) d12_readPart_1 rfl ?_
      refine g_EV1 vm12_isSign ml12_265 c_74 (r12_isSign tp t f hS.1 hS.2.1 91 (by decide) (by decide) (Nat.le_refl 0)) (by omega) (Nat.le_of_ble_eq_true rfl) d12_readPart_3 ?_
      refine g_bz 17 d12_readPart_6 rfl (fun _ => ?_) (fun c6 => absurd c6 (hsg))
      refine g_aload_n d12_readPart_17 rfl ?_
      refine g_get fl12_271 d12_readPart_18 f_74_15 ?_
      refine g_topI ((0 : Int32)) (g5) ?_
      refine g_iz_eq (0) 31 (by decide) d12_readPart_21 rfl (fun _ => ?_) (fun c21 => absurd c21 (by decide))
      refine g_aload_n d12_readPart_31 rfl ?_
      refine g_EV0 vm12_partAt ml12_278 c_74 (r12_partAt tp t _ X b pa br f hS (Nat.le_refl 1)) (by omega) (Nat.le_of_ble_eq_true rfl) d12_readPart_32 ?_
      refine g_topI ((-1 : Int32)) (by rw [hw]; rfl) ?_
      refine g_istore_n d12_readPart_35 (by decide) ?_
      refine g_aload_n d12_readPart_36 rfl ?_
      refine g_get fl12_212 d12_readPart_37 f_74_11 ?_
      refine g_topI (nI (kd tp t f)) (g2.2.2.2.1) ?_
      refine g_iconstv (nI 2) d12_readPart_40 rfl ?_
      refine g_ic_ne ((kd tp t f : Nat) : Int) (2) 59 (nI_ti (by omega)) (by decide) d12_readPart_41 rfl (fun c41 => absurd c41 (by omega)) (fun _ => ?_)
      refine g_aload_n d12_readPart_44 rfl ?_
      refine g_get fl12_202 d12_readPart_45 f_74_12 ?_
      refine g_topL (lN (nu tp t f)) (g2.2.2.2.2.trans (wth2 hk2)) ?_
      refine g_ldc2 d12_readPart_48 kl12_281 ?_
      refine g_lx_gt ((nu tp t f : Nat) : Int) (1000) 59 (pk_lT (by omega)) (by decide) d12_readPart_51 d12_readPart_52 rfl (fun _ => ?_) (fun c51 => absurd c51 (by have := hnu hk2; omega))
      refine g_iconstv (nI 0) d12_readPart_59 rfl ?_
      refine g_istore_n d12_readPart_60 (by decide) ?_
      refine g_aload_n d12_readPart_61 rfl ?_
      refine g_iload_n d12_readPart_62 rfl ?_
      refine g_iconstv ((-1 : Int32)) d12_readPart_63 rfl ?_
      refine g_ic_ne (-1) (-1) 71 (by decide) (by decide) d12_readPart_64 rfl (fun c64 => absurd c64 (by decide)) (fun _ => ?_)
      refine g_iload_n d12_readPart_67 rfl ?_
      refine g_iz_eq (0) 75 (by decide) d12_readPart_68 rfl (fun _ => ?_) (fun c68 => absurd c68 (by decide))
      refine g_iconstv (nI 0) d12_readPart_75 rfl ?_
      refine g_iload_n d12_readPart_76 rfl ?_
      refine g_iconstv ((-1 : Int32)) d12_readPart_77 rfl ?_
      refine g_ic_ne (-1) (-1) 85 (by decide) (by decide) d12_readPart_78 rfl (fun c78 => absurd c78 (by decide)) (fun _ => ?_)
      refine g_iconstv (nI 0) d12_readPart_81 rfl ?_
      refine g_goto 86 d12_readPart_82 rfl ?_
      refine g_iload_n d12_readPart_86 rfl ?_
      refine g_iz_eq (0) 98 (by decide) d12_readPart_87 rfl (fun _ => ?_) (fun c87 => absurd c87 (by decide))
      refine g_iconstv (nI 0) d12_readPart_98 rfl ?_
      refine g_WV3 vm12_leaf ml12_283 c_74 (r12_leaf_no0 tp t true X b pa br f hS hB _ _ (Nat.le_refl 3)) (by omega) (Nat.le_of_ble_eq_true rfl) d12_readPart_99 (fun x hx => ?_)
      refine g_iconstv (nI 3) d12_readPart_102 rfl ?_
      exact g_iret rfl d12_readPart_103 (⟨x, hx, rfl, rfl⟩)
    · skip
      refine g_aload_n d12_readPart_0 rfl ?_
      refine g_bipushv (nI 91) d12_readPart_1 rfl ?_
      refine g_EV1 vm12_isSign ml12_265 c_74 (r12_isSign tp t f hS.1 hS.2.1 91 (by decide) (by decide) (Nat.le_refl 0)) (by omega) (Nat.le_of_ble_eq_true rfl) d12_readPart_3 ?_
      refine g_bz 17 d12_readPart_6 rfl (fun _ => ?_) (fun c6 => absurd c6 (hsg))
      refine g_aload_n d12_readPart_17 rfl ?_
      refine g_get fl12_271 d12_readPart_18 f_74_15 ?_
      refine g_topI ((0 : Int32)) (g5) ?_
      refine g_iz_eq (0) 31 (by decide) d12_readPart_21 rfl (fun _ => ?_) (fun c21 => absurd c21 (by decide))
      refine g_aload_n d12_readPart_31 rfl ?_
      refine g_EV0 vm12_partAt ml12_278 c_74 (r12_partAt tp t _ X b pa br f hS (Nat.le_refl 1)) (by omega) (Nat.le_of_ble_eq_true rfl) d12_readPart_32 ?_
      refine g_topI ((-1 : Int32)) (by rw [hw]; rfl) ?_
      refine g_istore_n d12_readPart_35 (by decide) ?_
      refine g_aload_n d12_readPart_36 rfl ?_
      refine g_get fl12_212 d12_readPart_37 f_74_11 ?_
      refine g_topI (nI (kd tp t f)) (g2.2.2.2.1) ?_
      refine g_iconstv (nI 2) d12_readPart_40 rfl ?_
      refine g_ic_ne ((kd tp t f : Nat) : Int) (2) 59 (nI_ti (by omega)) (by decide) d12_readPart_41 rfl (fun _ => ?_) (fun c41 => absurd c41 (by omega))
      refine g_iconstv (nI 0) d12_readPart_59 rfl ?_
      refine g_istore_n d12_readPart_60 (by decide) ?_
      refine g_aload_n d12_readPart_61 rfl ?_
      refine g_iload_n d12_readPart_62 rfl ?_
      refine g_iconstv ((-1 : Int32)) d12_readPart_63 rfl ?_
      refine g_ic_ne (-1) (-1) 71 (by decide) (by decide) d12_readPart_64 rfl (fun c64 => absurd c64 (by decide)) (fun _ => ?_)
      refine g_iload_n d12_readPart_67 rfl ?_
      refine g_iz_eq (0) 75 (by decide) d12_readPart_68 rfl (fun _ => ?_) (fun c68 => absurd c68 (by decide))
      refine g_iconstv (nI 0) d12_readPart_75 rfl ?_
      refine g_iload_n d12_readPart_76 rfl ?_
      refine g_iconstv ((-1 : Int32)) d12_readPart_77 rfl ?_
      refine g_ic_ne (-1) (-1) 85 (by decide) (by decide) d12_readPart_78 rfl (fun c78 => absurd c78 (by decide)) (fun _ => ?_)
      refine g_iconstv (nI 0) d12_readPart_81 rfl ?_
      refine g_goto 86 d12_readPart_82 rfl ?_
      refine g_iload_n d12_readPart_86 rfl ?_
      refine g_iz_eq (0) 98 (by decide) d12_readPart_87 rfl (fun _ => ?_) (fun c87 => absurd c87 (by decide))
      refine g_iconstv (nI 0) d12_readPart_98 rfl ?_
      refine g_WV3 vm12_leaf ml12_283 c_74 (r12_leaf_no0 tp t true X b pa br f hS hB _ _ (Nat.le_refl 3)) (by omega) (Nat.le_of_ble_eq_true rfl) d12_readPart_99 (fun x hx => ?_)
      refine g_iconstv (nI 3) d12_readPart_102 rfl ?_
      exact g_iret rfl d12_readPart_103 (⟨x, hx, rfl, rfl⟩)
set_option maxHeartbeats 400000 in
theorem r12_pl_n {l : Launch} {K : cK} {d : Nat} {I : wI} {L : wL} {R : wR} {dy : cH} (tp : Nat → Nat) (t : Nat) (lw : Bool) (X : List (Nat × Nat)) (b pa br f : Nat) (hS : PSt I L tp t lw X b pa br f) (hB : b + X.length ≤ f) (hiw : iw tp t f 14836) (hd : 5 ≤ d) : CX l K m12_readPlain d [.ref 74] (hp I L R dy) (α := wI × wL) (fun x => PSt x.1 x.2 tp t lw (X ++ [(28, 0)]) b pa br (nxt tp t f) ∧ FP I L x.1 x.2 ∧ ∀ q, x.1 81 q = I 81 q ∧ x.1 82 q = I 82 q) (fun _ => .int (nI 0)) (fun x => hp x.1 x.2 R dy) := by
  obtain ⟨g1, g2, g3, g4, g5, g6, g7, g8, g9, g10⟩ := id hS
  have hnx := nxt_le (tp := tp) g2.1
  have ht4 := g1.1
  have hft := g2.1
  have hte := (tE_le (tp := tp) g2.1).1
  have hnx2 := hnx.2.2 (by rw [hiw.1]; decide)
  have hps := hS.ps (o := 28) (j := 0) (by decide) (by decide) (by decide)
  obtain ⟨z1, z2, z3, z4, z5, z6, z7, z8, z9, z10⟩ := id hps
  refine CC.of ok12_readPlain (Nat.le_of_ble_eq_true rfl) ?_
  refine g_aload_n d12_readPlain_0 rfl ?_
  refine g_ldc2 d12_readPlain_1 kl12_287 ?_
  refine g_EV1 vm12_isWord ml12_252 c_74 (r12_isWord tp t f hS.1 hS.2.1 14836 (by decide) (Nat.le_refl 0)) (by omega) (Nat.le_of_ble_eq_true rfl) d12_readPlain_4 ?_
  refine g_bz 23 d12_readPlain_7 rfl (fun c7 => absurd (hiw) c7) (fun _ => ?_)
  refine g_aload_n d12_readPlain_10 rfl ?_
  refine g_bipushv (nI 28) d12_readPlain_11 rfl ?_
  refine g_iconstv (nI 0) d12_readPlain_13 rfl ?_
  refine g_VV2 vm12_push ml12_259 c_74 (r12_push (I := I) X.length g8 (by omega) (nI 28) (nI 0) (Nat.le_refl 0)) (by omega) (Nat.le_of_ble_eq_true rfl) d12_readPlain_14 ?_
  refine g_aload_n d12_readPlain_17 rfl ?_
  refine g_WV0 vm12_next ml12_196 c_74 (r12_next tp t z1 (tE tp t f) z2.2.2.1 (tE_le hft).2.1 (Nat.le_refl 1)) (by omega) (Nat.le_of_ble_eq_true rfl) d12_readPlain_18 (fun x hx => ?_)
  refine g_iconstv (nI 0) d12_readPlain_21 rfl ?_
  exact g_iret rfl d12_readPlain_22 (⟨x, ⟨hps.nx hx.1 hx.2, (((FR.rf.ui (by decide) (by decide)).ui (by decide) (by decide)).uf (by decide)).tr (hx.1.up (by decide) (by decide) (by decide) (by decide)), fun q => ⟨congrFun (hx.1.1 81 (by decide) (by decide)) q, congrFun (hx.1.1 82 (by decide) (by decide)) q⟩⟩, rfl, rfl⟩)
set_option maxHeartbeats 200000 in
theorem r12_pl_b {l : Launch} {K : cK} {d : Nat} {I : wI} {L : wL} {R : wR} {dy : cH} (tp : Nat → Nat) (t : Nat) (lw : Bool) (X : List (Nat × Nat)) (b pa br f : Nat) (hS : PSt I L tp t lw X b pa br f) (hB : b + X.length ≤ f) (hsg : sg tp t f = 40) (hbr : br < 8) (hd : 5 ≤ d) : CX l K m12_readPlain d [.ref 74] (hp I L R dy) (α := wI × wL) (fun x => PSt x.1 x.2 tp t lw (X ++ [(31, 0)]) b pa (br + 1) (nxt tp t f) ∧ FP I L x.1 x.2 ∧ ∀ q, x.1 81 q = I 81 q ∧ x.1 82 q = I 82 q) (fun _ => .int (nI 0)) (fun x => hp x.1 x.2 R dy) := by
  obtain ⟨g1, g2, g3, g4, g5, g6, g7, g8, g9, g10⟩ := id hS
  have hnx := nxt_le (tp := tp) g2.1
  have ht4 := g1.1
  have hft := g2.1
  have hte := (tE_le (tp := tp) g2.1).1
  have hk3 := sg_kd hsg (by decide)
  refine CC.of ok12_readPlain (Nat.le_of_ble_eq_true rfl) ?_
  refine g_aload_n d12_readPlain_0 rfl ?_
  refine g_ldc2 d12_readPlain_1 kl12_287 ?_
  refine g_EV1 vm12_isWord ml12_252 c_74 (r12_isWord tp t f hS.1 hS.2.1 14836 (by decide) (Nat.le_refl 0)) (by omega) (Nat.le_of_ble_eq_true rfl) d12_readPlain_4 ?_
  refine g_bz 23 d12_readPlain_7 rfl (fun _ => ?_) (fun c7 => absurd c7 (fun z => by have := z.1; omega))
  refine g_aload_n d12_readPlain_23 rfl ?_
  refine g_bipushv (nI 40) d12_readPlain_24 rfl ?_
  refine g_EV1 vm12_isSign ml12_265 c_74 (r12_isSign tp t f hS.1 hS.2.1 40 (by decide) (by decide) (Nat.le_refl 0)) (by omega) (Nat.le_of_ble_eq_true rfl) d12_readPlain_26 ?_
  refine g_bz 40 d12_readPlain_29 rfl (fun c29 => absurd (hsg) c29) (fun _ => ?_)
  refine g_aload_n d12_readPlain_32 rfl ?_
  refine g_bipushv (nI 31) d12_readPlain_33 rfl ?_
  refine g_WV1 vm12_openBracket ml12_268 c_74 (r12_open_ok tp t lw X b pa br f hS hB 31 (Or.inl rfl) (by omega) hbr (Nat.le_refl 3)) (by omega) (Nat.le_of_ble_eq_true rfl) d12_readPlain_35 (fun x hx => ?_)
  refine g_iconstv (nI 0) d12_readPlain_38 rfl ?_
  exact g_iret rfl d12_readPlain_39 (⟨x, hx, rfl, rfl⟩)
set_option maxHeartbeats 200000 in
theorem r12_pl_bn {l : Launch} {K : cK} {d : Nat} {I : wI} {L : wL} {R : wR} {dy : cH} (tp : Nat → Nat) (t : Nat) (lw : Bool) (X : List (Nat × Nat)) (b pa br f : Nat) (hS : PSt I L tp t lw X b pa br f) (hB : b + X.length ≤ f) (hsg : sg tp t f = 40) (hbr : ¬ br < 8) (hb8 : br ≤ 8) (hd : 5 ≤ d) : CX l K m12_readPlain d [.ref 74] (hp I L R dy) (α := wI × wL) (BSt I L f) (fun _ => .int (nI 0)) (fun x => hp x.1 x.2 R dy) := by
  obtain ⟨g1, g2, g3, g4, g5, g6, g7, g8, g9, g10⟩ := id hS
  have hnx := nxt_le (tp := tp) g2.1
  have ht4 := g1.1
  have hft := g2.1
  have hte := (tE_le (tp := tp) g2.1).1
  have hk3 := sg_kd hsg (by decide)
  refine CC.of ok12_readPlain (Nat.le_of_ble_eq_true rfl) ?_
  refine g_aload_n d12_readPlain_0 rfl ?_
  refine g_ldc2 d12_readPlain_1 kl12_287 ?_
  refine g_EV1 vm12_isWord ml12_252 c_74 (r12_isWord tp t f hS.1 hS.2.1 14836 (by decide) (Nat.le_refl 0)) (by omega) (Nat.le_of_ble_eq_true rfl) d12_readPlain_4 ?_
  refine g_bz 23 d12_readPlain_7 rfl (fun _ => ?_) (fun c7 => absurd c7 (fun z => by have := z.1; omega))
  refine g_aload_n d12_readPlain_23 rfl ?_
  refine g_bipushv (nI 40) d12_readPlain_24 rfl ?_
  refine g_EV1 vm12_isSign ml12_265 c_74 (r12_isSign tp t f hS.1 hS.2.1 40 (by decide) (by decide) (Nat.le_refl 0)) (by omega) (Nat.le_of_ble_eq_true rfl) d12_readPlain_26 ?_
  refine g_bz 40 d12_readPlain_29 rfl (fun c29 => absurd (hsg) c29) (fun _ => ?_)
  refine g_aload_n d12_readPlain_32 rfl ?_
  refine g_bipushv (nI 31) d12_readPlain_33 rfl ?_
  refine g_WV1 vm12_openBracket ml12_268 c_74 (r12_open_no tp t lw X b pa br f hS hB 31 hbr hb8 (Nat.le_refl 3)) (by omega) (Nat.le_of_ble_eq_true rfl) d12_readPlain_35 (fun x hx => ?_)
  refine g_iconstv (nI 0) d12_readPlain_38 rfl ?_
  exact g_iret rfl d12_readPlain_39 (⟨x, hx, rfl, rfl⟩)
set_option maxHeartbeats 200000 in
theorem r12_pl_p {l : Launch} {K : cK} {d : Nat} {I : wI} {L : wL} {R : wR} {dy : cH} (tp : Nat → Nat) (t : Nat) (lw : Bool) (X : List (Nat × Nat)) (b pa br f : Nat) (hS : PSt I L tp t lw X b pa br f) (hiw : ¬ iw tp t f 14836) (hsg : sg tp t f ≠ 40) (Pp : wI × wL → Prop) (z : Nat) (hc : CX l K m12_readPart 4 [.ref 74] (hp I L R dy) (α := wI × wL) Pp (fun _ => .int (nI z)) (fun x => hp x.1 x.2 R dy)) (hd : 5 ≤ d) : CX l K m12_readPlain d [.ref 74] (hp I L R dy) (α := wI × wL) Pp (fun _ => .int (nI z)) (fun x => hp x.1 x.2 R dy) := by
  refine CC.of ok12_readPlain (Nat.le_of_ble_eq_true rfl) ?_
  refine g_aload_n d12_readPlain_0 rfl ?_
  refine g_ldc2 d12_readPlain_1 kl12_287 ?_
  refine g_EV1 vm12_isWord ml12_252 c_74 (r12_isWord tp t f hS.1 hS.2.1 14836 (by decide) (Nat.le_refl 0)) (by omega) (Nat.le_of_ble_eq_true rfl) d12_readPlain_4 ?_
  refine g_bz 23 d12_readPlain_7 rfl (fun _ => ?_) (fun c7 => absurd c7 (hiw))
  refine g_aload_n d12_readPlain_23 rfl ?_
  refine g_bipushv (nI 40) d12_readPlain_24 rfl ?_
  refine g_EV1 vm12_isSign ml12_265 c_74 (r12_isSign tp t f hS.1 hS.2.1 40 (by decide) (by decide) (Nat.le_refl 0)) (by omega) (Nat.le_of_ble_eq_true rfl) d12_readPlain_26 ?_
  refine g_bz 40 d12_readPlain_29 rfl (fun _ => ?_) (fun c29 => absurd c29 (hsg))
  refine g_aload_n d12_readPlain_40 rfl ?_
  refine g_XV0 vm12_readPart ml12_289 c_74 (hc) (by omega) (Nat.le_of_ble_eq_true rfl) d12_readPlain_41 (fun x hx => ?_)
  exact g_iret rfl d12_readPlain_44 (⟨x, hx, rfl, rfl⟩)
set_option maxHeartbeats 800000 in
theorem r12_bs_20 {l : Launch} {K : cK} {d : Nat} {I : wI} {L : wL} {R : wR} {dy : cH} (tp : Nat → Nat) (t : Nat) (lw : Bool) (X Y : List (Nat × Nat)) (a b pa br f : Nat) (v : Den) (hS : PSt I L tp t lw (X ++ Y) b pa br f) (k0 : Nat) (hB : b + X.length + Y.length + k0 ≤ f) (hsg : sg tp t f = 43) (hTB : TB X (bnd 20)) (hBG : BG (bnd 20) Y) (hPD : PD (opF I) (agF I) Y a b v) (te : Int32) (hd : 3 ≤ d) : CX l K m12_behindSum d [.ref 74, .int te] (hp I L R dy) (α := wI × wL × Nat) (fun x => PSt x.1 x.2.1 tp t lw (X ++ [(20, 0)]) (x.2.2) pa br (nxt tp t f) ∧ FP I L x.1 x.2.1 ∧ SG (opF x.1) (agF x.1) a x.2.2 v ∧ x.2.2 + X.length + 1 + k0 ≤ nxt tp t f ∧ ∀ k, k < a → x.1 81 k = I 81 k ∧ x.1 82 k = I 82 k) (fun _ => .int (nI 1)) (fun x => hp x.1 x.2.1 R dy) := by
  obtain ⟨g1, g2, g3, g4, g5, g6, g7, g8, g9, g10⟩ := id hS
  have hnx := nxt_le (tp := tp) g2.1
  have ht4 := g1.1
  have hft := g2.1
  have hte := (tE_le (tp := tp) g2.1).1
  obtain ⟨hq1, hq2⟩ := (PQ.app X).1 g10
  rw [Nat.zero_add] at hq2
  have g8b : I 74 24 = nI (X.length + Y.length) := by rw [g8, List.length_append]
  have hnx2 := hnx.2.2 (by rw [sg_kd hsg (by decide)]; decide)
  refine CC.of ok12_behindSum (Nat.le_of_ble_eq_true rfl) ?_
  refine g_aload_n d12_behindSum_0 rfl ?_
  refine g_bipushv (nI 43) d12_behindSum_1 rfl ?_
  refine g_EV1 vm12_isSign ml12_265 c_74 (r12_isSign tp t f hS.1 hS.2.1 43 (by decide) (by decide) (Nat.le_refl 0)) (by omega) (Nat.le_of_ble_eq_true rfl) d12_behindSum_3 ?_
  refine g_bz 14 d12_behindSum_6 rfl (fun c6 => absurd (hsg) c6) (fun _ => ?_)
  refine g_bipushv (nI 20) d12_behindSum_9 rfl ?_
  refine g_goto 71 d12_behindSum_11 rfl ?_
  refine g_istore_n d12_behindSum_71 (by decide) ?_
  refine g_iload_n d12_behindSum_72 rfl ?_
  refine g_iconstv ((-1 : Int32)) d12_behindSum_73 rfl ?_
  refine g_ic_eq (20) (-1) 97 (by decide) (by decide) d12_behindSum_74 rfl (fun c74 => absurd c74 (by decide)) (fun _ => ?_)
  refine g_aload_n d12_behindSum_77 rfl ?_
  refine g_iload_n d12_behindSum_78 rfl ?_
  refine g_ES1 sm12_binds ml12_237 (r12_binds (20) (by omega) (Nat.le_refl 0)) (by omega) (Nat.le_of_ble_eq_true rfl) d12_behindSum_79 ?_
  refine g_WV1 vm12_settle ml12_292 c_74 (r12_settle (I := I) [] Y (X.length) a (bnd 20) b (by decide) v (hTB.bl hq1) (g8b) (g6) (by omega) (by exact hPD) (PQ.pe Y hq2 (hBG.mono (by decide) Y)) (hBG) (Nat.le_refl 1)) (by omega) (Nat.le_of_ble_eq_true rfl) d12_behindSum_82 (fun y hy => ?_)
  have hS2 := hS.st hy
  have hps := hS2.ps (o := 20) (j := 0) (by decide) (by decide) (by decide)
  have hfp := ST.fp (L := L) hy
  obtain ⟨s1, s2, s3, s4, s5, s6, s7, s8, s9⟩ := hy
  obtain ⟨z1, z2, z3, z4, z5, z6, z7, z8, z9, z10⟩ := id hps
  refine g_aload_n d12_behindSum_85 rfl ?_
  refine g_iload_n d12_behindSum_86 rfl ?_
  refine g_iconstv (nI 0) d12_behindSum_87 rfl ?_
  refine g_VV2 vm12_push ml12_259 c_74 (r12_push (I := y.1) X.length s3 (by omega) (nI 20) (nI 0) (Nat.le_refl 0)) (by omega) (Nat.le_of_ble_eq_true rfl) d12_behindSum_88 ?_
  refine g_aload_n d12_behindSum_91 rfl ?_
  refine g_WV0 vm12_next ml12_196 c_74 (r12_next tp t z1 (tE tp t f) z2.2.2.1 (tE_le hft).2.1 (Nat.le_refl 1)) (by omega) (Nat.le_of_ble_eq_true rfl) d12_behindSum_92 (fun x hx => ?_)
  refine g_iconstv (nI 1) d12_behindSum_95 rfl ?_
  exact g_iret rfl d12_behindSum_96 (⟨(x.1, x.2, y.2), ⟨hps.nx hx.1 hx.2, (((hfp.ui (by decide) (by decide)).ui (by decide) (by decide)).uf (by decide)).tr (hx.1.up (by decide) (by decide) (by decide) (by decide)), SG.cg s7 (fun k _ _ => ⟨congrArg Int32.toNatClampNeg (congrFun (hx.1.1 81 (by decide) (by decide)) k), congrArg Int32.toNatClampNeg (congrFun (hx.1.1 82 (by decide) (by decide)) k)⟩), (by show y.2 + X.length + 1 + k0 ≤ nxt tp t f; omega), fun k hk => ⟨(congrFun (hx.1.1 81 (by decide) (by decide)) k).trans (s8 k hk).1, (congrFun (hx.1.1 82 (by decide) (by decide)) k).trans (s8 k hk).2⟩⟩, rfl, rfl⟩)
set_option maxHeartbeats 800000 in
theorem r12_bs_21 {l : Launch} {K : cK} {d : Nat} {I : wI} {L : wL} {R : wR} {dy : cH} (tp : Nat → Nat) (t : Nat) (lw : Bool) (X Y : List (Nat × Nat)) (a b pa br f : Nat) (v : Den) (hS : PSt I L tp t lw (X ++ Y) b pa br f) (k0 : Nat) (hB : b + X.length + Y.length + k0 ≤ f) (hsg : sg tp t f = 45) (hTB : TB X (bnd 21)) (hBG : BG (bnd 21) Y) (hPD : PD (opF I) (agF I) Y a b v) (te : Int32) (hd : 3 ≤ d) : CX l K m12_behindSum d [.ref 74, .int te] (hp I L R dy) (α := wI × wL × Nat) (fun x => PSt x.1 x.2.1 tp t lw (X ++ [(21, 0)]) (x.2.2) pa br (nxt tp t f) ∧ FP I L x.1 x.2.1 ∧ SG (opF x.1) (agF x.1) a x.2.2 v ∧ x.2.2 + X.length + 1 + k0 ≤ nxt tp t f ∧ ∀ k, k < a → x.1 81 k = I 81 k ∧ x.1 82 k = I 82 k) (fun _ => .int (nI 1)) (fun x => hp x.1 x.2.1 R dy) := by
  obtain ⟨g1, g2, g3, g4, g5, g6, g7, g8, g9, g10⟩ := id hS
  have hnx := nxt_le (tp := tp) g2.1
  have ht4 := g1.1
  have hft := g2.1
  have hte := (tE_le (tp := tp) g2.1).1
  obtain ⟨hq1, hq2⟩ := (PQ.app X).1 g10
  rw [Nat.zero_add] at hq2
  have g8b : I 74 24 = nI (X.length + Y.length) := by rw [g8, List.length_append]
  have hnx2 := hnx.2.2 (by rw [sg_kd hsg (by decide)]; decide)
  refine CC.of ok12_behindSum (Nat.le_of_ble_eq_true rfl) ?_
  refine g_aload_n d12_behindSum_0 rfl ?_
  refine g_bipushv (nI 43) d12_behindSum_1 rfl ?_
  refine g_EV1 vm12_isSign ml12_265 c_74 (r12_isSign tp t f hS.1 hS.2.1 43 (by decide) (by decide) (Nat.le_refl 0)) (by omega) (Nat.le_of_ble_eq_true rfl) d12_behindSum_3 ?_
  refine g_bz 14 d12_behindSum_6 rfl (fun _ => ?_) (fun c6 => absurd c6 (by omega))
  refine g_aload_n d12_behindSum_14 rfl ?_
  refine g_bipushv (nI 45) d12_behindSum_15 rfl ?_
  refine g_EV1 vm12_isSign ml12_265 c_74 (r12_isSign tp t f hS.1 hS.2.1 45 (by decide) (by decide) (Nat.le_refl 0)) (by omega) (Nat.le_of_ble_eq_true rfl) d12_behindSum_17 ?_
  refine g_bz 28 d12_behindSum_20 rfl (fun c20 => absurd (hsg) c20) (fun _ => ?_)
  refine g_bipushv (nI 21) d12_behindSum_23 rfl ?_
  refine g_goto 71 d12_behindSum_25 rfl ?_
  refine g_istore_n d12_behindSum_71 (by decide) ?_
  refine g_iload_n d12_behindSum_72 rfl ?_
  refine g_iconstv ((-1 : Int32)) d12_behindSum_73 rfl ?_
  refine g_ic_eq (21) (-1) 97 (by decide) (by decide) d12_behindSum_74 rfl (fun c74 => absurd c74 (by decide)) (fun _ => ?_)
  refine g_aload_n d12_behindSum_77 rfl ?_
  refine g_iload_n d12_behindSum_78 rfl ?_
  refine g_ES1 sm12_binds ml12_237 (r12_binds (21) (by omega) (Nat.le_refl 0)) (by omega) (Nat.le_of_ble_eq_true rfl) d12_behindSum_79 ?_
  refine g_WV1 vm12_settle ml12_292 c_74 (r12_settle (I := I) [] Y (X.length) a (bnd 21) b (by decide) v (hTB.bl hq1) (g8b) (g6) (by omega) (by exact hPD) (PQ.pe Y hq2 (hBG.mono (by decide) Y)) (hBG) (Nat.le_refl 1)) (by omega) (Nat.le_of_ble_eq_true rfl) d12_behindSum_82 (fun y hy => ?_)
  have hS2 := hS.st hy
  have hps := hS2.ps (o := 21) (j := 0) (by decide) (by decide) (by decide)
  have hfp := ST.fp (L := L) hy
  obtain ⟨s1, s2, s3, s4, s5, s6, s7, s8, s9⟩ := hy
  obtain ⟨z1, z2, z3, z4, z5, z6, z7, z8, z9, z10⟩ := id hps
  refine g_aload_n d12_behindSum_85 rfl ?_
  refine g_iload_n d12_behindSum_86 rfl ?_
  refine g_iconstv (nI 0) d12_behindSum_87 rfl ?_
  refine g_VV2 vm12_push ml12_259 c_74 (r12_push (I := y.1) X.length s3 (by omega) (nI 21) (nI 0) (Nat.le_refl 0)) (by omega) (Nat.le_of_ble_eq_true rfl) d12_behindSum_88 ?_
  refine g_aload_n d12_behindSum_91 rfl ?_
  refine g_WV0 vm12_next ml12_196 c_74 (r12_next tp t z1 (tE tp t f) z2.2.2.1 (tE_le hft).2.1 (Nat.le_refl 1)) (by omega) (Nat.le_of_ble_eq_true rfl) d12_behindSum_92 (fun x hx => ?_)
  refine g_iconstv (nI 1) d12_behindSum_95 rfl ?_
  exact g_iret rfl d12_behindSum_96 (⟨(x.1, x.2, y.2), ⟨hps.nx hx.1 hx.2, (((hfp.ui (by decide) (by decide)).ui (by decide) (by decide)).uf (by decide)).tr (hx.1.up (by decide) (by decide) (by decide) (by decide)), SG.cg s7 (fun k _ _ => ⟨congrArg Int32.toNatClampNeg (congrFun (hx.1.1 81 (by decide) (by decide)) k), congrArg Int32.toNatClampNeg (congrFun (hx.1.1 82 (by decide) (by decide)) k)⟩), (by show y.2 + X.length + 1 + k0 ≤ nxt tp t f; omega), fun k hk => ⟨(congrFun (hx.1.1 81 (by decide) (by decide)) k).trans (s8 k hk).1, (congrFun (hx.1.1 82 (by decide) (by decide)) k).trans (s8 k hk).2⟩⟩, rfl, rfl⟩)
set_option maxHeartbeats 800000 in
theorem r12_bs_22 {l : Launch} {K : cK} {d : Nat} {I : wI} {L : wL} {R : wR} {dy : cH} (tp : Nat → Nat) (t : Nat) (lw : Bool) (X Y : List (Nat × Nat)) (a b pa br f : Nat) (v : Den) (hS : PSt I L tp t lw (X ++ Y) b pa br f) (k0 : Nat) (hB : b + X.length + Y.length + k0 ≤ f) (hsg : sg tp t f = 42) (hTB : TB X (bnd 22)) (hBG : BG (bnd 22) Y) (hPD : PD (opF I) (agF I) Y a b v) (te : Int32) (hd : 3 ≤ d) : CX l K m12_behindSum d [.ref 74, .int te] (hp I L R dy) (α := wI × wL × Nat) (fun x => PSt x.1 x.2.1 tp t lw (X ++ [(22, 0)]) (x.2.2) pa br (nxt tp t f) ∧ FP I L x.1 x.2.1 ∧ SG (opF x.1) (agF x.1) a x.2.2 v ∧ x.2.2 + X.length + 1 + k0 ≤ nxt tp t f ∧ ∀ k, k < a → x.1 81 k = I 81 k ∧ x.1 82 k = I 82 k) (fun _ => .int (nI 1)) (fun x => hp x.1 x.2.1 R dy) := by
  obtain ⟨g1, g2, g3, g4, g5, g6, g7, g8, g9, g10⟩ := id hS
  have hnx := nxt_le (tp := tp) g2.1
  have ht4 := g1.1
  have hft := g2.1
  have hte := (tE_le (tp := tp) g2.1).1
  obtain ⟨hq1, hq2⟩ := (PQ.app X).1 g10
  rw [Nat.zero_add] at hq2
  have g8b : I 74 24 = nI (X.length + Y.length) := by rw [g8, List.length_append]
  have hnx2 := hnx.2.2 (by rw [sg_kd hsg (by decide)]; decide)
  refine CC.of ok12_behindSum (Nat.le_of_ble_eq_true rfl) ?_
  refine g_aload_n d12_behindSum_0 rfl ?_
  refine g_bipushv (nI 43) d12_behindSum_1 rfl ?_
  refine g_EV1 vm12_isSign ml12_265 c_74 (r12_isSign tp t f hS.1 hS.2.1 43 (by decide) (by decide) (Nat.le_refl 0)) (by omega) (Nat.le_of_ble_eq_true rfl) d12_behindSum_3 ?_
  refine g_bz 14 d12_behindSum_6 rfl (fun _ => ?_) (fun c6 => absurd c6 (by omega))
  refine g_aload_n d12_behindSum_14 rfl ?_
  refine g_bipushv (nI 45) d12_behindSum_15 rfl ?_
  refine g_EV1 vm12_isSign ml12_265 c_74 (r12_isSign tp t f hS.1 hS.2.1 45 (by decide) (by decide) (Nat.le_refl 0)) (by omega) (Nat.le_of_ble_eq_true rfl) d12_behindSum_17 ?_
  refine g_bz 28 d12_behindSum_20 rfl (fun _ => ?_) (fun c20 => absurd c20 (by omega))
  refine g_aload_n d12_behindSum_28 rfl ?_
  refine g_bipushv (nI 42) d12_behindSum_29 rfl ?_
  refine g_EV1 vm12_isSign ml12_265 c_74 (r12_isSign tp t f hS.1 hS.2.1 42 (by decide) (by decide) (Nat.le_refl 0)) (by omega) (Nat.le_of_ble_eq_true rfl) d12_behindSum_31 ?_
  refine g_bz 42 d12_behindSum_34 rfl (fun c34 => absurd (hsg) c34) (fun _ => ?_)
  refine g_bipushv (nI 22) d12_behindSum_37 rfl ?_
  refine g_goto 71 d12_behindSum_39 rfl ?_
  refine g_istore_n d12_behindSum_71 (by decide) ?_
  refine g_iload_n d12_behindSum_72 rfl ?_
  refine g_iconstv ((-1 : Int32)) d12_behindSum_73 rfl ?_
  refine g_ic_eq (22) (-1) 97 (by decide) (by decide) d12_behindSum_74 rfl (fun c74 => absurd c74 (by decide)) (fun _ => ?_)
  refine g_aload_n d12_behindSum_77 rfl ?_
  refine g_iload_n d12_behindSum_78 rfl ?_
  refine g_ES1 sm12_binds ml12_237 (r12_binds (22) (by omega) (Nat.le_refl 0)) (by omega) (Nat.le_of_ble_eq_true rfl) d12_behindSum_79 ?_
  refine g_WV1 vm12_settle ml12_292 c_74 (r12_settle (I := I) [] Y (X.length) a (bnd 22) b (by decide) v (hTB.bl hq1) (g8b) (g6) (by omega) (by exact hPD) (PQ.pe Y hq2 (hBG.mono (by decide) Y)) (hBG) (Nat.le_refl 1)) (by omega) (Nat.le_of_ble_eq_true rfl) d12_behindSum_82 (fun y hy => ?_)
  have hS2 := hS.st hy
  have hps := hS2.ps (o := 22) (j := 0) (by decide) (by decide) (by decide)
  have hfp := ST.fp (L := L) hy
  obtain ⟨s1, s2, s3, s4, s5, s6, s7, s8, s9⟩ := hy
  obtain ⟨z1, z2, z3, z4, z5, z6, z7, z8, z9, z10⟩ := id hps
  refine g_aload_n d12_behindSum_85 rfl ?_
  refine g_iload_n d12_behindSum_86 rfl ?_
  refine g_iconstv (nI 0) d12_behindSum_87 rfl ?_
  refine g_VV2 vm12_push ml12_259 c_74 (r12_push (I := y.1) X.length s3 (by omega) (nI 22) (nI 0) (Nat.le_refl 0)) (by omega) (Nat.le_of_ble_eq_true rfl) d12_behindSum_88 ?_
  refine g_aload_n d12_behindSum_91 rfl ?_
  refine g_WV0 vm12_next ml12_196 c_74 (r12_next tp t z1 (tE tp t f) z2.2.2.1 (tE_le hft).2.1 (Nat.le_refl 1)) (by omega) (Nat.le_of_ble_eq_true rfl) d12_behindSum_92 (fun x hx => ?_)
  refine g_iconstv (nI 1) d12_behindSum_95 rfl ?_
  exact g_iret rfl d12_behindSum_96 (⟨(x.1, x.2, y.2), ⟨hps.nx hx.1 hx.2, (((hfp.ui (by decide) (by decide)).ui (by decide) (by decide)).uf (by decide)).tr (hx.1.up (by decide) (by decide) (by decide) (by decide)), SG.cg s7 (fun k _ _ => ⟨congrArg Int32.toNatClampNeg (congrFun (hx.1.1 81 (by decide) (by decide)) k), congrArg Int32.toNatClampNeg (congrFun (hx.1.1 82 (by decide) (by decide)) k)⟩), (by show y.2 + X.length + 1 + k0 ≤ nxt tp t f; omega), fun k hk => ⟨(congrFun (hx.1.1 81 (by decide) (by decide)) k).trans (s8 k hk).1, (congrFun (hx.1.1 82 (by decide) (by decide)) k).trans (s8 k hk).2⟩⟩, rfl, rfl⟩)
set_option maxHeartbeats 800000 in
theorem r12_bs_23 {l : Launch} {K : cK} {d : Nat} {I : wI} {L : wL} {R : wR} {dy : cH} (tp : Nat → Nat) (t : Nat) (lw : Bool) (X Y : List (Nat × Nat)) (a b pa br f : Nat) (v : Den) (hS : PSt I L tp t lw (X ++ Y) b pa br f) (k0 : Nat) (hB : b + X.length + Y.length + k0 ≤ f) (hsg : sg tp t f = 47) (hTB : TB X (bnd 23)) (hBG : BG (bnd 23) Y) (hPD : PD (opF I) (agF I) Y a b v) (te : Int32) (hd : 3 ≤ d) : CX l K m12_behindSum d [.ref 74, .int te] (hp I L R dy) (α := wI × wL × Nat) (fun x => PSt x.1 x.2.1 tp t lw (X ++ [(23, 0)]) (x.2.2) pa br (nxt tp t f) ∧ FP I L x.1 x.2.1 ∧ SG (opF x.1) (agF x.1) a x.2.2 v ∧ x.2.2 + X.length + 1 + k0 ≤ nxt tp t f ∧ ∀ k, k < a → x.1 81 k = I 81 k ∧ x.1 82 k = I 82 k) (fun _ => .int (nI 1)) (fun x => hp x.1 x.2.1 R dy) := by
  obtain ⟨g1, g2, g3, g4, g5, g6, g7, g8, g9, g10⟩ := id hS
  have hnx := nxt_le (tp := tp) g2.1
  have ht4 := g1.1
  have hft := g2.1
  have hte := (tE_le (tp := tp) g2.1).1
  obtain ⟨hq1, hq2⟩ := (PQ.app X).1 g10
  rw [Nat.zero_add] at hq2
  have g8b : I 74 24 = nI (X.length + Y.length) := by rw [g8, List.length_append]
  have hnx2 := hnx.2.2 (by rw [sg_kd hsg (by decide)]; decide)
  refine CC.of ok12_behindSum (Nat.le_of_ble_eq_true rfl) ?_
  refine g_aload_n d12_behindSum_0 rfl ?_
  refine g_bipushv (nI 43) d12_behindSum_1 rfl ?_
  refine g_EV1 vm12_isSign ml12_265 c_74 (r12_isSign tp t f hS.1 hS.2.1 43 (by decide) (by decide) (Nat.le_refl 0)) (by omega) (Nat.le_of_ble_eq_true rfl) d12_behindSum_3 ?_
  refine g_bz 14 d12_behindSum_6 rfl (fun _ => ?_) (fun c6 => absurd c6 (by omega))
  refine g_aload_n d12_behindSum_14 rfl ?_
  refine g_bipushv (nI 45) d12_behindSum_15 rfl ?_
  refine g_EV1 vm12_isSign ml12_265 c_74 (r12_isSign tp t f hS.1 hS.2.1 45 (by decide) (by decide) (Nat.le_refl 0)) (by omega) (Nat.le_of_ble_eq_true rfl) d12_behindSum_17 ?_
  refine g_bz 28 d12_behindSum_20 rfl (fun _ => ?_) (fun c20 => absurd c20 (by omega))
  refine g_aload_n d12_behindSum_28 rfl ?_
  refine g_bipushv (nI 42) d12_behindSum_29 rfl ?_
  refine g_EV1 vm12_isSign ml12_265 c_74 (r12_isSign tp t f hS.1 hS.2.1 42 (by decide) (by decide) (Nat.le_refl 0)) (by omega) (Nat.le_of_ble_eq_true rfl) d12_behindSum_31 ?_
  refine g_bz 42 d12_behindSum_34 rfl (fun _ => ?_) (fun c34 => absurd c34 (by omega))
  refine g_aload_n d12_behindSum_42 rfl ?_
  refine g_bipushv (nI 47) d12_behindSum_43 rfl ?_
  refine g_EV1 vm12_isSign ml12_265 c_74 (r12_isSign tp t f hS.1 hS.2.1 47 (by decide) (by decide) (Nat.le_refl 0)) (by omega) (Nat.le_of_ble_eq_true rfl) d12_behindSum_45 ?_
  refine g_bz 56 d12_behindSum_48 rfl (fun c48 => absurd (hsg) c48) (fun _ => ?_)
  refine g_bipushv (nI 23) d12_behindSum_51 rfl ?_
  refine g_goto 71 d12_behindSum_53 rfl ?_
  refine g_istore_n d12_behindSum_71 (by decide) ?_
  refine g_iload_n d12_behindSum_72 rfl ?_
  refine g_iconstv ((-1 : Int32)) d12_behindSum_73 rfl ?_
  refine g_ic_eq (23) (-1) 97 (by decide) (by decide) d12_behindSum_74 rfl (fun c74 => absurd c74 (by decide)) (fun _ => ?_)
  refine g_aload_n d12_behindSum_77 rfl ?_
  refine g_iload_n d12_behindSum_78 rfl ?_
  refine g_ES1 sm12_binds ml12_237 (r12_binds (23) (by omega) (Nat.le_refl 0)) (by omega) (Nat.le_of_ble_eq_true rfl) d12_behindSum_79 ?_
  refine g_WV1 vm12_settle ml12_292 c_74 (r12_settle (I := I) [] Y (X.length) a (bnd 23) b (by decide) v (hTB.bl hq1) (g8b) (g6) (by omega) (by exact hPD) (PQ.pe Y hq2 (hBG.mono (by decide) Y)) (hBG) (Nat.le_refl 1)) (by omega) (Nat.le_of_ble_eq_true rfl) d12_behindSum_82 (fun y hy => ?_)
  have hS2 := hS.st hy
  have hps := hS2.ps (o := 23) (j := 0) (by decide) (by decide) (by decide)
  have hfp := ST.fp (L := L) hy
  obtain ⟨s1, s2, s3, s4, s5, s6, s7, s8, s9⟩ := hy
  obtain ⟨z1, z2, z3, z4, z5, z6, z7, z8, z9, z10⟩ := id hps
  refine g_aload_n d12_behindSum_85 rfl ?_
  refine g_iload_n d12_behindSum_86 rfl ?_
  refine g_iconstv (nI 0) d12_behindSum_87 rfl ?_
  refine g_VV2 vm12_push ml12_259 c_74 (r12_push (I := y.1) X.length s3 (by omega) (nI 23) (nI 0) (Nat.le_refl 0)) (by omega) (Nat.le_of_ble_eq_true rfl) d12_behindSum_88 ?_
  refine g_aload_n d12_behindSum_91 rfl ?_
  refine g_WV0 vm12_next ml12_196 c_74 (r12_next tp t z1 (tE tp t f) z2.2.2.1 (tE_le hft).2.1 (Nat.le_refl 1)) (by omega) (Nat.le_of_ble_eq_true rfl) d12_behindSum_92 (fun x hx => ?_)
  refine g_iconstv (nI 1) d12_behindSum_95 rfl ?_
  exact g_iret rfl d12_behindSum_96 (⟨(x.1, x.2, y.2), ⟨hps.nx hx.1 hx.2, (((hfp.ui (by decide) (by decide)).ui (by decide) (by decide)).uf (by decide)).tr (hx.1.up (by decide) (by decide) (by decide) (by decide)), SG.cg s7 (fun k _ _ => ⟨congrArg Int32.toNatClampNeg (congrFun (hx.1.1 81 (by decide) (by decide)) k), congrArg Int32.toNatClampNeg (congrFun (hx.1.1 82 (by decide) (by decide)) k)⟩), (by show y.2 + X.length + 1 + k0 ≤ nxt tp t f; omega), fun k hk => ⟨(congrFun (hx.1.1 81 (by decide) (by decide)) k).trans (s8 k hk).1, (congrFun (hx.1.1 82 (by decide) (by decide)) k).trans (s8 k hk).2⟩⟩, rfl, rfl⟩)
set_option maxHeartbeats 800000 in
theorem r12_bs_24 {l : Launch} {K : cK} {d : Nat} {I : wI} {L : wL} {R : wR} {dy : cH} (tp : Nat → Nat) (t : Nat) (lw : Bool) (X Y : List (Nat × Nat)) (a b pa br f : Nat) (v : Den) (hS : PSt I L tp t lw (X ++ Y) b pa br f) (k0 : Nat) (hB : b + X.length + Y.length + k0 ≤ f) (hsg : sg tp t f = 37) (hTB : TB X (bnd 24)) (hBG : BG (bnd 24) Y) (hPD : PD (opF I) (agF I) Y a b v) (te : Int32) (hd : 3 ≤ d) : CX l K m12_behindSum d [.ref 74, .int te] (hp I L R dy) (α := wI × wL × Nat) (fun x => PSt x.1 x.2.1 tp t lw (X ++ [(24, 0)]) (x.2.2) pa br (nxt tp t f) ∧ FP I L x.1 x.2.1 ∧ SG (opF x.1) (agF x.1) a x.2.2 v ∧ x.2.2 + X.length + 1 + k0 ≤ nxt tp t f ∧ ∀ k, k < a → x.1 81 k = I 81 k ∧ x.1 82 k = I 82 k) (fun _ => .int (nI 1)) (fun x => hp x.1 x.2.1 R dy) := by
  obtain ⟨g1, g2, g3, g4, g5, g6, g7, g8, g9, g10⟩ := id hS
  have hnx := nxt_le (tp := tp) g2.1
  have ht4 := g1.1
  have hft := g2.1
  have hte := (tE_le (tp := tp) g2.1).1
  obtain ⟨hq1, hq2⟩ := (PQ.app X).1 g10
  rw [Nat.zero_add] at hq2
  have g8b : I 74 24 = nI (X.length + Y.length) := by rw [g8, List.length_append]
  have hnx2 := hnx.2.2 (by rw [sg_kd hsg (by decide)]; decide)
  refine CC.of ok12_behindSum (Nat.le_of_ble_eq_true rfl) ?_
  refine g_aload_n d12_behindSum_0 rfl ?_
  refine g_bipushv (nI 43) d12_behindSum_1 rfl ?_
  refine g_EV1 vm12_isSign ml12_265 c_74 (r12_isSign tp t f hS.1 hS.2.1 43 (by decide) (by decide) (Nat.le_refl 0)) (by omega) (Nat.le_of_ble_eq_true rfl) d12_behindSum_3 ?_
  refine g_bz 14 d12_behindSum_6 rfl (fun _ => ?_) (fun c6 => absurd c6 (by omega))
  refine g_aload_n d12_behindSum_14 rfl ?_
  refine g_bipushv (nI 45) d12_behindSum_15 rfl ?_
  refine g_EV1 vm12_isSign ml12_265 c_74 (r12_isSign tp t f hS.1 hS.2.1 45 (by decide) (by decide) (Nat.le_refl 0)) (by omega) (Nat.le_of_ble_eq_true rfl) d12_behindSum_17 ?_
  refine g_bz 28 d12_behindSum_20 rfl (fun _ => ?_) (fun c20 => absurd c20 (by omega))
  refine g_aload_n d12_behindSum_28 rfl ?_
  refine g_bipushv (nI 42) d12_behindSum_29 rfl ?_
  refine g_EV1 vm12_isSign ml12_265 c_74 (r12_isSign tp t f hS.1 hS.2.1 42 (by decide) (by decide) (Nat.le_refl 0)) (by omega) (Nat.le_of_ble_eq_true rfl) d12_behindSum_31 ?_
  refine g_bz 42 d12_behindSum_34 rfl (fun _ => ?_) (fun c34 => absurd c34 (by omega))
  refine g_aload_n d12_behindSum_42 rfl ?_
  refine g_bipushv (nI 47) d12_behindSum_43 rfl ?_
  refine g_EV1 vm12_isSign ml12_265 c_74 (r12_isSign tp t f hS.1 hS.2.1 47 (by decide) (by decide) (Nat.le_refl 0)) (by omega) (Nat.le_of_ble_eq_true rfl) d12_behindSum_45 ?_
  refine g_bz 56 d12_behindSum_48 rfl (fun _ => ?_) (fun c48 => absurd c48 (by omega))
  refine g_aload_n d12_behindSum_56 rfl ?_
  refine g_bipushv (nI 37) d12_behindSum_57 rfl ?_
  refine g_EV1 vm12_isSign ml12_265 c_74 (r12_isSign tp t f hS.1 hS.2.1 37 (by decide) (by decide) (Nat.le_refl 0)) (by omega) (Nat.le_of_ble_eq_true rfl) d12_behindSum_59 ?_
  refine g_bz 70 d12_behindSum_62 rfl (fun c62 => absurd (hsg) c62) (fun _ => ?_)
  refine g_bipushv (nI 24) d12_behindSum_65 rfl ?_
  refine g_goto 71 d12_behindSum_67 rfl ?_
  refine g_istore_n d12_behindSum_71 (by decide) ?_
  refine g_iload_n d12_behindSum_72 rfl ?_
  refine g_iconstv ((-1 : Int32)) d12_behindSum_73 rfl ?_
  refine g_ic_eq (24) (-1) 97 (by decide) (by decide) d12_behindSum_74 rfl (fun c74 => absurd c74 (by decide)) (fun _ => ?_)
  refine g_aload_n d12_behindSum_77 rfl ?_
  refine g_iload_n d12_behindSum_78 rfl ?_
  refine g_ES1 sm12_binds ml12_237 (r12_binds (24) (by omega) (Nat.le_refl 0)) (by omega) (Nat.le_of_ble_eq_true rfl) d12_behindSum_79 ?_
  refine g_WV1 vm12_settle ml12_292 c_74 (r12_settle (I := I) [] Y (X.length) a (bnd 24) b (by decide) v (hTB.bl hq1) (g8b) (g6) (by omega) (by exact hPD) (PQ.pe Y hq2 (hBG.mono (by decide) Y)) (hBG) (Nat.le_refl 1)) (by omega) (Nat.le_of_ble_eq_true rfl) d12_behindSum_82 (fun y hy => ?_)
  have hS2 := hS.st hy
  have hps := hS2.ps (o := 24) (j := 0) (by decide) (by decide) (by decide)
  have hfp := ST.fp (L := L) hy
  obtain ⟨s1, s2, s3, s4, s5, s6, s7, s8, s9⟩ := hy
  obtain ⟨z1, z2, z3, z4, z5, z6, z7, z8, z9, z10⟩ := id hps
  refine g_aload_n d12_behindSum_85 rfl ?_
  refine g_iload_n d12_behindSum_86 rfl ?_
  refine g_iconstv (nI 0) d12_behindSum_87 rfl ?_
  refine g_VV2 vm12_push ml12_259 c_74 (r12_push (I := y.1) X.length s3 (by omega) (nI 24) (nI 0) (Nat.le_refl 0)) (by omega) (Nat.le_of_ble_eq_true rfl) d12_behindSum_88 ?_
  refine g_aload_n d12_behindSum_91 rfl ?_
  refine g_WV0 vm12_next ml12_196 c_74 (r12_next tp t z1 (tE tp t f) z2.2.2.1 (tE_le hft).2.1 (Nat.le_refl 1)) (by omega) (Nat.le_of_ble_eq_true rfl) d12_behindSum_92 (fun x hx => ?_)
  refine g_iconstv (nI 1) d12_behindSum_95 rfl ?_
  exact g_iret rfl d12_behindSum_96 (⟨(x.1, x.2, y.2), ⟨hps.nx hx.1 hx.2, (((hfp.ui (by decide) (by decide)).ui (by decide) (by decide)).uf (by decide)).tr (hx.1.up (by decide) (by decide) (by decide) (by decide)), SG.cg s7 (fun k _ _ => ⟨congrArg Int32.toNatClampNeg (congrFun (hx.1.1 81 (by decide) (by decide)) k), congrArg Int32.toNatClampNeg (congrFun (hx.1.1 82 (by decide) (by decide)) k)⟩), (by show y.2 + X.length + 1 + k0 ≤ nxt tp t f; omega), fun k hk => ⟨(congrFun (hx.1.1 81 (by decide) (by decide)) k).trans (s8 k hk).1, (congrFun (hx.1.1 82 (by decide) (by decide)) k).trans (s8 k hk).2⟩⟩, rfl, rfl⟩)
theorem addO_0 {c : Nat} (h : addO c = 0) : c ≠ 43 ∧ c ≠ 45 := ⟨fun e => by (subst e; cases h), fun e => by (subst e; cases h)⟩
theorem mulO_0 {c : Nat} (h : mulO c = 0) : c ≠ 42 ∧ c ≠ 47 ∧ c ≠ 37 := ⟨fun e => by (subst e; cases h), fun e => by (subst e; cases h), fun e => by (subst e; cases h)⟩
theorem cmpO_0 {c : Nat} (h : cmpO c = 0) : c ≠ 60 ∧ c ≠ 62 ∧ c ≠ 61 := ⟨fun e => by (subst e; cases h), fun e => by (subst e; cases h), fun e => by (subst e; cases h)⟩
set_option maxHeartbeats 200000 in
theorem r12_bs_ov {l : Launch} {K : cK} {d : Nat} {I : wI} {L : wL} {R : wR} {dy : cH} (tp : Nat → Nat) (t : Nat) (lw : Bool) (X Y : List (Nat × Nat)) (a b pa br f : Nat) (v : Den) (hS : PSt I L tp t lw (X ++ Y) b pa br f) (k0 : Nat) (hB : b + X.length + Y.length + k0 ≤ f) (hadd : addO (sg tp t f) = 0) (hmul : mulO (sg tp t f) = 0) (hin : ibX (X ++ Y) = 0) (hd : 3 ≤ d) : CE l K m12_behindSum d [.ref 74, .int (nI 0)] (hp I L R dy) (.int (nI 4)) (hp I L R dy) := by
  obtain ⟨g1, g2, g3, g4, g5, g6, g7, g8, g9, g10⟩ := id hS
  have hnx := nxt_le (tp := tp) g2.1
  have ht4 := g1.1
  have hft := g2.1
  have hte := (tE_le (tp := tp) g2.1).1
  obtain ⟨hq1, hq2⟩ := (PQ.app X).1 g10
  rw [Nat.zero_add] at hq2
  have g8b : I 74 24 = nI (X.length + Y.length) := by rw [g8, List.length_append]
  obtain ⟨na1, na2⟩ := addO_0 hadd
  obtain ⟨na3, na4, na5⟩ := mulO_0 hmul
  obtain ⟨hib, hic⟩ := ib_X (X ++ Y).length (X ++ Y) rfl g10
  refine CC.of ok12_behindSum (Nat.le_of_ble_eq_true rfl) ?_
  refine g_aload_n d12_behindSum_0 rfl ?_
  refine g_bipushv (nI 43) d12_behindSum_1 rfl ?_
  refine g_EV1 vm12_isSign ml12_265 c_74 (r12_isSign tp t f hS.1 hS.2.1 43 (by decide) (by decide) (Nat.le_refl 0)) (by omega) (Nat.le_of_ble_eq_true rfl) d12_behindSum_3 ?_
  refine g_bz 14 d12_behindSum_6 rfl (fun _ => ?_) (fun c6 => absurd c6 (by omega))
  refine g_aload_n d12_behindSum_14 rfl ?_
  refine g_bipushv (nI 45) d12_behindSum_15 rfl ?_
  refine g_EV1 vm12_isSign ml12_265 c_74 (r12_isSign tp t f hS.1 hS.2.1 45 (by decide) (by decide) (Nat.le_refl 0)) (by omega) (Nat.le_of_ble_eq_true rfl) d12_behindSum_17 ?_
  refine g_bz 28 d12_behindSum_20 rfl (fun _ => ?_) (fun c20 => absurd c20 (by omega))
  refine g_aload_n d12_behindSum_28 rfl ?_
  refine g_bipushv (nI 42) d12_behindSum_29 rfl ?_
  refine g_EV1 vm12_isSign ml12_265 c_74 (r12_isSign tp t f hS.1 hS.2.1 42 (by decide) (by decide) (Nat.le_refl 0)) (by omega) (Nat.le_of_ble_eq_true rfl) d12_behindSum_31 ?_
  refine g_bz 42 d12_behindSum_34 rfl (fun _ => ?_) (fun c34 => absurd c34 (by omega))
  refine g_aload_n d12_behindSum_42 rfl ?_
  refine g_bipushv (nI 47) d12_behindSum_43 rfl ?_
  refine g_EV1 vm12_isSign ml12_265 c_74 (r12_isSign tp t f hS.1 hS.2.1 47 (by decide) (by decide) (Nat.le_refl 0)) (by omega) (Nat.le_of_ble_eq_true rfl) d12_behindSum_45 ?_
  refine g_bz 56 d12_behindSum_48 rfl (fun _ => ?_) (fun c48 => absurd c48 (by omega))
  refine g_aload_n d12_behindSum_56 rfl ?_
  refine g_bipushv (nI 37) d12_behindSum_57 rfl ?_
  refine g_EV1 vm12_isSign ml12_265 c_74 (r12_isSign tp t f hS.1 hS.2.1 37 (by decide) (by decide) (Nat.le_refl 0)) (by omega) (Nat.le_of_ble_eq_true rfl) d12_behindSum_59 ?_
  refine g_bz 70 d12_behindSum_62 rfl (fun _ => ?_) (fun c62 => absurd c62 (by omega))
  refine g_iconstv ((-1 : Int32)) d12_behindSum_70 rfl ?_
  refine g_istore_n d12_behindSum_71 (by decide) ?_
  refine g_iload_n d12_behindSum_72 rfl ?_
  refine g_iconstv ((-1 : Int32)) d12_behindSum_73 rfl ?_
  refine g_ic_eq (-1) (-1) 97 (by decide) (by decide) d12_behindSum_74 rfl (fun _ => ?_) (fun c74 => absurd c74 (by decide))
  refine g_aload_n d12_behindSum_97 rfl ?_
  refine g_EV0 vm12_inner ml12_295 c_74 (r12_inner (I := I) (X ++ Y).length (by exact g8) (by rw [List.length_append]; omega) (PQ.pv g10) (Nat.le_refl 0)) (by omega) (Nat.le_of_ble_eq_true rfl) d12_behindSum_98 ?_
  refine g_topI ((-1 : Int32)) (by rw [hib, hin]; rfl) ?_
  refine g_istore_n d12_behindSum_101 (by decide) ?_
  refine g_iload_n d12_behindSum_102 rfl ?_
  refine g_bipushv (nI 32) d12_behindSum_103 rfl ?_
  refine g_ic_ne (-1) (32) 152 (by decide) (by decide) d12_behindSum_105 rfl (fun _ => ?_) (fun c105 => absurd c105 (by decide))
  refine g_iload_n d12_behindSum_152 rfl ?_
  refine g_iconstv ((-1 : Int32)) d12_behindSum_153 rfl ?_
  refine g_ic_ne (-1) (-1) 163 (by decide) (by decide) d12_behindSum_154 rfl (fun c154 => absurd c154 (by decide)) (fun _ => ?_)
  refine g_iload_n d12_behindSum_157 rfl ?_
  refine g_iz_ne (0) 163 (by decide) d12_behindSum_158 rfl (fun c158 => absurd c158 (by decide)) (fun _ => ?_)
  refine g_iconstv (nI 4) d12_behindSum_161 rfl ?_
  exact g_iret rfl d12_behindSum_162 (⟨rfl, rfl⟩)
set_option maxHeartbeats 200000 in
theorem r12_bs_ca {l : Launch} {K : cK} {d : Nat} {I : wI} {L : wL} {R : wR} {dy : cH} (tp : Nat → Nat) (t : Nat) (lw : Bool) (X Y : List (Nat × Nat)) (a b pa br f : Nat) (v : Den) (hS : PSt I L tp t lw (X ++ Y) b pa br f) (k0 : Nat) (hB : b + X.length + Y.length + k0 ≤ f) (hadd : addO (sg tp t f) = 0) (hmul : mulO (sg tp t f) = 0) (hin : ibX (X ++ Y) = 0) (hcp : icX (X ++ Y) = true) (hd : 3 ≤ d) : CE l K m12_behindSum d [.ref 74, .int (nI 1)] (hp I L R dy) (.int (nI 2)) (hp I L R dy) := by
  obtain ⟨g1, g2, g3, g4, g5, g6, g7, g8, g9, g10⟩ := id hS
  have hnx := nxt_le (tp := tp) g2.1
  have ht4 := g1.1
  have hft := g2.1
  have hte := (tE_le (tp := tp) g2.1).1
  obtain ⟨hq1, hq2⟩ := (PQ.app X).1 g10
  rw [Nat.zero_add] at hq2
  have g8b : I 74 24 = nI (X.length + Y.length) := by rw [g8, List.length_append]
  obtain ⟨na1, na2⟩ := addO_0 hadd
  obtain ⟨na3, na4, na5⟩ := mulO_0 hmul
  obtain ⟨hib, hic⟩ := ib_X (X ++ Y).length (X ++ Y) rfl g10
  refine CC.of ok12_behindSum (Nat.le_of_ble_eq_true rfl) ?_
  refine g_aload_n d12_behindSum_0 rfl ?_
  refine g_bipushv (nI 43) d12_behindSum_1 rfl ?_
  refine g_EV1 vm12_isSign ml12_265 c_74 (r12_isSign tp t f hS.1 hS.2.1 43 (by decide) (by decide) (Nat.le_refl 0)) (by omega) (Nat.le_of_ble_eq_true rfl) d12_behindSum_3 ?_
  refine g_bz 14 d12_behindSum_6 rfl (fun _ => ?_) (fun c6 => absurd c6 (by omega))
  refine g_aload_n d12_behindSum_14 rfl ?_
  refine g_bipushv (nI 45) d12_behindSum_15 rfl ?_
  refine g_EV1 vm12_isSign ml12_265 c_74 (r12_isSign tp t f hS.1 hS.2.1 45 (by decide) (by decide) (Nat.le_refl 0)) (by omega) (Nat.le_of_ble_eq_true rfl) d12_behindSum_17 ?_
  refine g_bz 28 d12_behindSum_20 rfl (fun _ => ?_) (fun c20 => absurd c20 (by omega))
  refine g_aload_n d12_behindSum_28 rfl ?_
  refine g_bipushv (nI 42) d12_behindSum_29 rfl ?_
  refine g_EV1 vm12_isSign ml12_265 c_74 (r12_isSign tp t f hS.1 hS.2.1 42 (by decide) (by decide) (Nat.le_refl 0)) (by omega) (Nat.le_of_ble_eq_true rfl) d12_behindSum_31 ?_
  refine g_bz 42 d12_behindSum_34 rfl (fun _ => ?_) (fun c34 => absurd c34 (by omega))
  refine g_aload_n d12_behindSum_42 rfl ?_
  refine g_bipushv (nI 47) d12_behindSum_43 rfl ?_
  refine g_EV1 vm12_isSign ml12_265 c_74 (r12_isSign tp t f hS.1 hS.2.1 47 (by decide) (by decide) (Nat.le_refl 0)) (by omega) (Nat.le_of_ble_eq_true rfl) d12_behindSum_45 ?_
  refine g_bz 56 d12_behindSum_48 rfl (fun _ => ?_) (fun c48 => absurd c48 (by omega))
  refine g_aload_n d12_behindSum_56 rfl ?_
  refine g_bipushv (nI 37) d12_behindSum_57 rfl ?_
  refine g_EV1 vm12_isSign ml12_265 c_74 (r12_isSign tp t f hS.1 hS.2.1 37 (by decide) (by decide) (Nat.le_refl 0)) (by omega) (Nat.le_of_ble_eq_true rfl) d12_behindSum_59 ?_
  refine g_bz 70 d12_behindSum_62 rfl (fun _ => ?_) (fun c62 => absurd c62 (by omega))
  refine g_iconstv ((-1 : Int32)) d12_behindSum_70 rfl ?_
  refine g_istore_n d12_behindSum_71 (by decide) ?_
  refine g_iload_n d12_behindSum_72 rfl ?_
  refine g_iconstv ((-1 : Int32)) d12_behindSum_73 rfl ?_
  refine g_ic_eq (-1) (-1) 97 (by decide) (by decide) d12_behindSum_74 rfl (fun _ => ?_) (fun c74 => absurd c74 (by decide))
  refine g_aload_n d12_behindSum_97 rfl ?_
  refine g_EV0 vm12_inner ml12_295 c_74 (r12_inner (I := I) (X ++ Y).length (by exact g8) (by rw [List.length_append]; omega) (PQ.pv g10) (Nat.le_refl 0)) (by omega) (Nat.le_of_ble_eq_true rfl) d12_behindSum_98 ?_
  refine g_topI ((-1 : Int32)) (by rw [hib, hin]; rfl) ?_
  refine g_istore_n d12_behindSum_101 (by decide) ?_
  refine g_iload_n d12_behindSum_102 rfl ?_
  refine g_bipushv (nI 32) d12_behindSum_103 rfl ?_
  refine g_ic_ne (-1) (32) 152 (by decide) (by decide) d12_behindSum_105 rfl (fun _ => ?_) (fun c105 => absurd c105 (by decide))
  refine g_iload_n d12_behindSum_152 rfl ?_
  refine g_iconstv ((-1 : Int32)) d12_behindSum_153 rfl ?_
  refine g_ic_ne (-1) (-1) 163 (by decide) (by decide) d12_behindSum_154 rfl (fun c154 => absurd c154 (by decide)) (fun _ => ?_)
  refine g_iload_n d12_behindSum_157 rfl ?_
  refine g_iz_ne (1) 163 (by decide) d12_behindSum_158 rfl (fun _ => ?_) (fun c158 => absurd c158 (by decide))
  refine g_aload_n d12_behindSum_163 rfl ?_
  refine g_EV0 vm12_isCompared ml12_298 c_74 (r12_isCompared (I := I) (X ++ Y).length (by exact g8) (by rw [List.length_append]; omega) (PQ.pv g10) (Nat.le_refl 1)) (by omega) (Nat.le_of_ble_eq_true rfl) d12_behindSum_164 ?_
  refine g_bz 172 d12_behindSum_167 rfl (fun c167 => absurd (by rw [hic]; exact hcp) c167) (fun _ => ?_)
  refine g_iconstv (nI 2) d12_behindSum_170 rfl ?_
  exact g_iret rfl d12_behindSum_171 (⟨rfl, rfl⟩)
set_option maxHeartbeats 200000 in
theorem r12_bs_cb {l : Launch} {K : cK} {d : Nat} {I : wI} {L : wL} {R : wR} {dy : cH} (tp : Nat → Nat) (t : Nat) (lw : Bool) (X Y : List (Nat × Nat)) (a b pa br f : Nat) (v : Den) (hS : PSt I L tp t lw (X ++ Y) b pa br f) (k0 : Nat) (hB : b + X.length + Y.length + k0 ≤ f) (hadd : addO (sg tp t f) = 0) (hmul : mulO (sg tp t f) = 0) (hin : ibX (X ++ Y) = 31) (hcp : icX (X ++ Y) = true) (hd : 3 ≤ d) : CE l K m12_behindSum d [.ref 74, .int (nI 1)] (hp I L R dy) (.int (nI 2)) (hp I L R dy) := by
  obtain ⟨g1, g2, g3, g4, g5, g6, g7, g8, g9, g10⟩ := id hS
  have hnx := nxt_le (tp := tp) g2.1
  have ht4 := g1.1
  have hft := g2.1
  have hte := (tE_le (tp := tp) g2.1).1
  obtain ⟨hq1, hq2⟩ := (PQ.app X).1 g10
  rw [Nat.zero_add] at hq2
  have g8b : I 74 24 = nI (X.length + Y.length) := by rw [g8, List.length_append]
  obtain ⟨na1, na2⟩ := addO_0 hadd
  obtain ⟨na3, na4, na5⟩ := mulO_0 hmul
  obtain ⟨hib, hic⟩ := ib_X (X ++ Y).length (X ++ Y) rfl g10
  refine CC.of ok12_behindSum (Nat.le_of_ble_eq_true rfl) ?_
  refine g_aload_n d12_behindSum_0 rfl ?_
  refine g_bipushv (nI 43) d12_behindSum_1 rfl ?_
  refine g_EV1 vm12_isSign ml12_265 c_74 (r12_isSign tp t f hS.1 hS.2.1 43 (by decide) (by decide) (Nat.le_refl 0)) (by omega) (Nat.le_of_ble_eq_true rfl) d12_behindSum_3 ?_
  refine g_bz 14 d12_behindSum_6 rfl (fun _ => ?_) (fun c6 => absurd c6 (by omega))
  refine g_aload_n d12_behindSum_14 rfl ?_
  refine g_bipushv (nI 45) d12_behindSum_15 rfl ?_
  refine g_EV1 vm12_isSign ml12_265 c_74 (r12_isSign tp t f hS.1 hS.2.1 45 (by decide) (by decide) (Nat.le_refl 0)) (by omega) (Nat.le_of_ble_eq_true rfl) d12_behindSum_17 ?_
  refine g_bz 28 d12_behindSum_20 rfl (fun _ => ?_) (fun c20 => absurd c20 (by omega))
  refine g_aload_n d12_behindSum_28 rfl ?_
  refine g_bipushv (nI 42) d12_behindSum_29 rfl ?_
  refine g_EV1 vm12_isSign ml12_265 c_74 (r12_isSign tp t f hS.1 hS.2.1 42 (by decide) (by decide) (Nat.le_refl 0)) (by omega) (Nat.le_of_ble_eq_true rfl) d12_behindSum_31 ?_
  refine g_bz 42 d12_behindSum_34 rfl (fun _ => ?_) (fun c34 => absurd c34 (by omega))
  refine g_aload_n d12_behindSum_42 rfl ?_
  refine g_bipushv (nI 47) d12_behindSum_43 rfl ?_
  refine g_EV1 vm12_isSign ml12_265 c_74 (r12_isSign tp t f hS.1 hS.2.1 47 (by decide) (by decide) (Nat.le_refl 0)) (by omega) (Nat.le_of_ble_eq_true rfl) d12_behindSum_45 ?_
  refine g_bz 56 d12_behindSum_48 rfl (fun _ => ?_) (fun c48 => absurd c48 (by omega))
  refine g_aload_n d12_behindSum_56 rfl ?_
  refine g_bipushv (nI 37) d12_behindSum_57 rfl ?_
  refine g_EV1 vm12_isSign ml12_265 c_74 (r12_isSign tp t f hS.1 hS.2.1 37 (by decide) (by decide) (Nat.le_refl 0)) (by omega) (Nat.le_of_ble_eq_true rfl) d12_behindSum_59 ?_
  refine g_bz 70 d12_behindSum_62 rfl (fun _ => ?_) (fun c62 => absurd c62 (by omega))
  refine g_iconstv ((-1 : Int32)) d12_behindSum_70 rfl ?_
  refine g_istore_n d12_behindSum_71 (by decide) ?_
  refine g_iload_n d12_behindSum_72 rfl ?_
  refine g_iconstv ((-1 : Int32)) d12_behindSum_73 rfl ?_
  refine g_ic_eq (-1) (-1) 97 (by decide) (by decide) d12_behindSum_74 rfl (fun _ => ?_) (fun c74 => absurd c74 (by decide))
  refine g_aload_n d12_behindSum_97 rfl ?_
  refine g_EV0 vm12_inner ml12_295 c_74 (r12_inner (I := I) (X ++ Y).length (by exact g8) (by rw [List.length_append]; omega) (PQ.pv g10) (Nat.le_refl 0)) (by omega) (Nat.le_of_ble_eq_true rfl) d12_behindSum_98 ?_
  refine g_topI (nI 31) (by rw [hib, hin]; rfl) ?_
  refine g_istore_n d12_behindSum_101 (by decide) ?_
  refine g_iload_n d12_behindSum_102 rfl ?_
  refine g_bipushv (nI 32) d12_behindSum_103 rfl ?_
  refine g_ic_ne (31) (32) 152 (by decide) (by decide) d12_behindSum_105 rfl (fun _ => ?_) (fun c105 => absurd c105 (by decide))
  refine g_iload_n d12_behindSum_152 rfl ?_
  refine g_iconstv ((-1 : Int32)) d12_behindSum_153 rfl ?_
  refine g_ic_ne (31) (-1) 163 (by decide) (by decide) d12_behindSum_154 rfl (fun _ => ?_) (fun c154 => absurd c154 (by decide))
  refine g_aload_n d12_behindSum_163 rfl ?_
  refine g_EV0 vm12_isCompared ml12_298 c_74 (r12_isCompared (I := I) (X ++ Y).length (by exact g8) (by rw [List.length_append]; omega) (PQ.pv g10) (Nat.le_refl 1)) (by omega) (Nat.le_of_ble_eq_true rfl) d12_behindSum_164 ?_
  refine g_bz 172 d12_behindSum_167 rfl (fun c167 => absurd (by rw [hic]; exact hcp) c167) (fun _ => ?_)
  refine g_iconstv (nI 2) d12_behindSum_170 rfl ?_
  exact g_iret rfl d12_behindSum_171 (⟨rfl, rfl⟩)
set_option maxHeartbeats 800000 in
theorem r12_bs_25a {l : Launch} {K : cK} {d : Nat} {I : wI} {L : wL} {R : wR} {dy : cH} (tp : Nat → Nat) (t : Nat) (lw : Bool) (X Y : List (Nat × Nat)) (a b pa br f : Nat) (v : Den) (hS : PSt I L tp t lw (X ++ Y) b pa br f) (k0 : Nat) (hB : b + X.length + Y.length + k0 ≤ f) (hadd : addO (sg tp t f) = 0) (hmul : mulO (sg tp t f) = 0) (hin : ibX (X ++ Y) = 0) (hcp : icX (X ++ Y) = false) (hsg : sg tp t f = 60) (hTB : TB X 5) (hBG : BG 5 Y) (hPD : PD (opF I) (agF I) Y a b v) (hd : 3 ≤ d) : CX l K m12_behindSum d [.ref 74, .int (nI 1)] (hp I L R dy) (α := wI × wL × Nat) (fun x => PSt x.1 x.2.1 tp t lw (X ++ [(25, 0)]) (x.2.2) pa br (nxt tp t f) ∧ FP I L x.1 x.2.1 ∧ SG (opF x.1) (agF x.1) a x.2.2 v ∧ x.2.2 + X.length + 1 + k0 ≤ nxt tp t f ∧ ∀ k, k < a → x.1 81 k = I 81 k ∧ x.1 82 k = I 82 k) (fun _ => .int (nI 1)) (fun x => hp x.1 x.2.1 R dy) := by
  obtain ⟨g1, g2, g3, g4, g5, g6, g7, g8, g9, g10⟩ := id hS
  have hnx := nxt_le (tp := tp) g2.1
  have ht4 := g1.1
  have hft := g2.1
  have hte := (tE_le (tp := tp) g2.1).1
  obtain ⟨hq1, hq2⟩ := (PQ.app X).1 g10
  rw [Nat.zero_add] at hq2
  have g8b : I 74 24 = nI (X.length + Y.length) := by rw [g8, List.length_append]
  obtain ⟨na1, na2⟩ := addO_0 hadd
  obtain ⟨na3, na4, na5⟩ := mulO_0 hmul
  obtain ⟨hib, hic⟩ := ib_X (X ++ Y).length (X ++ Y) rfl g10
  have hnx2 := hnx.2.2 (by rw [sg_kd hsg (by decide)]; decide)
  refine CC.of ok12_behindSum (Nat.le_of_ble_eq_true rfl) ?_
  refine g_aload_n d12_behindSum_0 rfl ?_
  refine g_bipushv (nI 43) d12_behindSum_1 rfl ?_
  refine g_EV1 vm12_isSign ml12_265 c_74 (r12_isSign tp t f hS.1 hS.2.1 43 (by decide) (by decide) (Nat.le_refl 0)) (by omega) (Nat.le_of_ble_eq_true rfl) d12_behindSum_3 ?_
  refine g_bz 14 d12_behindSum_6 rfl (fun _ => ?_) (fun c6 => absurd c6 (by omega))
  refine g_aload_n d12_behindSum_14 rfl ?_
  refine g_bipushv (nI 45) d12_behindSum_15 rfl ?_
  refine g_EV1 vm12_isSign ml12_265 c_74 (r12_isSign tp t f hS.1 hS.2.1 45 (by decide) (by decide) (Nat.le_refl 0)) (by omega) (Nat.le_of_ble_eq_true rfl) d12_behindSum_17 ?_
  refine g_bz 28 d12_behindSum_20 rfl (fun _ => ?_) (fun c20 => absurd c20 (by omega))
  refine g_aload_n d12_behindSum_28 rfl ?_
  refine g_bipushv (nI 42) d12_behindSum_29 rfl ?_
  refine g_EV1 vm12_isSign ml12_265 c_74 (r12_isSign tp t f hS.1 hS.2.1 42 (by decide) (by decide) (Nat.le_refl 0)) (by omega) (Nat.le_of_ble_eq_true rfl) d12_behindSum_31 ?_
  refine g_bz 42 d12_behindSum_34 rfl (fun _ => ?_) (fun c34 => absurd c34 (by omega))
  refine g_aload_n d12_behindSum_42 rfl ?_
  refine g_bipushv (nI 47) d12_behindSum_43 rfl ?_
  refine g_EV1 vm12_isSign ml12_265 c_74 (r12_isSign tp t f hS.1 hS.2.1 47 (by decide) (by decide) (Nat.le_refl 0)) (by omega) (Nat.le_of_ble_eq_true rfl) d12_behindSum_45 ?_
  refine g_bz 56 d12_behindSum_48 rfl (fun _ => ?_) (fun c48 => absurd c48 (by omega))
  refine g_aload_n d12_behindSum_56 rfl ?_
  refine g_bipushv (nI 37) d12_behindSum_57 rfl ?_
  refine g_EV1 vm12_isSign ml12_265 c_74 (r12_isSign tp t f hS.1 hS.2.1 37 (by decide) (by decide) (Nat.le_refl 0)) (by omega) (Nat.le_of_ble_eq_true rfl) d12_behindSum_59 ?_
  refine g_bz 70 d12_behindSum_62 rfl (fun _ => ?_) (fun c62 => absurd c62 (by omega))
  refine g_iconstv ((-1 : Int32)) d12_behindSum_70 rfl ?_
  refine g_istore_n d12_behindSum_71 (by decide) ?_
  refine g_iload_n d12_behindSum_72 rfl ?_
  refine g_iconstv ((-1 : Int32)) d12_behindSum_73 rfl ?_
  refine g_ic_eq (-1) (-1) 97 (by decide) (by decide) d12_behindSum_74 rfl (fun _ => ?_) (fun c74 => absurd c74 (by decide))
  refine g_aload_n d12_behindSum_97 rfl ?_
  refine g_EV0 vm12_inner ml12_295 c_74 (r12_inner (I := I) (X ++ Y).length (by exact g8) (by rw [List.length_append]; omega) (PQ.pv g10) (Nat.le_refl 0)) (by omega) (Nat.le_of_ble_eq_true rfl) d12_behindSum_98 ?_
  refine g_topI ((-1 : Int32)) (by rw [hib, hin]; rfl) ?_
  refine g_istore_n d12_behindSum_101 (by decide) ?_
  refine g_iload_n d12_behindSum_102 rfl ?_
  refine g_bipushv (nI 32) d12_behindSum_103 rfl ?_
  refine g_ic_ne (-1) (32) 152 (by decide) (by decide) d12_behindSum_105 rfl (fun _ => ?_) (fun c105 => absurd c105 (by decide))
  refine g_iload_n d12_behindSum_152 rfl ?_
  refine g_iconstv ((-1 : Int32)) d12_behindSum_153 rfl ?_
  refine g_ic_ne (-1) (-1) 163 (by decide) (by decide) d12_behindSum_154 rfl (fun c154 => absurd c154 (by decide)) (fun _ => ?_)
  refine g_iload_n d12_behindSum_157 rfl ?_
  refine g_iz_ne (1) 163 (by decide) d12_behindSum_158 rfl (fun _ => ?_) (fun c158 => absurd c158 (by decide))
  refine g_aload_n d12_behindSum_163 rfl ?_
  refine g_EV0 vm12_isCompared ml12_298 c_74 (r12_isCompared (I := I) (X ++ Y).length (by exact g8) (by rw [List.length_append]; omega) (PQ.pv g10) (Nat.le_refl 1)) (by omega) (Nat.le_of_ble_eq_true rfl) d12_behindSum_164 ?_
  refine g_bz 172 d12_behindSum_167 rfl (fun _ => ?_) (fun c167 => absurd c167 (by rw [hic, hcp]; decide))
  refine g_aload_n d12_behindSum_172 rfl ?_
  refine g_bipushv (nI 60) d12_behindSum_173 rfl ?_
  refine g_EV1 vm12_isSign ml12_265 c_74 (r12_isSign tp t f hS.1 hS.2.1 60 (by decide) (by decide) (Nat.le_refl 0)) (by omega) (Nat.le_of_ble_eq_true rfl) d12_behindSum_175 ?_
  refine g_bz 186 d12_behindSum_178 rfl (fun c178 => absurd (hsg) c178) (fun _ => ?_)
  refine g_bipushv (nI 25) d12_behindSum_181 rfl ?_
  refine g_goto 202 d12_behindSum_183 rfl ?_
  refine g_istore_n d12_behindSum_202 (by decide) ?_
  refine g_aload_n d12_behindSum_203 rfl ?_
  refine g_iload_n d12_behindSum_204 rfl ?_
  refine g_bipushv (nI 27) d12_behindSum_205 rfl ?_
  refine g_ic_ne (25) (27) 219 (by decide) (by decide) d12_behindSum_207 rfl (fun _ => ?_) (fun c207 => absurd c207 (by decide))
  refine g_iconstv (nI 1) d12_behindSum_219 rfl ?_
  refine g_goto 224 d12_behindSum_220 rfl ?_
  refine g_WV1 vm12_must ml12_227 c_74 (r12_must_ok tp t f hS.1 hS.2.1 hS.2.2.2.1 (Nat.le_refl 2)) (by omega) (Nat.le_of_ble_eq_true rfl) d12_behindSum_224 (fun x hx => ?_)
  obtain ⟨I2, L2⟩ := x
  obtain ⟨hF, hK⟩ := hx
  dsimp only at hF hK ⊢
  have hS3 := hS.nx hF hK
  have e81 := hF.1 81 (by decide) (by decide)
  have e82 := hF.1 82 (by decide) (by decide)
  obtain ⟨w1, w2, w3, w4, w5, w6, w7, w8, w9, w10⟩ := id hS3
  obtain ⟨wq1, wq2⟩ := (PQ.app X).1 w10
  rw [Nat.zero_add] at wq2
  have w8b : I2 74 24 = nI (X.length + Y.length) := by rw [w8, List.length_append]
  have hPD2 : PD (opF I2) (agF I2) Y a b v := PD.cg Y (fun k _ _ => ⟨congrArg Int32.toNatClampNeg (congrFun e81 k), congrArg Int32.toNatClampNeg (congrFun e82 k)⟩) hPD
  refine g_aload_n d12_behindSum_227 rfl ?_
  refine g_get fl12_192 d12_behindSum_228 f_74_14 ?_
  refine g_topI ((0 : Int32)) (w4) ?_
  refine g_iz_ne (0) 245 (by decide) d12_behindSum_231 rfl (fun c231 => absurd c231 (by decide)) (fun _ => ?_)
  refine g_aload_n d12_behindSum_234 rfl ?_
  refine g_iconstv (nI 5) d12_behindSum_235 rfl ?_
  refine g_WV1 vm12_settle ml12_292 c_74 (r12_settle (I := I2) [] Y (X.length) a (5) b (by decide) v (hTB.bl wq1) (w8b) (w6) (by omega) (by exact hPD2) (PQ.pe Y wq2 (hBG.mono (by decide) Y)) (hBG) (Nat.le_refl 1)) (by omega) (Nat.le_of_ble_eq_true rfl) d12_behindSum_236 (fun y hy => ?_)
  have hS2 := hS3.st hy
  have hps := hS2.ps (o := 25) (j := 0) (by decide) (by decide) (by decide)
  have hfp := ST.fp (L := L2) hy
  obtain ⟨s1, s2, s3, s4, s5, s6, s7, s8, s9⟩ := hy
  refine g_aload_n d12_behindSum_239 rfl ?_
  refine g_iload_n d12_behindSum_240 rfl ?_
  refine g_iconstv (nI 0) d12_behindSum_241 rfl ?_
  refine g_VV2 vm12_push ml12_259 c_74 (r12_push (I := y.1) X.length s3 (by omega) (nI 25) (nI 0) (Nat.le_refl 0)) (by omega) (Nat.le_of_ble_eq_true rfl) d12_behindSum_242 ?_
  refine g_iconstv (nI 1) d12_behindSum_245 rfl ?_
  exact g_iret rfl d12_behindSum_246 (⟨(_, L2, y.2), ⟨hps, (((((hF.up (by decide) (by decide) (by decide) (by decide)).tr hfp).ui (by decide) (by decide)).ui (by decide) (by decide)).uf (by decide)), SG.cg s7 (fun k _ _ => ⟨rfl, rfl⟩), (by show y.2 + X.length + 1 + k0 ≤ nxt tp t f; omega), fun k hk => ⟨(s8 k hk).1.trans (congrFun e81 k), (s8 k hk).2.trans (congrFun e82 k)⟩⟩, rfl, rfl⟩)
set_option maxHeartbeats 800000 in
theorem r12_bs_26a {l : Launch} {K : cK} {d : Nat} {I : wI} {L : wL} {R : wR} {dy : cH} (tp : Nat → Nat) (t : Nat) (lw : Bool) (X Y : List (Nat × Nat)) (a b pa br f : Nat) (v : Den) (hS : PSt I L tp t lw (X ++ Y) b pa br f) (k0 : Nat) (hB : b + X.length + Y.length + k0 ≤ f) (hadd : addO (sg tp t f) = 0) (hmul : mulO (sg tp t f) = 0) (hin : ibX (X ++ Y) = 0) (hcp : icX (X ++ Y) = false) (hsg : sg tp t f = 62) (hTB : TB X 5) (hBG : BG 5 Y) (hPD : PD (opF I) (agF I) Y a b v) (hd : 3 ≤ d) : CX l K m12_behindSum d [.ref 74, .int (nI 1)] (hp I L R dy) (α := wI × wL × Nat) (fun x => PSt x.1 x.2.1 tp t lw (X ++ [(26, 0)]) (x.2.2) pa br (nxt tp t f) ∧ FP I L x.1 x.2.1 ∧ SG (opF x.1) (agF x.1) a x.2.2 v ∧ x.2.2 + X.length + 1 + k0 ≤ nxt tp t f ∧ ∀ k, k < a → x.1 81 k = I 81 k ∧ x.1 82 k = I 82 k) (fun _ => .int (nI 1)) (fun x => hp x.1 x.2.1 R dy) := by
  obtain ⟨g1, g2, g3, g4, g5, g6, g7, g8, g9, g10⟩ := id hS
  have hnx := nxt_le (tp := tp) g2.1
  have ht4 := g1.1
  have hft := g2.1
  have hte := (tE_le (tp := tp) g2.1).1
  obtain ⟨hq1, hq2⟩ := (PQ.app X).1 g10
  rw [Nat.zero_add] at hq2
  have g8b : I 74 24 = nI (X.length + Y.length) := by rw [g8, List.length_append]
  obtain ⟨na1, na2⟩ := addO_0 hadd
  obtain ⟨na3, na4, na5⟩ := mulO_0 hmul
  obtain ⟨hib, hic⟩ := ib_X (X ++ Y).length (X ++ Y) rfl g10
  have hnx2 := hnx.2.2 (by rw [sg_kd hsg (by decide)]; decide)
  refine CC.of ok12_behindSum (Nat.le_of_ble_eq_true rfl) ?_
  refine g_aload_n d12_behindSum_0 rfl ?_
  refine g_bipushv (nI 43) d12_behindSum_1 rfl ?_
  refine g_EV1 vm12_isSign ml12_265 c_74 (r12_isSign tp t f hS.1 hS.2.1 43 (by decide) (by decide) (Nat.le_refl 0)) (by omega) (Nat.le_of_ble_eq_true rfl) d12_behindSum_3 ?_
  refine g_bz 14 d12_behindSum_6 rfl (fun _ => ?_) (fun c6 => absurd c6 (by omega))
  refine g_aload_n d12_behindSum_14 rfl ?_
  refine g_bipushv (nI 45) d12_behindSum_15 rfl ?_
  refine g_EV1 vm12_isSign ml12_265 c_74 (r12_isSign tp t f hS.1 hS.2.1 45 (by decide) (by decide) (Nat.le_refl 0)) (by omega) (Nat.le_of_ble_eq_true rfl) d12_behindSum_17 ?_
  refine g_bz 28 d12_behindSum_20 rfl (fun _ => ?_) (fun c20 => absurd c20 (by omega))
  refine g_aload_n d12_behindSum_28 rfl ?_
  refine g_bipushv (nI 42) d12_behindSum_29 rfl ?_
  refine g_EV1 vm12_isSign ml12_265 c_74 (r12_isSign tp t f hS.1 hS.2.1 42 (by decide) (by decide) (Nat.le_refl 0)) (by omega) (Nat.le_of_ble_eq_true rfl) d12_behindSum_31 ?_
  refine g_bz 42 d12_behindSum_34 rfl (fun _ => ?_) (fun c34 => absurd c34 (by omega))
  refine g_aload_n d12_behindSum_42 rfl ?_
  refine g_bipushv (nI 47) d12_behindSum_43 rfl ?_
  refine g_EV1 vm12_isSign ml12_265 c_74 (r12_isSign tp t f hS.1 hS.2.1 47 (by decide) (by decide) (Nat.le_refl 0)) (by omega) (Nat.le_of_ble_eq_true rfl) d12_behindSum_45 ?_
  refine g_bz 56 d12_behindSum_48 rfl (fun _ => ?_) (fun c48 => absurd c48 (by omega))
  refine g_aload_n d12_behindSum_56 rfl ?_
  refine g_bipushv (nI 37) d12_behindSum_57 rfl ?_
  refine g_EV1 vm12_isSign ml12_265 c_74 (r12_isSign tp t f hS.1 hS.2.1 37 (by decide) (by decide) (Nat.le_refl 0)) (by omega) (Nat.le_of_ble_eq_true rfl) d12_behindSum_59 ?_
  refine g_bz 70 d12_behindSum_62 rfl (fun _ => ?_) (fun c62 => absurd c62 (by omega))
  refine g_iconstv ((-1 : Int32)) d12_behindSum_70 rfl ?_
  refine g_istore_n d12_behindSum_71 (by decide) ?_
  refine g_iload_n d12_behindSum_72 rfl ?_
  refine g_iconstv ((-1 : Int32)) d12_behindSum_73 rfl ?_
  refine g_ic_eq (-1) (-1) 97 (by decide) (by decide) d12_behindSum_74 rfl (fun _ => ?_) (fun c74 => absurd c74 (by decide))
  refine g_aload_n d12_behindSum_97 rfl ?_
  refine g_EV0 vm12_inner ml12_295 c_74 (r12_inner (I := I) (X ++ Y).length (by exact g8) (by rw [List.length_append]; omega) (PQ.pv g10) (Nat.le_refl 0)) (by omega) (Nat.le_of_ble_eq_true rfl) d12_behindSum_98 ?_
  refine g_topI ((-1 : Int32)) (by rw [hib, hin]; rfl) ?_
  refine g_istore_n d12_behindSum_101 (by decide) ?_
  refine g_iload_n d12_behindSum_102 rfl ?_
  refine g_bipushv (nI 32) d12_behindSum_103 rfl ?_
  refine g_ic_ne (-1) (32) 152 (by decide) (by decide) d12_behindSum_105 rfl (fun _ => ?_) (fun c105 => absurd c105 (by decide))
  refine g_iload_n d12_behindSum_152 rfl ?_
  refine g_iconstv ((-1 : Int32)) d12_behindSum_153 rfl ?_
  refine g_ic_ne (-1) (-1) 163 (by decide) (by decide) d12_behindSum_154 rfl (fun c154 => absurd c154 (by decide)) (fun _ => ?_)
  refine g_iload_n d12_behindSum_157 rfl ?_
  refine g_iz_ne (1) 163 (by decide) d12_behindSum_158 rfl (fun _ => ?_) (fun c158 => absurd c158 (by decide))
  refine g_aload_n d12_behindSum_163 rfl ?_
  refine g_EV0 vm12_isCompared ml12_298 c_74 (r12_isCompared (I := I) (X ++ Y).length (by exact g8) (by rw [List.length_append]; omega) (PQ.pv g10) (Nat.le_refl 1)) (by omega) (Nat.le_of_ble_eq_true rfl) d12_behindSum_164 ?_
  refine g_bz 172 d12_behindSum_167 rfl (fun _ => ?_) (fun c167 => absurd c167 (by rw [hic, hcp]; decide))
  refine g_aload_n d12_behindSum_172 rfl ?_
  refine g_bipushv (nI 60) d12_behindSum_173 rfl ?_
  refine g_EV1 vm12_isSign ml12_265 c_74 (r12_isSign tp t f hS.1 hS.2.1 60 (by decide) (by decide) (Nat.le_refl 0)) (by omega) (Nat.le_of_ble_eq_true rfl) d12_behindSum_175 ?_
  refine g_bz 186 d12_behindSum_178 rfl (fun _ => ?_) (fun c178 => absurd c178 (by omega))
  refine g_aload_n d12_behindSum_186 rfl ?_
  refine g_bipushv (nI 62) d12_behindSum_187 rfl ?_
  refine g_EV1 vm12_isSign ml12_265 c_74 (r12_isSign tp t f hS.1 hS.2.1 62 (by decide) (by decide) (Nat.le_refl 0)) (by omega) (Nat.le_of_ble_eq_true rfl) d12_behindSum_189 ?_
  refine g_bz 200 d12_behindSum_192 rfl (fun c192 => absurd (hsg) c192) (fun _ => ?_)
  refine g_bipushv (nI 26) d12_behindSum_195 rfl ?_
  refine g_goto 202 d12_behindSum_197 rfl ?_
  refine g_istore_n d12_behindSum_202 (by decide) ?_
  refine g_aload_n d12_behindSum_203 rfl ?_
  refine g_iload_n d12_behindSum_204 rfl ?_
  refine g_bipushv (nI 27) d12_behindSum_205 rfl ?_
  refine g_ic_ne (26) (27) 219 (by decide) (by decide) d12_behindSum_207 rfl (fun _ => ?_) (fun c207 => absurd c207 (by decide))
  refine g_iconstv (nI 1) d12_behindSum_219 rfl ?_
  refine g_goto 224 d12_behindSum_220 rfl ?_
  refine g_WV1 vm12_must ml12_227 c_74 (r12_must_ok tp t f hS.1 hS.2.1 hS.2.2.2.1 (Nat.le_refl 2)) (by omega) (Nat.le_of_ble_eq_true rfl) d12_behindSum_224 (fun x hx => ?_)
  obtain ⟨I2, L2⟩ := x
  obtain ⟨hF, hK⟩ := hx
  dsimp only at hF hK ⊢
  have hS3 := hS.nx hF hK
  have e81 := hF.1 81 (by decide) (by decide)
  have e82 := hF.1 82 (by decide) (by decide)
  obtain ⟨w1, w2, w3, w4, w5, w6, w7, w8, w9, w10⟩ := id hS3
  obtain ⟨wq1, wq2⟩ := (PQ.app X).1 w10
  rw [Nat.zero_add] at wq2
  have w8b : I2 74 24 = nI (X.length + Y.length) := by rw [w8, List.length_append]
  have hPD2 : PD (opF I2) (agF I2) Y a b v := PD.cg Y (fun k _ _ => ⟨congrArg Int32.toNatClampNeg (congrFun e81 k), congrArg Int32.toNatClampNeg (congrFun e82 k)⟩) hPD
  refine g_aload_n d12_behindSum_227 rfl ?_
  refine g_get fl12_192 d12_behindSum_228 f_74_14 ?_
  refine g_topI ((0 : Int32)) (w4) ?_
  refine g_iz_ne (0) 245 (by decide) d12_behindSum_231 rfl (fun c231 => absurd c231 (by decide)) (fun _ => ?_)
  refine g_aload_n d12_behindSum_234 rfl ?_
  refine g_iconstv (nI 5) d12_behindSum_235 rfl ?_
  refine g_WV1 vm12_settle ml12_292 c_74 (r12_settle (I := I2) [] Y (X.length) a (5) b (by decide) v (hTB.bl wq1) (w8b) (w6) (by omega) (by exact hPD2) (PQ.pe Y wq2 (hBG.mono (by decide) Y)) (hBG) (Nat.le_refl 1)) (by omega) (Nat.le_of_ble_eq_true rfl) d12_behindSum_236 (fun y hy => ?_)
  have hS2 := hS3.st hy
  have hps := hS2.ps (o := 26) (j := 0) (by decide) (by decide) (by decide)
  have hfp := ST.fp (L := L2) hy
  obtain ⟨s1, s2, s3, s4, s5, s6, s7, s8, s9⟩ := hy
  refine g_aload_n d12_behindSum_239 rfl ?_
  refine g_iload_n d12_behindSum_240 rfl ?_
  refine g_iconstv (nI 0) d12_behindSum_241 rfl ?_
  refine g_VV2 vm12_push ml12_259 c_74 (r12_push (I := y.1) X.length s3 (by omega) (nI 26) (nI 0) (Nat.le_refl 0)) (by omega) (Nat.le_of_ble_eq_true rfl) d12_behindSum_242 ?_
  refine g_iconstv (nI 1) d12_behindSum_245 rfl ?_
  exact g_iret rfl d12_behindSum_246 (⟨(_, L2, y.2), ⟨hps, (((((hF.up (by decide) (by decide) (by decide) (by decide)).tr hfp).ui (by decide) (by decide)).ui (by decide) (by decide)).uf (by decide)), SG.cg s7 (fun k _ _ => ⟨rfl, rfl⟩), (by show y.2 + X.length + 1 + k0 ≤ nxt tp t f; omega), fun k hk => ⟨(s8 k hk).1.trans (congrFun e81 k), (s8 k hk).2.trans (congrFun e82 k)⟩⟩, rfl, rfl⟩)
set_option maxHeartbeats 800000 in
theorem r12_bs_27a {l : Launch} {K : cK} {d : Nat} {I : wI} {L : wL} {R : wR} {dy : cH} (tp : Nat → Nat) (t : Nat) (lw : Bool) (X Y : List (Nat × Nat)) (a b pa br f : Nat) (v : Den) (hS : PSt I L tp t lw (X ++ Y) b pa br f) (k0 : Nat) (hB : b + X.length + Y.length + k0 ≤ f) (hadd : addO (sg tp t f) = 0) (hmul : mulO (sg tp t f) = 0) (hin : ibX (X ++ Y) = 0) (hcp : icX (X ++ Y) = false) (hsg : sg tp t f = 61) (hTB : TB X 5) (hBG : BG 5 Y) (hPD : PD (opF I) (agF I) Y a b v) (hd : 3 ≤ d) : CX l K m12_behindSum d [.ref 74, .int (nI 1)] (hp I L R dy) (α := wI × wL × Nat) (fun x => PSt x.1 x.2.1 tp t lw (X ++ [(27, 0)]) (x.2.2) pa br (nxt tp t f) ∧ FP I L x.1 x.2.1 ∧ SG (opF x.1) (agF x.1) a x.2.2 v ∧ x.2.2 + X.length + 1 + k0 ≤ nxt tp t f ∧ ∀ k, k < a → x.1 81 k = I 81 k ∧ x.1 82 k = I 82 k) (fun _ => .int (nI 1)) (fun x => hp x.1 x.2.1 R dy) := by
  obtain ⟨g1, g2, g3, g4, g5, g6, g7, g8, g9, g10⟩ := id hS
  have hnx := nxt_le (tp := tp) g2.1
  have ht4 := g1.1
  have hft := g2.1
  have hte := (tE_le (tp := tp) g2.1).1
  obtain ⟨hq1, hq2⟩ := (PQ.app X).1 g10
  rw [Nat.zero_add] at hq2
  have g8b : I 74 24 = nI (X.length + Y.length) := by rw [g8, List.length_append]
  obtain ⟨na1, na2⟩ := addO_0 hadd
  obtain ⟨na3, na4, na5⟩ := mulO_0 hmul
  obtain ⟨hib, hic⟩ := ib_X (X ++ Y).length (X ++ Y) rfl g10
  have hnx2 := hnx.2.2 (by rw [sg_kd hsg (by decide)]; decide)
  refine CC.of ok12_behindSum (Nat.le_of_ble_eq_true rfl) ?_
  refine g_aload_n d12_behindSum_0 rfl ?_
  refine g_bipushv (nI 43) d12_behindSum_1 rfl ?_
  refine g_EV1 vm12_isSign ml12_265 c_74 (r12_isSign tp t f hS.1 hS.2.1 43 (by decide) (by decide) (Nat.le_refl 0)) (by omega) (Nat.le_of_ble_eq_true rfl) d12_behindSum_3 ?_
  refine g_bz 14 d12_behindSum_6 rfl (fun _ => ?_) (fun c6 => absurd c6 (by omega))
  refine g_aload_n d12_behindSum_14 rfl ?_
  refine g_bipushv (nI 45) d12_behindSum_15 rfl ?_
  refine g_EV1 vm12_isSign ml12_265 c_74 (r12_isSign tp t f hS.1 hS.2.1 45 (by decide) (by decide) (Nat.le_refl 0)) (by omega) (Nat.le_of_ble_eq_true rfl) d12_behindSum_17 ?_
  refine g_bz 28 d12_behindSum_20 rfl (fun _ => ?_) (fun c20 => absurd c20 (by omega))
  refine g_aload_n d12_behindSum_28 rfl ?_
  refine g_bipushv (nI 42) d12_behindSum_29 rfl ?_
  refine g_EV1 vm12_isSign ml12_265 c_74 (r12_isSign tp t f hS.1 hS.2.1 42 (by decide) (by decide) (Nat.le_refl 0)) (by omega) (Nat.le_of_ble_eq_true rfl) d12_behindSum_31 ?_
  refine g_bz 42 d12_behindSum_34 rfl (fun _ => ?_) (fun c34 => absurd c34 (by omega))
  refine g_aload_n d12_behindSum_42 rfl ?_
  refine g_bipushv (nI 47) d12_behindSum_43 rfl ?_
  refine g_EV1 vm12_isSign ml12_265 c_74 (r12_isSign tp t f hS.1 hS.2.1 47 (by decide) (by decide) (Nat.le_refl 0)) (by omega) (Nat.le_of_ble_eq_true rfl) d12_behindSum_45 ?_
  refine g_bz 56 d12_behindSum_48 rfl (fun _ => ?_) (fun c48 => absurd c48 (by omega))
  refine g_aload_n d12_behindSum_56 rfl ?_
  refine g_bipushv (nI 37) d12_behindSum_57 rfl ?_
  refine g_EV1 vm12_isSign ml12_265 c_74 (r12_isSign tp t f hS.1 hS.2.1 37 (by decide) (by decide) (Nat.le_refl 0)) (by omega) (Nat.le_of_ble_eq_true rfl) d12_behindSum_59 ?_
  refine g_bz 70 d12_behindSum_62 rfl (fun _ => ?_) (fun c62 => absurd c62 (by omega))
  refine g_iconstv ((-1 : Int32)) d12_behindSum_70 rfl ?_
  refine g_istore_n d12_behindSum_71 (by decide) ?_
  refine g_iload_n d12_behindSum_72 rfl ?_
  refine g_iconstv ((-1 : Int32)) d12_behindSum_73 rfl ?_
  refine g_ic_eq (-1) (-1) 97 (by decide) (by decide) d12_behindSum_74 rfl (fun _ => ?_) (fun c74 => absurd c74 (by decide))
  refine g_aload_n d12_behindSum_97 rfl ?_
  refine g_EV0 vm12_inner ml12_295 c_74 (r12_inner (I := I) (X ++ Y).length (by exact g8) (by rw [List.length_append]; omega) (PQ.pv g10) (Nat.le_refl 0)) (by omega) (Nat.le_of_ble_eq_true rfl) d12_behindSum_98 ?_
  refine g_topI ((-1 : Int32)) (by rw [hib, hin]; rfl) ?_
  refine g_istore_n d12_behindSum_101 (by decide) ?_
  refine g_iload_n d12_behindSum_102 rfl ?_
  refine g_bipushv (nI 32) d12_behindSum_103 rfl ?_
  refine g_ic_ne (-1) (32) 152 (by decide) (by decide) d12_behindSum_105 rfl (fun _ => ?_) (fun c105 => absurd c105 (by decide))
  refine g_iload_n d12_behindSum_152 rfl ?_
  refine g_iconstv ((-1 : Int32)) d12_behindSum_153 rfl ?_
  refine g_ic_ne (-1) (-1) 163 (by decide) (by decide) d12_behindSum_154 rfl (fun c154 => absurd c154 (by decide)) (fun _ => ?_)
  refine g_iload_n d12_behindSum_157 rfl ?_
  refine g_iz_ne (1) 163 (by decide) d12_behindSum_158 rfl (fun _ => ?_) (fun c158 => absurd c158 (by decide))
  refine g_aload_n d12_behindSum_163 rfl ?_
  refine g_EV0 vm12_isCompared ml12_298 c_74 (r12_isCompared (I := I) (X ++ Y).length (by exact g8) (by rw [List.length_append]; omega) (PQ.pv g10) (Nat.le_refl 1)) (by omega) (Nat.le_of_ble_eq_true rfl) d12_behindSum_164 ?_
  refine g_bz 172 d12_behindSum_167 rfl (fun _ => ?_) (fun c167 => absurd c167 (by rw [hic, hcp]; decide))
  refine g_aload_n d12_behindSum_172 rfl ?_
  refine g_bipushv (nI 60) d12_behindSum_173 rfl ?_
  refine g_EV1 vm12_isSign ml12_265 c_74 (r12_isSign tp t f hS.1 hS.2.1 60 (by decide) (by decide) (Nat.le_refl 0)) (by omega) (Nat.le_of_ble_eq_true rfl) d12_behindSum_175 ?_
  refine g_bz 186 d12_behindSum_178 rfl (fun _ => ?_) (fun c178 => absurd c178 (by omega))
  refine g_aload_n d12_behindSum_186 rfl ?_
  refine g_bipushv (nI 62) d12_behindSum_187 rfl ?_
  refine g_EV1 vm12_isSign ml12_265 c_74 (r12_isSign tp t f hS.1 hS.2.1 62 (by decide) (by decide) (Nat.le_refl 0)) (by omega) (Nat.le_of_ble_eq_true rfl) d12_behindSum_189 ?_
  refine g_bz 200 d12_behindSum_192 rfl (fun _ => ?_) (fun c192 => absurd c192 (by omega))
  refine g_bipushv (nI 27) d12_behindSum_200 rfl ?_
  refine g_istore_n d12_behindSum_202 (by decide) ?_
  refine g_aload_n d12_behindSum_203 rfl ?_
  refine g_iload_n d12_behindSum_204 rfl ?_
  refine g_bipushv (nI 27) d12_behindSum_205 rfl ?_
  refine g_ic_ne (27) (27) 219 (by decide) (by decide) d12_behindSum_207 rfl (fun c207 => absurd c207 (by decide)) (fun _ => ?_)
  refine g_aload_n d12_behindSum_210 rfl ?_
  refine g_bipushv (nI 61) d12_behindSum_211 rfl ?_
  refine g_EV1 vm12_isSign ml12_265 c_74 (r12_isSign tp t f hS.1 hS.2.1 61 (by decide) (by decide) (Nat.le_refl 0)) (by omega) (Nat.le_of_ble_eq_true rfl) d12_behindSum_213 ?_
  refine g_bz 223 d12_behindSum_216 rfl (fun c216 => absurd (hsg) c216) (fun _ => ?_)
  refine g_iconstv (nI 1) d12_behindSum_219 rfl ?_
  refine g_goto 224 d12_behindSum_220 rfl ?_
  refine g_WV1 vm12_must ml12_227 c_74 (r12_must_ok tp t f hS.1 hS.2.1 hS.2.2.2.1 (Nat.le_refl 2)) (by omega) (Nat.le_of_ble_eq_true rfl) d12_behindSum_224 (fun x hx => ?_)
  obtain ⟨I2, L2⟩ := x
  obtain ⟨hF, hK⟩ := hx
  dsimp only at hF hK ⊢
  have hS3 := hS.nx hF hK
  have e81 := hF.1 81 (by decide) (by decide)
  have e82 := hF.1 82 (by decide) (by decide)
  obtain ⟨w1, w2, w3, w4, w5, w6, w7, w8, w9, w10⟩ := id hS3
  obtain ⟨wq1, wq2⟩ := (PQ.app X).1 w10
  rw [Nat.zero_add] at wq2
  have w8b : I2 74 24 = nI (X.length + Y.length) := by rw [w8, List.length_append]
  have hPD2 : PD (opF I2) (agF I2) Y a b v := PD.cg Y (fun k _ _ => ⟨congrArg Int32.toNatClampNeg (congrFun e81 k), congrArg Int32.toNatClampNeg (congrFun e82 k)⟩) hPD
  refine g_aload_n d12_behindSum_227 rfl ?_
  refine g_get fl12_192 d12_behindSum_228 f_74_14 ?_
  refine g_topI ((0 : Int32)) (w4) ?_
  refine g_iz_ne (0) 245 (by decide) d12_behindSum_231 rfl (fun c231 => absurd c231 (by decide)) (fun _ => ?_)
  refine g_aload_n d12_behindSum_234 rfl ?_
  refine g_iconstv (nI 5) d12_behindSum_235 rfl ?_
  refine g_WV1 vm12_settle ml12_292 c_74 (r12_settle (I := I2) [] Y (X.length) a (5) b (by decide) v (hTB.bl wq1) (w8b) (w6) (by omega) (by exact hPD2) (PQ.pe Y wq2 (hBG.mono (by decide) Y)) (hBG) (Nat.le_refl 1)) (by omega) (Nat.le_of_ble_eq_true rfl) d12_behindSum_236 (fun y hy => ?_)
  have hS2 := hS3.st hy
  have hps := hS2.ps (o := 27) (j := 0) (by decide) (by decide) (by decide)
  have hfp := ST.fp (L := L2) hy
  obtain ⟨s1, s2, s3, s4, s5, s6, s7, s8, s9⟩ := hy
  refine g_aload_n d12_behindSum_239 rfl ?_
  refine g_iload_n d12_behindSum_240 rfl ?_
  refine g_iconstv (nI 0) d12_behindSum_241 rfl ?_
  refine g_VV2 vm12_push ml12_259 c_74 (r12_push (I := y.1) X.length s3 (by omega) (nI 27) (nI 0) (Nat.le_refl 0)) (by omega) (Nat.le_of_ble_eq_true rfl) d12_behindSum_242 ?_
  refine g_iconstv (nI 1) d12_behindSum_245 rfl ?_
  exact g_iret rfl d12_behindSum_246 (⟨(_, L2, y.2), ⟨hps, (((((hF.up (by decide) (by decide) (by decide) (by decide)).tr hfp).ui (by decide) (by decide)).ui (by decide) (by decide)).uf (by decide)), SG.cg s7 (fun k _ _ => ⟨rfl, rfl⟩), (by show y.2 + X.length + 1 + k0 ≤ nxt tp t f; omega), fun k hk => ⟨(s8 k hk).1.trans (congrFun e81 k), (s8 k hk).2.trans (congrFun e82 k)⟩⟩, rfl, rfl⟩)
set_option maxHeartbeats 200000 in
theorem r12_bs_na {l : Launch} {K : cK} {d : Nat} {I : wI} {L : wL} {R : wR} {dy : cH} (tp : Nat → Nat) (t : Nat) (lw : Bool) (X Y : List (Nat × Nat)) (a b pa br f : Nat) (v : Den) (hS : PSt I L tp t lw (X ++ Y) b pa br f) (k0 : Nat) (hB : b + X.length + Y.length + k0 ≤ f) (hadd : addO (sg tp t f) = 0) (hmul : mulO (sg tp t f) = 0) (hin : ibX (X ++ Y) = 0) (hcp : icX (X ++ Y) = false) (hcm : cmpO (sg tp t f) = 0) (hd : 3 ≤ d) : CX l K m12_behindSum d [.ref 74, .int (nI 1)] (hp I L R dy) (α := wI × wL) (BSt I L f) (fun _ => .int (nI 1)) (fun x => hp x.1 x.2 R dy) := by
  obtain ⟨g1, g2, g3, g4, g5, g6, g7, g8, g9, g10⟩ := id hS
  have hnx := nxt_le (tp := tp) g2.1
  have ht4 := g1.1
  have hft := g2.1
  have hte := (tE_le (tp := tp) g2.1).1
  obtain ⟨hq1, hq2⟩ := (PQ.app X).1 g10
  rw [Nat.zero_add] at hq2
  have g8b : I 74 24 = nI (X.length + Y.length) := by rw [g8, List.length_append]
  obtain ⟨na1, na2⟩ := addO_0 hadd
  obtain ⟨na3, na4, na5⟩ := mulO_0 hmul
  obtain ⟨hib, hic⟩ := ib_X (X ++ Y).length (X ++ Y) rfl g10
  obtain ⟨nc1, nc2, nc3⟩ := cmpO_0 hcm
  refine CC.of ok12_behindSum (Nat.le_of_ble_eq_true rfl) ?_
  refine g_aload_n d12_behindSum_0 rfl ?_
  refine g_bipushv (nI 43) d12_behindSum_1 rfl ?_
  refine g_EV1 vm12_isSign ml12_265 c_74 (r12_isSign tp t f hS.1 hS.2.1 43 (by decide) (by decide) (Nat.le_refl 0)) (by omega) (Nat.le_of_ble_eq_true rfl) d12_behindSum_3 ?_
  refine g_bz 14 d12_behindSum_6 rfl (fun _ => ?_) (fun c6 => absurd c6 (by omega))
  refine g_aload_n d12_behindSum_14 rfl ?_
  refine g_bipushv (nI 45) d12_behindSum_15 rfl ?_
  refine g_EV1 vm12_isSign ml12_265 c_74 (r12_isSign tp t f hS.1 hS.2.1 45 (by decide) (by decide) (Nat.le_refl 0)) (by omega) (Nat.le_of_ble_eq_true rfl) d12_behindSum_17 ?_
  refine g_bz 28 d12_behindSum_20 rfl (fun _ => ?_) (fun c20 => absurd c20 (by omega))
  refine g_aload_n d12_behindSum_28 rfl ?_
  refine g_bipushv (nI 42) d12_behindSum_29 rfl ?_
  refine g_EV1 vm12_isSign ml12_265 c_74 (r12_isSign tp t f hS.1 hS.2.1 42 (by decide) (by decide) (Nat.le_refl 0)) (by omega) (Nat.le_of_ble_eq_true rfl) d12_behindSum_31 ?_
  refine g_bz 42 d12_behindSum_34 rfl (fun _ => ?_) (fun c34 => absurd c34 (by omega))
  refine g_aload_n d12_behindSum_42 rfl ?_
  refine g_bipushv (nI 47) d12_behindSum_43 rfl ?_
  refine g_EV1 vm12_isSign ml12_265 c_74 (r12_isSign tp t f hS.1 hS.2.1 47 (by decide) (by decide) (Nat.le_refl 0)) (by omega) (Nat.le_of_ble_eq_true rfl) d12_behindSum_45 ?_
  refine g_bz 56 d12_behindSum_48 rfl (fun _ => ?_) (fun c48 => absurd c48 (by omega))
  refine g_aload_n d12_behindSum_56 rfl ?_
  refine g_bipushv (nI 37) d12_behindSum_57 rfl ?_
  refine g_EV1 vm12_isSign ml12_265 c_74 (r12_isSign tp t f hS.1 hS.2.1 37 (by decide) (by decide) (Nat.le_refl 0)) (by omega) (Nat.le_of_ble_eq_true rfl) d12_behindSum_59 ?_
  refine g_bz 70 d12_behindSum_62 rfl (fun _ => ?_) (fun c62 => absurd c62 (by omega))
  refine g_iconstv ((-1 : Int32)) d12_behindSum_70 rfl ?_
  refine g_istore_n d12_behindSum_71 (by decide) ?_
  refine g_iload_n d12_behindSum_72 rfl ?_
  refine g_iconstv ((-1 : Int32)) d12_behindSum_73 rfl ?_
  refine g_ic_eq (-1) (-1) 97 (by decide) (by decide) d12_behindSum_74 rfl (fun _ => ?_) (fun c74 => absurd c74 (by decide))
  refine g_aload_n d12_behindSum_97 rfl ?_
  refine g_EV0 vm12_inner ml12_295 c_74 (r12_inner (I := I) (X ++ Y).length (by exact g8) (by rw [List.length_append]; omega) (PQ.pv g10) (Nat.le_refl 0)) (by omega) (Nat.le_of_ble_eq_true rfl) d12_behindSum_98 ?_
  refine g_topI ((-1 : Int32)) (by rw [hib, hin]; rfl) ?_
  refine g_istore_n d12_behindSum_101 (by decide) ?_
  refine g_iload_n d12_behindSum_102 rfl ?_
  refine g_bipushv (nI 32) d12_behindSum_103 rfl ?_
  refine g_ic_ne (-1) (32) 152 (by decide) (by decide) d12_behindSum_105 rfl (fun _ => ?_) (fun c105 => absurd c105 (by decide))
  refine g_iload_n d12_behindSum_152 rfl ?_
  refine g_iconstv ((-1 : Int32)) d12_behindSum_153 rfl ?_
  refine g_ic_ne (-1) (-1) 163 (by decide) (by decide) d12_behindSum_154 rfl (fun c154 => absurd c154 (by decide)) (fun _ => ?_)
  refine g_iload_n d12_behindSum_157 rfl ?_
  refine g_iz_ne (1) 163 (by decide) d12_behindSum_158 rfl (fun _ => ?_) (fun c158 => absurd c158 (by decide))
  refine g_aload_n d12_behindSum_163 rfl ?_
  refine g_EV0 vm12_isCompared ml12_298 c_74 (r12_isCompared (I := I) (X ++ Y).length (by exact g8) (by rw [List.length_append]; omega) (PQ.pv g10) (Nat.le_refl 1)) (by omega) (Nat.le_of_ble_eq_true rfl) d12_behindSum_164 ?_
  refine g_bz 172 d12_behindSum_167 rfl (fun _ => ?_) (fun c167 => absurd c167 (by rw [hic, hcp]; decide))
  refine g_aload_n d12_behindSum_172 rfl ?_
  refine g_bipushv (nI 60) d12_behindSum_173 rfl ?_
  refine g_EV1 vm12_isSign ml12_265 c_74 (r12_isSign tp t f hS.1 hS.2.1 60 (by decide) (by decide) (Nat.le_refl 0)) (by omega) (Nat.le_of_ble_eq_true rfl) d12_behindSum_175 ?_
  refine g_bz 186 d12_behindSum_178 rfl (fun _ => ?_) (fun c178 => absurd c178 (by omega))
  refine g_aload_n d12_behindSum_186 rfl ?_
  refine g_bipushv (nI 62) d12_behindSum_187 rfl ?_
  refine g_EV1 vm12_isSign ml12_265 c_74 (r12_isSign tp t f hS.1 hS.2.1 62 (by decide) (by decide) (Nat.le_refl 0)) (by omega) (Nat.le_of_ble_eq_true rfl) d12_behindSum_189 ?_
  refine g_bz 200 d12_behindSum_192 rfl (fun _ => ?_) (fun c192 => absurd c192 (by omega))
  refine g_bipushv (nI 27) d12_behindSum_200 rfl ?_
  refine g_istore_n d12_behindSum_202 (by decide) ?_
  refine g_aload_n d12_behindSum_203 rfl ?_
  refine g_iload_n d12_behindSum_204 rfl ?_
  refine g_bipushv (nI 27) d12_behindSum_205 rfl ?_
  refine g_ic_ne (27) (27) 219 (by decide) (by decide) d12_behindSum_207 rfl (fun c207 => absurd c207 (by decide)) (fun _ => ?_)
  refine g_aload_n d12_behindSum_210 rfl ?_
  refine g_bipushv (nI 61) d12_behindSum_211 rfl ?_
  refine g_EV1 vm12_isSign ml12_265 c_74 (r12_isSign tp t f hS.1 hS.2.1 61 (by decide) (by decide) (Nat.le_refl 0)) (by omega) (Nat.le_of_ble_eq_true rfl) d12_behindSum_213 ?_
  refine g_bz 223 d12_behindSum_216 rfl (fun _ => ?_) (fun c216 => absurd c216 (by omega))
  refine g_iconstv (nI 0) d12_behindSum_223 rfl ?_
  refine g_VV1 vm12_must ml12_227 c_74 (r12_must_no tp t f hS.1 hS.2.1 hS.2.2.2.1 (Nat.le_refl 2)) (by omega) (Nat.le_of_ble_eq_true rfl) d12_behindSum_224 ?_
  refine g_aload_n d12_behindSum_227 rfl ?_
  refine g_get fl12_192 d12_behindSum_228 f_74_14 ?_
  refine g_topI ((1 : Int32)) (rfl) ?_
  refine g_iz_ne (1) 245 (by decide) d12_behindSum_231 rfl (fun _ => ?_) (fun c231 => absurd c231 (by decide))
  refine g_iconstv (nI 1) d12_behindSum_245 rfl ?_
  exact g_iret rfl d12_behindSum_246 (⟨(uI (uI I 74 14 1) 74 13 (nI f), L), ⟨rfl, rfl, (FR.rf.uf (by decide)).uf (by decide), (X ++ Y).length, b, g8, g6, (by rw [List.length_append]; omega), fun q hq => PQ.pv g10 q hq⟩, rfl, rfl⟩)
set_option maxHeartbeats 800000 in
theorem r12_bs_25b {l : Launch} {K : cK} {d : Nat} {I : wI} {L : wL} {R : wR} {dy : cH} (tp : Nat → Nat) (t : Nat) (lw : Bool) (X Y : List (Nat × Nat)) (a b pa br f : Nat) (v : Den) (hS : PSt I L tp t lw (X ++ Y) b pa br f) (k0 : Nat) (hB : b + X.length + Y.length + k0 ≤ f) (hadd : addO (sg tp t f) = 0) (hmul : mulO (sg tp t f) = 0) (hin : ibX (X ++ Y) = 31) (hcp : icX (X ++ Y) = false) (hsg : sg tp t f = 60) (hTB : TB X 5) (hBG : BG 5 Y) (hPD : PD (opF I) (agF I) Y a b v) (hd : 3 ≤ d) : CX l K m12_behindSum d [.ref 74, .int (nI 1)] (hp I L R dy) (α := wI × wL × Nat) (fun x => PSt x.1 x.2.1 tp t lw (X ++ [(25, 0)]) (x.2.2) pa br (nxt tp t f) ∧ FP I L x.1 x.2.1 ∧ SG (opF x.1) (agF x.1) a x.2.2 v ∧ x.2.2 + X.length + 1 + k0 ≤ nxt tp t f ∧ ∀ k, k < a → x.1 81 k = I 81 k ∧ x.1 82 k = I 82 k) (fun _ => .int (nI 1)) (fun x => hp x.1 x.2.1 R dy) := by
  obtain ⟨g1, g2, g3, g4, g5, g6, g7, g8, g9, g10⟩ := id hS
  have hnx := nxt_le (tp := tp) g2.1
  have ht4 := g1.1
  have hft := g2.1
  have hte := (tE_le (tp := tp) g2.1).1
  obtain ⟨hq1, hq2⟩ := (PQ.app X).1 g10
  rw [Nat.zero_add] at hq2
  have g8b : I 74 24 = nI (X.length + Y.length) := by rw [g8, List.length_append]
  obtain ⟨na1, na2⟩ := addO_0 hadd
  obtain ⟨na3, na4, na5⟩ := mulO_0 hmul
  obtain ⟨hib, hic⟩ := ib_X (X ++ Y).length (X ++ Y) rfl g10
  have hnx2 := hnx.2.2 (by rw [sg_kd hsg (by decide)]; decide)
  refine CC.of ok12_behindSum (Nat.le_of_ble_eq_true rfl) ?_
  refine g_aload_n d12_behindSum_0 rfl ?_
  refine g_bipushv (nI 43) d12_behindSum_1 rfl ?_
  refine g_EV1 vm12_isSign ml12_265 c_74 (r12_isSign tp t f hS.1 hS.2.1 43 (by decide) (by decide) (Nat.le_refl 0)) (by omega) (Nat.le_of_ble_eq_true rfl) d12_behindSum_3 ?_
  refine g_bz 14 d12_behindSum_6 rfl (fun _ => ?_) (fun c6 => absurd c6 (by omega))
  refine g_aload_n d12_behindSum_14 rfl ?_
  refine g_bipushv (nI 45) d12_behindSum_15 rfl ?_
  refine g_EV1 vm12_isSign ml12_265 c_74 (r12_isSign tp t f hS.1 hS.2.1 45 (by decide) (by decide) (Nat.le_refl 0)) (by omega) (Nat.le_of_ble_eq_true rfl) d12_behindSum_17 ?_
  refine g_bz 28 d12_behindSum_20 rfl (fun _ => ?_) (fun c20 => absurd c20 (by omega))
  refine g_aload_n d12_behindSum_28 rfl ?_
  refine g_bipushv (nI 42) d12_behindSum_29 rfl ?_
  refine g_EV1 vm12_isSign ml12_265 c_74 (r12_isSign tp t f hS.1 hS.2.1 42 (by decide) (by decide) (Nat.le_refl 0)) (by omega) (Nat.le_of_ble_eq_true rfl) d12_behindSum_31 ?_
  refine g_bz 42 d12_behindSum_34 rfl (fun _ => ?_) (fun c34 => absurd c34 (by omega))
  refine g_aload_n d12_behindSum_42 rfl ?_
  refine g_bipushv (nI 47) d12_behindSum_43 rfl ?_
  refine g_EV1 vm12_isSign ml12_265 c_74 (r12_isSign tp t f hS.1 hS.2.1 47 (by decide) (by decide) (Nat.le_refl 0)) (by omega) (Nat.le_of_ble_eq_true rfl) d12_behindSum_45 ?_
  refine g_bz 56 d12_behindSum_48 rfl (fun _ => ?_) (fun c48 => absurd c48 (by omega))
  refine g_aload_n d12_behindSum_56 rfl ?_
  refine g_bipushv (nI 37) d12_behindSum_57 rfl ?_
  refine g_EV1 vm12_isSign ml12_265 c_74 (r12_isSign tp t f hS.1 hS.2.1 37 (by decide) (by decide) (Nat.le_refl 0)) (by omega) (Nat.le_of_ble_eq_true rfl) d12_behindSum_59 ?_
  refine g_bz 70 d12_behindSum_62 rfl (fun _ => ?_) (fun c62 => absurd c62 (by omega))
  refine g_iconstv ((-1 : Int32)) d12_behindSum_70 rfl ?_
  refine g_istore_n d12_behindSum_71 (by decide) ?_
  refine g_iload_n d12_behindSum_72 rfl ?_
  refine g_iconstv ((-1 : Int32)) d12_behindSum_73 rfl ?_
  refine g_ic_eq (-1) (-1) 97 (by decide) (by decide) d12_behindSum_74 rfl (fun _ => ?_) (fun c74 => absurd c74 (by decide))
  refine g_aload_n d12_behindSum_97 rfl ?_
  refine g_EV0 vm12_inner ml12_295 c_74 (r12_inner (I := I) (X ++ Y).length (by exact g8) (by rw [List.length_append]; omega) (PQ.pv g10) (Nat.le_refl 0)) (by omega) (Nat.le_of_ble_eq_true rfl) d12_behindSum_98 ?_
  refine g_topI (nI 31) (by rw [hib, hin]; rfl) ?_
  refine g_istore_n d12_behindSum_101 (by decide) ?_
  refine g_iload_n d12_behindSum_102 rfl ?_
  refine g_bipushv (nI 32) d12_behindSum_103 rfl ?_
  refine g_ic_ne (31) (32) 152 (by decide) (by decide) d12_behindSum_105 rfl (fun _ => ?_) (fun c105 => absurd c105 (by decide))
  refine g_iload_n d12_behindSum_152 rfl ?_
  refine g_iconstv ((-1 : Int32)) d12_behindSum_153 rfl ?_
  refine g_ic_ne (31) (-1) 163 (by decide) (by decide) d12_behindSum_154 rfl (fun _ => ?_) (fun c154 => absurd c154 (by decide))
  refine g_aload_n d12_behindSum_163 rfl ?_
  refine g_EV0 vm12_isCompared ml12_298 c_74 (r12_isCompared (I := I) (X ++ Y).length (by exact g8) (by rw [List.length_append]; omega) (PQ.pv g10) (Nat.le_refl 1)) (by omega) (Nat.le_of_ble_eq_true rfl) d12_behindSum_164 ?_
  refine g_bz 172 d12_behindSum_167 rfl (fun _ => ?_) (fun c167 => absurd c167 (by rw [hic, hcp]; decide))
  refine g_aload_n d12_behindSum_172 rfl ?_
  refine g_bipushv (nI 60) d12_behindSum_173 rfl ?_
  refine g_EV1 vm12_isSign ml12_265 c_74 (r12_isSign tp t f hS.1 hS.2.1 60 (by decide) (by decide) (Nat.le_refl 0)) (by omega) (Nat.le_of_ble_eq_true rfl) d12_behindSum_175 ?_
  refine g_bz 186 d12_behindSum_178 rfl (fun c178 => absurd (hsg) c178) (fun _ => ?_)
  refine g_bipushv (nI 25) d12_behindSum_181 rfl ?_
  refine g_goto 202 d12_behindSum_183 rfl ?_
  refine g_istore_n d12_behindSum_202 (by decide) ?_
  refine g_aload_n d12_behindSum_203 rfl ?_
  refine g_iload_n d12_behindSum_204 rfl ?_
  refine g_bipushv (nI 27) d12_behindSum_205 rfl ?_
  refine g_ic_ne (25) (27) 219 (by decide) (by decide) d12_behindSum_207 rfl (fun _ => ?_) (fun c207 => absurd c207 (by decide))
  refine g_iconstv (nI 1) d12_behindSum_219 rfl ?_
  refine g_goto 224 d12_behindSum_220 rfl ?_
  refine g_WV1 vm12_must ml12_227 c_74 (r12_must_ok tp t f hS.1 hS.2.1 hS.2.2.2.1 (Nat.le_refl 2)) (by omega) (Nat.le_of_ble_eq_true rfl) d12_behindSum_224 (fun x hx => ?_)
  obtain ⟨I2, L2⟩ := x
  obtain ⟨hF, hK⟩ := hx
  dsimp only at hF hK ⊢
  have hS3 := hS.nx hF hK
  have e81 := hF.1 81 (by decide) (by decide)
  have e82 := hF.1 82 (by decide) (by decide)
  obtain ⟨w1, w2, w3, w4, w5, w6, w7, w8, w9, w10⟩ := id hS3
  obtain ⟨wq1, wq2⟩ := (PQ.app X).1 w10
  rw [Nat.zero_add] at wq2
  have w8b : I2 74 24 = nI (X.length + Y.length) := by rw [w8, List.length_append]
  have hPD2 : PD (opF I2) (agF I2) Y a b v := PD.cg Y (fun k _ _ => ⟨congrArg Int32.toNatClampNeg (congrFun e81 k), congrArg Int32.toNatClampNeg (congrFun e82 k)⟩) hPD
  refine g_aload_n d12_behindSum_227 rfl ?_
  refine g_get fl12_192 d12_behindSum_228 f_74_14 ?_
  refine g_topI ((0 : Int32)) (w4) ?_
  refine g_iz_ne (0) 245 (by decide) d12_behindSum_231 rfl (fun c231 => absurd c231 (by decide)) (fun _ => ?_)
  refine g_aload_n d12_behindSum_234 rfl ?_
  refine g_iconstv (nI 5) d12_behindSum_235 rfl ?_
  refine g_WV1 vm12_settle ml12_292 c_74 (r12_settle (I := I2) [] Y (X.length) a (5) b (by decide) v (hTB.bl wq1) (w8b) (w6) (by omega) (by exact hPD2) (PQ.pe Y wq2 (hBG.mono (by decide) Y)) (hBG) (Nat.le_refl 1)) (by omega) (Nat.le_of_ble_eq_true rfl) d12_behindSum_236 (fun y hy => ?_)
  have hS2 := hS3.st hy
  have hps := hS2.ps (o := 25) (j := 0) (by decide) (by decide) (by decide)
  have hfp := ST.fp (L := L2) hy
  obtain ⟨s1, s2, s3, s4, s5, s6, s7, s8, s9⟩ := hy
  refine g_aload_n d12_behindSum_239 rfl ?_
  refine g_iload_n d12_behindSum_240 rfl ?_
  refine g_iconstv (nI 0) d12_behindSum_241 rfl ?_
  refine g_VV2 vm12_push ml12_259 c_74 (r12_push (I := y.1) X.length s3 (by omega) (nI 25) (nI 0) (Nat.le_refl 0)) (by omega) (Nat.le_of_ble_eq_true rfl) d12_behindSum_242 ?_
  refine g_iconstv (nI 1) d12_behindSum_245 rfl ?_
  exact g_iret rfl d12_behindSum_246 (⟨(_, L2, y.2), ⟨hps, (((((hF.up (by decide) (by decide) (by decide) (by decide)).tr hfp).ui (by decide) (by decide)).ui (by decide) (by decide)).uf (by decide)), SG.cg s7 (fun k _ _ => ⟨rfl, rfl⟩), (by show y.2 + X.length + 1 + k0 ≤ nxt tp t f; omega), fun k hk => ⟨(s8 k hk).1.trans (congrFun e81 k), (s8 k hk).2.trans (congrFun e82 k)⟩⟩, rfl, rfl⟩)
set_option maxHeartbeats 800000 in
theorem r12_bs_26b {l : Launch} {K : cK} {d : Nat} {I : wI} {L : wL} {R : wR} {dy : cH} (tp : Nat → Nat) (t : Nat) (lw : Bool) (X Y : List (Nat × Nat)) (a b pa br f : Nat) (v : Den) (hS : PSt I L tp t lw (X ++ Y) b pa br f) (k0 : Nat) (hB : b + X.length + Y.length + k0 ≤ f) (hadd : addO (sg tp t f) = 0) (hmul : mulO (sg tp t f) = 0) (hin : ibX (X ++ Y) = 31) (hcp : icX (X ++ Y) = false) (hsg : sg tp t f = 62) (hTB : TB X 5) (hBG : BG 5 Y) (hPD : PD (opF I) (agF I) Y a b v) (hd : 3 ≤ d) : CX l K m12_behindSum d [.ref 74, .int (nI 1)] (hp I L R dy) (α := wI × wL × Nat) (fun x => PSt x.1 x.2.1 tp t lw (X ++ [(26, 0)]) (x.2.2) pa br (nxt tp t f) ∧ FP I L x.1 x.2.1 ∧ SG (opF x.1) (agF x.1) a x.2.2 v ∧ x.2.2 + X.length + 1 + k0 ≤ nxt tp t f ∧ ∀ k, k < a → x.1 81 k = I 81 k ∧ x.1 82 k = I 82 k) (fun _ => .int (nI 1)) (fun x => hp x.1 x.2.1 R dy) := by
  obtain ⟨g1, g2, g3, g4, g5, g6, g7, g8, g9, g10⟩ := id hS
  have hnx := nxt_le (tp := tp) g2.1
  have ht4 := g1.1
  have hft := g2.1
  have hte := (tE_le (tp := tp) g2.1).1
  obtain ⟨hq1, hq2⟩ := (PQ.app X).1 g10
  rw [Nat.zero_add] at hq2
  have g8b : I 74 24 = nI (X.length + Y.length) := by rw [g8, List.length_append]
  obtain ⟨na1, na2⟩ := addO_0 hadd
  obtain ⟨na3, na4, na5⟩ := mulO_0 hmul
  obtain ⟨hib, hic⟩ := ib_X (X ++ Y).length (X ++ Y) rfl g10
  have hnx2 := hnx.2.2 (by rw [sg_kd hsg (by decide)]; decide)
  refine CC.of ok12_behindSum (Nat.le_of_ble_eq_true rfl) ?_
  refine g_aload_n d12_behindSum_0 rfl ?_
  refine g_bipushv (nI 43) d12_behindSum_1 rfl ?_
  refine g_EV1 vm12_isSign ml12_265 c_74 (r12_isSign tp t f hS.1 hS.2.1 43 (by decide) (by decide) (Nat.le_refl 0)) (by omega) (Nat.le_of_ble_eq_true rfl) d12_behindSum_3 ?_
  refine g_bz 14 d12_behindSum_6 rfl (fun _ => ?_) (fun c6 => absurd c6 (by omega))
  refine g_aload_n d12_behindSum_14 rfl ?_
  refine g_bipushv (nI 45) d12_behindSum_15 rfl ?_
  refine g_EV1 vm12_isSign ml12_265 c_74 (r12_isSign tp t f hS.1 hS.2.1 45 (by decide) (by decide) (Nat.le_refl 0)) (by omega) (Nat.le_of_ble_eq_true rfl) d12_behindSum_17 ?_
  refine g_bz 28 d12_behindSum_20 rfl (fun _ => ?_) (fun c20 => absurd c20 (by omega))
  refine g_aload_n d12_behindSum_28 rfl ?_
  refine g_bipushv (nI 42) d12_behindSum_29 rfl ?_
  refine g_EV1 vm12_isSign ml12_265 c_74 (r12_isSign tp t f hS.1 hS.2.1 42 (by decide) (by decide) (Nat.le_refl 0)) (by omega) (Nat.le_of_ble_eq_true rfl) d12_behindSum_31 ?_
  refine g_bz 42 d12_behindSum_34 rfl (fun _ => ?_) (fun c34 => absurd c34 (by omega))
  refine g_aload_n d12_behindSum_42 rfl ?_
  refine g_bipushv (nI 47) d12_behindSum_43 rfl ?_
  refine g_EV1 vm12_isSign ml12_265 c_74 (r12_isSign tp t f hS.1 hS.2.1 47 (by decide) (by decide) (Nat.le_refl 0)) (by omega) (Nat.le_of_ble_eq_true rfl) d12_behindSum_45 ?_
  refine g_bz 56 d12_behindSum_48 rfl (fun _ => ?_) (fun c48 => absurd c48 (by omega))
  refine g_aload_n d12_behindSum_56 rfl ?_
  refine g_bipushv (nI 37) d12_behindSum_57 rfl ?_
  refine g_EV1 vm12_isSign ml12_265 c_74 (r12_isSign tp t f hS.1 hS.2.1 37 (by decide) (by decide) (Nat.le_refl 0)) (by omega) (Nat.le_of_ble_eq_true rfl) d12_behindSum_59 ?_
  refine g_bz 70 d12_behindSum_62 rfl (fun _ => ?_) (fun c62 => absurd c62 (by omega))
  refine g_iconstv ((-1 : Int32)) d12_behindSum_70 rfl ?_
  refine g_istore_n d12_behindSum_71 (by decide) ?_
  refine g_iload_n d12_behindSum_72 rfl ?_
  refine g_iconstv ((-1 : Int32)) d12_behindSum_73 rfl ?_
  refine g_ic_eq (-1) (-1) 97 (by decide) (by decide) d12_behindSum_74 rfl (fun _ => ?_) (fun c74 => absurd c74 (by decide))
  refine g_aload_n d12_behindSum_97 rfl ?_
  refine g_EV0 vm12_inner ml12_295 c_74 (r12_inner (I := I) (X ++ Y).length (by exact g8) (by rw [List.length_append]; omega) (PQ.pv g10) (Nat.le_refl 0)) (by omega) (Nat.le_of_ble_eq_true rfl) d12_behindSum_98 ?_
  refine g_topI (nI 31) (by rw [hib, hin]; rfl) ?_
  refine g_istore_n d12_behindSum_101 (by decide) ?_
  refine g_iload_n d12_behindSum_102 rfl ?_
  refine g_bipushv (nI 32) d12_behindSum_103 rfl ?_
  refine g_ic_ne (31) (32) 152 (by decide) (by decide) d12_behindSum_105 rfl (fun _ => ?_) (fun c105 => absurd c105 (by decide))
  refine g_iload_n d12_behindSum_152 rfl ?_
  refine g_iconstv ((-1 : Int32)) d12_behindSum_153 rfl ?_
  refine g_ic_ne (31) (-1) 163 (by decide) (by decide) d12_behindSum_154 rfl (fun _ => ?_) (fun c154 => absurd c154 (by decide))
  refine g_aload_n d12_behindSum_163 rfl ?_
  refine g_EV0 vm12_isCompared ml12_298 c_74 (r12_isCompared (I := I) (X ++ Y).length (by exact g8) (by rw [List.length_append]; omega) (PQ.pv g10) (Nat.le_refl 1)) (by omega) (Nat.le_of_ble_eq_true rfl) d12_behindSum_164 ?_
  refine g_bz 172 d12_behindSum_167 rfl (fun _ => ?_) (fun c167 => absurd c167 (by rw [hic, hcp]; decide))
  refine g_aload_n d12_behindSum_172 rfl ?_
  refine g_bipushv (nI 60) d12_behindSum_173 rfl ?_
  refine g_EV1 vm12_isSign ml12_265 c_74 (r12_isSign tp t f hS.1 hS.2.1 60 (by decide) (by decide) (Nat.le_refl 0)) (by omega) (Nat.le_of_ble_eq_true rfl) d12_behindSum_175 ?_
  refine g_bz 186 d12_behindSum_178 rfl (fun _ => ?_) (fun c178 => absurd c178 (by omega))
  refine g_aload_n d12_behindSum_186 rfl ?_
  refine g_bipushv (nI 62) d12_behindSum_187 rfl ?_
  refine g_EV1 vm12_isSign ml12_265 c_74 (r12_isSign tp t f hS.1 hS.2.1 62 (by decide) (by decide) (Nat.le_refl 0)) (by omega) (Nat.le_of_ble_eq_true rfl) d12_behindSum_189 ?_
  refine g_bz 200 d12_behindSum_192 rfl (fun c192 => absurd (hsg) c192) (fun _ => ?_)
  refine g_bipushv (nI 26) d12_behindSum_195 rfl ?_
  refine g_goto 202 d12_behindSum_197 rfl ?_
  refine g_istore_n d12_behindSum_202 (by decide) ?_
  refine g_aload_n d12_behindSum_203 rfl ?_
  refine g_iload_n d12_behindSum_204 rfl ?_
  refine g_bipushv (nI 27) d12_behindSum_205 rfl ?_
  refine g_ic_ne (26) (27) 219 (by decide) (by decide) d12_behindSum_207 rfl (fun _ => ?_) (fun c207 => absurd c207 (by decide))
  refine g_iconstv (nI 1) d12_behindSum_219 rfl ?_
  refine g_goto 224 d12_behindSum_220 rfl ?_
  refine g_WV1 vm12_must ml12_227 c_74 (r12_must_ok tp t f hS.1 hS.2.1 hS.2.2.2.1 (Nat.le_refl 2)) (by omega) (Nat.le_of_ble_eq_true rfl) d12_behindSum_224 (fun x hx => ?_)
  obtain ⟨I2, L2⟩ := x
  obtain ⟨hF, hK⟩ := hx
  dsimp only at hF hK ⊢
  have hS3 := hS.nx hF hK
  have e81 := hF.1 81 (by decide) (by decide)
  have e82 := hF.1 82 (by decide) (by decide)
  obtain ⟨w1, w2, w3, w4, w5, w6, w7, w8, w9, w10⟩ := id hS3
  obtain ⟨wq1, wq2⟩ := (PQ.app X).1 w10
  rw [Nat.zero_add] at wq2
  have w8b : I2 74 24 = nI (X.length + Y.length) := by rw [w8, List.length_append]
  have hPD2 : PD (opF I2) (agF I2) Y a b v := PD.cg Y (fun k _ _ => ⟨congrArg Int32.toNatClampNeg (congrFun e81 k), congrArg Int32.toNatClampNeg (congrFun e82 k)⟩) hPD
  refine g_aload_n d12_behindSum_227 rfl ?_
  refine g_get fl12_192 d12_behindSum_228 f_74_14 ?_
  refine g_topI ((0 : Int32)) (w4) ?_
  refine g_iz_ne (0) 245 (by decide) d12_behindSum_231 rfl (fun c231 => absurd c231 (by decide)) (fun _ => ?_)
  refine g_aload_n d12_behindSum_234 rfl ?_
  refine g_iconstv (nI 5) d12_behindSum_235 rfl ?_
  refine g_WV1 vm12_settle ml12_292 c_74 (r12_settle (I := I2) [] Y (X.length) a (5) b (by decide) v (hTB.bl wq1) (w8b) (w6) (by omega) (by exact hPD2) (PQ.pe Y wq2 (hBG.mono (by decide) Y)) (hBG) (Nat.le_refl 1)) (by omega) (Nat.le_of_ble_eq_true rfl) d12_behindSum_236 (fun y hy => ?_)
  have hS2 := hS3.st hy
  have hps := hS2.ps (o := 26) (j := 0) (by decide) (by decide) (by decide)
  have hfp := ST.fp (L := L2) hy
  obtain ⟨s1, s2, s3, s4, s5, s6, s7, s8, s9⟩ := hy
  refine g_aload_n d12_behindSum_239 rfl ?_
  refine g_iload_n d12_behindSum_240 rfl ?_
  refine g_iconstv (nI 0) d12_behindSum_241 rfl ?_
  refine g_VV2 vm12_push ml12_259 c_74 (r12_push (I := y.1) X.length s3 (by omega) (nI 26) (nI 0) (Nat.le_refl 0)) (by omega) (Nat.le_of_ble_eq_true rfl) d12_behindSum_242 ?_
  refine g_iconstv (nI 1) d12_behindSum_245 rfl ?_
  exact g_iret rfl d12_behindSum_246 (⟨(_, L2, y.2), ⟨hps, (((((hF.up (by decide) (by decide) (by decide) (by decide)).tr hfp).ui (by decide) (by decide)).ui (by decide) (by decide)).uf (by decide)), SG.cg s7 (fun k _ _ => ⟨rfl, rfl⟩), (by show y.2 + X.length + 1 + k0 ≤ nxt tp t f; omega), fun k hk => ⟨(s8 k hk).1.trans (congrFun e81 k), (s8 k hk).2.trans (congrFun e82 k)⟩⟩, rfl, rfl⟩)
set_option maxHeartbeats 800000 in
theorem r12_bs_27b {l : Launch} {K : cK} {d : Nat} {I : wI} {L : wL} {R : wR} {dy : cH} (tp : Nat → Nat) (t : Nat) (lw : Bool) (X Y : List (Nat × Nat)) (a b pa br f : Nat) (v : Den) (hS : PSt I L tp t lw (X ++ Y) b pa br f) (k0 : Nat) (hB : b + X.length + Y.length + k0 ≤ f) (hadd : addO (sg tp t f) = 0) (hmul : mulO (sg tp t f) = 0) (hin : ibX (X ++ Y) = 31) (hcp : icX (X ++ Y) = false) (hsg : sg tp t f = 61) (hTB : TB X 5) (hBG : BG 5 Y) (hPD : PD (opF I) (agF I) Y a b v) (hd : 3 ≤ d) : CX l K m12_behindSum d [.ref 74, .int (nI 1)] (hp I L R dy) (α := wI × wL × Nat) (fun x => PSt x.1 x.2.1 tp t lw (X ++ [(27, 0)]) (x.2.2) pa br (nxt tp t f) ∧ FP I L x.1 x.2.1 ∧ SG (opF x.1) (agF x.1) a x.2.2 v ∧ x.2.2 + X.length + 1 + k0 ≤ nxt tp t f ∧ ∀ k, k < a → x.1 81 k = I 81 k ∧ x.1 82 k = I 82 k) (fun _ => .int (nI 1)) (fun x => hp x.1 x.2.1 R dy) := by
  obtain ⟨g1, g2, g3, g4, g5, g6, g7, g8, g9, g10⟩ := id hS
  have hnx := nxt_le (tp := tp) g2.1
  have ht4 := g1.1
  have hft := g2.1
  have hte := (tE_le (tp := tp) g2.1).1
  obtain ⟨hq1, hq2⟩ := (PQ.app X).1 g10
  rw [Nat.zero_add] at hq2
  have g8b : I 74 24 = nI (X.length + Y.length) := by rw [g8, List.length_append]
  obtain ⟨na1, na2⟩ := addO_0 hadd
  obtain ⟨na3, na4, na5⟩ := mulO_0 hmul
  obtain ⟨hib, hic⟩ := ib_X (X ++ Y).length (X ++ Y) rfl g10
  have hnx2 := hnx.2.2 (by rw [sg_kd hsg (by decide)]; decide)
  refine CC.of ok12_behindSum (Nat.le_of_ble_eq_true rfl) ?_
  refine g_aload_n d12_behindSum_0 rfl ?_
  refine g_bipushv (nI 43) d12_behindSum_1 rfl ?_
  refine g_EV1 vm12_isSign ml12_265 c_74 (r12_isSign tp t f hS.1 hS.2.1 43 (by decide) (by decide) (Nat.le_refl 0)) (by omega) (Nat.le_of_ble_eq_true rfl) d12_behindSum_3 ?_
  refine g_bz 14 d12_behindSum_6 rfl (fun _ => ?_) (fun c6 => absurd c6 (by omega))
  refine g_aload_n d12_behindSum_14 rfl ?_
  refine g_bipushv (nI 45) d12_behindSum_15 rfl ?_
  refine g_EV1 vm12_isSign ml12_265 c_74 (r12_isSign tp t f hS.1 hS.2.1 45 (by decide) (by decide) (Nat.le_refl 0)) (by omega) (Nat.le_of_ble_eq_true rfl) d12_behindSum_17 ?_
  refine g_bz 28 d12_behindSum_20 rfl (fun _ => ?_) (fun c20 => absurd c20 (by omega))
  refine g_aload_n d12_behindSum_28 rfl ?_
  refine g_bipushv (nI 42) d12_behindSum_29 rfl ?_
  refine g_EV1 vm12_isSign ml12_265 c_74 (r12_isSign tp t f hS.1 hS.2.1 42 (by decide) (by decide) (Nat.le_refl 0)) (by omega) (Nat.le_of_ble_eq_true rfl) d12_behindSum_31 ?_
  refine g_bz 42 d12_behindSum_34 rfl (fun _ => ?_) (fun c34 => absurd c34 (by omega))
  refine g_aload_n d12_behindSum_42 rfl ?_
  refine g_bipushv (nI 47) d12_behindSum_43 rfl ?_
  refine g_EV1 vm12_isSign ml12_265 c_74 (r12_isSign tp t f hS.1 hS.2.1 47 (by decide) (by decide) (Nat.le_refl 0)) (by omega) (Nat.le_of_ble_eq_true rfl) d12_behindSum_45 ?_
  refine g_bz 56 d12_behindSum_48 rfl (fun _ => ?_) (fun c48 => absurd c48 (by omega))
  refine g_aload_n d12_behindSum_56 rfl ?_
  refine g_bipushv (nI 37) d12_behindSum_57 rfl ?_
  refine g_EV1 vm12_isSign ml12_265 c_74 (r12_isSign tp t f hS.1 hS.2.1 37 (by decide) (by decide) (Nat.le_refl 0)) (by omega) (Nat.le_of_ble_eq_true rfl) d12_behindSum_59 ?_
  refine g_bz 70 d12_behindSum_62 rfl (fun _ => ?_) (fun c62 => absurd c62 (by omega))
  refine g_iconstv ((-1 : Int32)) d12_behindSum_70 rfl ?_
  refine g_istore_n d12_behindSum_71 (by decide) ?_
  refine g_iload_n d12_behindSum_72 rfl ?_
  refine g_iconstv ((-1 : Int32)) d12_behindSum_73 rfl ?_
  refine g_ic_eq (-1) (-1) 97 (by decide) (by decide) d12_behindSum_74 rfl (fun _ => ?_) (fun c74 => absurd c74 (by decide))
  refine g_aload_n d12_behindSum_97 rfl ?_
  refine g_EV0 vm12_inner ml12_295 c_74 (r12_inner (I := I) (X ++ Y).length (by exact g8) (by rw [List.length_append]; omega) (PQ.pv g10) (Nat.le_refl 0)) (by omega) (Nat.le_of_ble_eq_true rfl) d12_behindSum_98 ?_
  refine g_topI (nI 31) (by rw [hib, hin]; rfl) ?_
  refine g_istore_n d12_behindSum_101 (by decide) ?_
  refine g_iload_n d12_behindSum_102 rfl ?_
  refine g_bipushv (nI 32) d12_behindSum_103 rfl ?_
  refine g_ic_ne (31) (32) 152 (by decide) (by decide) d12_behindSum_105 rfl (fun _ => ?_) (fun c105 => absurd c105 (by decide))
  refine g_iload_n d12_behindSum_152 rfl ?_
  refine g_iconstv ((-1 : Int32)) d12_behindSum_153 rfl ?_
  refine g_ic_ne (31) (-1) 163 (by decide) (by decide) d12_behindSum_154 rfl (fun _ => ?_) (fun c154 => absurd c154 (by decide))
  refine g_aload_n d12_behindSum_163 rfl ?_
  refine g_EV0 vm12_isCompared ml12_298 c_74 (r12_isCompared (I := I) (X ++ Y).length (by exact g8) (by rw [List.length_append]; omega) (PQ.pv g10) (Nat.le_refl 1)) (by omega) (Nat.le_of_ble_eq_true rfl) d12_behindSum_164 ?_
  refine g_bz 172 d12_behindSum_167 rfl (fun _ => ?_) (fun c167 => absurd c167 (by rw [hic, hcp]; decide))
  refine g_aload_n d12_behindSum_172 rfl ?_
  refine g_bipushv (nI 60) d12_behindSum_173 rfl ?_
  refine g_EV1 vm12_isSign ml12_265 c_74 (r12_isSign tp t f hS.1 hS.2.1 60 (by decide) (by decide) (Nat.le_refl 0)) (by omega) (Nat.le_of_ble_eq_true rfl) d12_behindSum_175 ?_
  refine g_bz 186 d12_behindSum_178 rfl (fun _ => ?_) (fun c178 => absurd c178 (by omega))
  refine g_aload_n d12_behindSum_186 rfl ?_
  refine g_bipushv (nI 62) d12_behindSum_187 rfl ?_
  refine g_EV1 vm12_isSign ml12_265 c_74 (r12_isSign tp t f hS.1 hS.2.1 62 (by decide) (by decide) (Nat.le_refl 0)) (by omega) (Nat.le_of_ble_eq_true rfl) d12_behindSum_189 ?_
  refine g_bz 200 d12_behindSum_192 rfl (fun _ => ?_) (fun c192 => absurd c192 (by omega))
  refine g_bipushv (nI 27) d12_behindSum_200 rfl ?_
  refine g_istore_n d12_behindSum_202 (by decide) ?_
  refine g_aload_n d12_behindSum_203 rfl ?_
  refine g_iload_n d12_behindSum_204 rfl ?_
  refine g_bipushv (nI 27) d12_behindSum_205 rfl ?_
  refine g_ic_ne (27) (27) 219 (by decide) (by decide) d12_behindSum_207 rfl (fun c207 => absurd c207 (by decide)) (fun _ => ?_)
  refine g_aload_n d12_behindSum_210 rfl ?_
  refine g_bipushv (nI 61) d12_behindSum_211 rfl ?_
  refine g_EV1 vm12_isSign ml12_265 c_74 (r12_isSign tp t f hS.1 hS.2.1 61 (by decide) (by decide) (Nat.le_refl 0)) (by omega) (Nat.le_of_ble_eq_true rfl) d12_behindSum_213 ?_
  refine g_bz 223 d12_behindSum_216 rfl (fun c216 => absurd (hsg) c216) (fun _ => ?_)
  refine g_iconstv (nI 1) d12_behindSum_219 rfl ?_
  refine g_goto 224 d12_behindSum_220 rfl ?_
  refine g_WV1 vm12_must ml12_227 c_74 (r12_must_ok tp t f hS.1 hS.2.1 hS.2.2.2.1 (Nat.le_refl 2)) (by omega) (Nat.le_of_ble_eq_true rfl) d12_behindSum_224 (fun x hx => ?_)
  obtain ⟨I2, L2⟩ := x
  obtain ⟨hF, hK⟩ := hx
  dsimp only at hF hK ⊢
  have hS3 := hS.nx hF hK
  have e81 := hF.1 81 (by decide) (by decide)
  have e82 := hF.1 82 (by decide) (by decide)
  obtain ⟨w1, w2, w3, w4, w5, w6, w7, w8, w9, w10⟩ := id hS3
  obtain ⟨wq1, wq2⟩ := (PQ.app X).1 w10
  rw [Nat.zero_add] at wq2
  have w8b : I2 74 24 = nI (X.length + Y.length) := by rw [w8, List.length_append]
  have hPD2 : PD (opF I2) (agF I2) Y a b v := PD.cg Y (fun k _ _ => ⟨congrArg Int32.toNatClampNeg (congrFun e81 k), congrArg Int32.toNatClampNeg (congrFun e82 k)⟩) hPD
  refine g_aload_n d12_behindSum_227 rfl ?_
  refine g_get fl12_192 d12_behindSum_228 f_74_14 ?_
  refine g_topI ((0 : Int32)) (w4) ?_
  refine g_iz_ne (0) 245 (by decide) d12_behindSum_231 rfl (fun c231 => absurd c231 (by decide)) (fun _ => ?_)
  refine g_aload_n d12_behindSum_234 rfl ?_
  refine g_iconstv (nI 5) d12_behindSum_235 rfl ?_
  refine g_WV1 vm12_settle ml12_292 c_74 (r12_settle (I := I2) [] Y (X.length) a (5) b (by decide) v (hTB.bl wq1) (w8b) (w6) (by omega) (by exact hPD2) (PQ.pe Y wq2 (hBG.mono (by decide) Y)) (hBG) (Nat.le_refl 1)) (by omega) (Nat.le_of_ble_eq_true rfl) d12_behindSum_236 (fun y hy => ?_)
  have hS2 := hS3.st hy
  have hps := hS2.ps (o := 27) (j := 0) (by decide) (by decide) (by decide)
  have hfp := ST.fp (L := L2) hy
  obtain ⟨s1, s2, s3, s4, s5, s6, s7, s8, s9⟩ := hy
  refine g_aload_n d12_behindSum_239 rfl ?_
  refine g_iload_n d12_behindSum_240 rfl ?_
  refine g_iconstv (nI 0) d12_behindSum_241 rfl ?_
  refine g_VV2 vm12_push ml12_259 c_74 (r12_push (I := y.1) X.length s3 (by omega) (nI 27) (nI 0) (Nat.le_refl 0)) (by omega) (Nat.le_of_ble_eq_true rfl) d12_behindSum_242 ?_
  refine g_iconstv (nI 1) d12_behindSum_245 rfl ?_
  exact g_iret rfl d12_behindSum_246 (⟨(_, L2, y.2), ⟨hps, (((((hF.up (by decide) (by decide) (by decide) (by decide)).tr hfp).ui (by decide) (by decide)).ui (by decide) (by decide)).uf (by decide)), SG.cg s7 (fun k _ _ => ⟨rfl, rfl⟩), (by show y.2 + X.length + 1 + k0 ≤ nxt tp t f; omega), fun k hk => ⟨(s8 k hk).1.trans (congrFun e81 k), (s8 k hk).2.trans (congrFun e82 k)⟩⟩, rfl, rfl⟩)
set_option maxHeartbeats 200000 in
theorem r12_bs_nb {l : Launch} {K : cK} {d : Nat} {I : wI} {L : wL} {R : wR} {dy : cH} (tp : Nat → Nat) (t : Nat) (lw : Bool) (X Y : List (Nat × Nat)) (a b pa br f : Nat) (v : Den) (hS : PSt I L tp t lw (X ++ Y) b pa br f) (k0 : Nat) (hB : b + X.length + Y.length + k0 ≤ f) (hadd : addO (sg tp t f) = 0) (hmul : mulO (sg tp t f) = 0) (hin : ibX (X ++ Y) = 31) (hcp : icX (X ++ Y) = false) (hcm : cmpO (sg tp t f) = 0) (hd : 3 ≤ d) : CX l K m12_behindSum d [.ref 74, .int (nI 1)] (hp I L R dy) (α := wI × wL) (BSt I L f) (fun _ => .int (nI 1)) (fun x => hp x.1 x.2 R dy) := by
  obtain ⟨g1, g2, g3, g4, g5, g6, g7, g8, g9, g10⟩ := id hS
  have hnx := nxt_le (tp := tp) g2.1
  have ht4 := g1.1
  have hft := g2.1
  have hte := (tE_le (tp := tp) g2.1).1
  obtain ⟨hq1, hq2⟩ := (PQ.app X).1 g10
  rw [Nat.zero_add] at hq2
  have g8b : I 74 24 = nI (X.length + Y.length) := by rw [g8, List.length_append]
  obtain ⟨na1, na2⟩ := addO_0 hadd
  obtain ⟨na3, na4, na5⟩ := mulO_0 hmul
  obtain ⟨hib, hic⟩ := ib_X (X ++ Y).length (X ++ Y) rfl g10
  obtain ⟨nc1, nc2, nc3⟩ := cmpO_0 hcm
  refine CC.of ok12_behindSum (Nat.le_of_ble_eq_true rfl) ?_
  refine g_aload_n d12_behindSum_0 rfl ?_
  refine g_bipushv (nI 43) d12_behindSum_1 rfl ?_
  refine g_EV1 vm12_isSign ml12_265 c_74 (r12_isSign tp t f hS.1 hS.2.1 43 (by decide) (by decide) (Nat.le_refl 0)) (by omega) (Nat.le_of_ble_eq_true rfl) d12_behindSum_3 ?_
  refine g_bz 14 d12_behindSum_6 rfl (fun _ => ?_) (fun c6 => absurd c6 (by omega))
  refine g_aload_n d12_behindSum_14 rfl ?_
  refine g_bipushv (nI 45) d12_behindSum_15 rfl ?_
  refine g_EV1 vm12_isSign ml12_265 c_74 (r12_isSign tp t f hS.1 hS.2.1 45 (by decide) (by decide) (Nat.le_refl 0)) (by omega) (Nat.le_of_ble_eq_true rfl) d12_behindSum_17 ?_
  refine g_bz 28 d12_behindSum_20 rfl (fun _ => ?_) (fun c20 => absurd c20 (by omega))
  refine g_aload_n d12_behindSum_28 rfl ?_
  refine g_bipushv (nI 42) d12_behindSum_29 rfl ?_
  refine g_EV1 vm12_isSign ml12_265 c_74 (r12_isSign tp t f hS.1 hS.2.1 42 (by decide) (by decide) (Nat.le_refl 0)) (by omega) (Nat.le_of_ble_eq_true rfl) d12_behindSum_31 ?_
  refine g_bz 42 d12_behindSum_34 rfl (fun _ => ?_) (fun c34 => absurd c34 (by omega))
  refine g_aload_n d12_behindSum_42 rfl ?_
  refine g_bipushv (nI 47) d12_behindSum_43 rfl ?_
  refine g_EV1 vm12_isSign ml12_265 c_74 (r12_isSign tp t f hS.1 hS.2.1 47 (by decide) (by decide) (Nat.le_refl 0)) (by omega) (Nat.le_of_ble_eq_true rfl) d12_behindSum_45 ?_
  refine g_bz 56 d12_behindSum_48 rfl (fun _ => ?_) (fun c48 => absurd c48 (by omega))
  refine g_aload_n d12_behindSum_56 rfl ?_
  refine g_bipushv (nI 37) d12_behindSum_57 rfl ?_
  refine g_EV1 vm12_isSign ml12_265 c_74 (r12_isSign tp t f hS.1 hS.2.1 37 (by decide) (by decide) (Nat.le_refl 0)) (by omega) (Nat.le_of_ble_eq_true rfl) d12_behindSum_59 ?_
  refine g_bz 70 d12_behindSum_62 rfl (fun _ => ?_) (fun c62 => absurd c62 (by omega))
  refine g_iconstv ((-1 : Int32)) d12_behindSum_70 rfl ?_
  refine g_istore_n d12_behindSum_71 (by decide) ?_
  refine g_iload_n d12_behindSum_72 rfl ?_
  refine g_iconstv ((-1 : Int32)) d12_behindSum_73 rfl ?_
  refine g_ic_eq (-1) (-1) 97 (by decide) (by decide) d12_behindSum_74 rfl (fun _ => ?_) (fun c74 => absurd c74 (by decide))
  refine g_aload_n d12_behindSum_97 rfl ?_
  refine g_EV0 vm12_inner ml12_295 c_74 (r12_inner (I := I) (X ++ Y).length (by exact g8) (by rw [List.length_append]; omega) (PQ.pv g10) (Nat.le_refl 0)) (by omega) (Nat.le_of_ble_eq_true rfl) d12_behindSum_98 ?_
  refine g_topI (nI 31) (by rw [hib, hin]; rfl) ?_
  refine g_istore_n d12_behindSum_101 (by decide) ?_
  refine g_iload_n d12_behindSum_102 rfl ?_
  refine g_bipushv (nI 32) d12_behindSum_103 rfl ?_
  refine g_ic_ne (31) (32) 152 (by decide) (by decide) d12_behindSum_105 rfl (fun _ => ?_) (fun c105 => absurd c105 (by decide))
  refine g_iload_n d12_behindSum_152 rfl ?_
  refine g_iconstv ((-1 : Int32)) d12_behindSum_153 rfl ?_
  refine g_ic_ne (31) (-1) 163 (by decide) (by decide) d12_behindSum_154 rfl (fun _ => ?_) (fun c154 => absurd c154 (by decide))
  refine g_aload_n d12_behindSum_163 rfl ?_
  refine g_EV0 vm12_isCompared ml12_298 c_74 (r12_isCompared (I := I) (X ++ Y).length (by exact g8) (by rw [List.length_append]; omega) (PQ.pv g10) (Nat.le_refl 1)) (by omega) (Nat.le_of_ble_eq_true rfl) d12_behindSum_164 ?_
  refine g_bz 172 d12_behindSum_167 rfl (fun _ => ?_) (fun c167 => absurd c167 (by rw [hic, hcp]; decide))
  refine g_aload_n d12_behindSum_172 rfl ?_
  refine g_bipushv (nI 60) d12_behindSum_173 rfl ?_
  refine g_EV1 vm12_isSign ml12_265 c_74 (r12_isSign tp t f hS.1 hS.2.1 60 (by decide) (by decide) (Nat.le_refl 0)) (by omega) (Nat.le_of_ble_eq_true rfl) d12_behindSum_175 ?_
  refine g_bz 186 d12_behindSum_178 rfl (fun _ => ?_) (fun c178 => absurd c178 (by omega))
  refine g_aload_n d12_behindSum_186 rfl ?_
  refine g_bipushv (nI 62) d12_behindSum_187 rfl ?_
  refine g_EV1 vm12_isSign ml12_265 c_74 (r12_isSign tp t f hS.1 hS.2.1 62 (by decide) (by decide) (Nat.le_refl 0)) (by omega) (Nat.le_of_ble_eq_true rfl) d12_behindSum_189 ?_
  refine g_bz 200 d12_behindSum_192 rfl (fun _ => ?_) (fun c192 => absurd c192 (by omega))
  refine g_bipushv (nI 27) d12_behindSum_200 rfl ?_
  refine g_istore_n d12_behindSum_202 (by decide) ?_
  refine g_aload_n d12_behindSum_203 rfl ?_
  refine g_iload_n d12_behindSum_204 rfl ?_
  refine g_bipushv (nI 27) d12_behindSum_205 rfl ?_
  refine g_ic_ne (27) (27) 219 (by decide) (by decide) d12_behindSum_207 rfl (fun c207 => absurd c207 (by decide)) (fun _ => ?_)
  refine g_aload_n d12_behindSum_210 rfl ?_
  refine g_bipushv (nI 61) d12_behindSum_211 rfl ?_
  refine g_EV1 vm12_isSign ml12_265 c_74 (r12_isSign tp t f hS.1 hS.2.1 61 (by decide) (by decide) (Nat.le_refl 0)) (by omega) (Nat.le_of_ble_eq_true rfl) d12_behindSum_213 ?_
  refine g_bz 223 d12_behindSum_216 rfl (fun _ => ?_) (fun c216 => absurd c216 (by omega))
  refine g_iconstv (nI 0) d12_behindSum_223 rfl ?_
  refine g_VV1 vm12_must ml12_227 c_74 (r12_must_no tp t f hS.1 hS.2.1 hS.2.2.2.1 (Nat.le_refl 2)) (by omega) (Nat.le_of_ble_eq_true rfl) d12_behindSum_224 ?_
  refine g_aload_n d12_behindSum_227 rfl ?_
  refine g_get fl12_192 d12_behindSum_228 f_74_14 ?_
  refine g_topI ((1 : Int32)) (rfl) ?_
  refine g_iz_ne (1) 245 (by decide) d12_behindSum_231 rfl (fun _ => ?_) (fun c231 => absurd c231 (by decide))
  refine g_iconstv (nI 1) d12_behindSum_245 rfl ?_
  exact g_iret rfl d12_behindSum_246 (⟨(uI (uI I 74 14 1) 74 13 (nI f), L), ⟨rfl, rfl, (FR.rf.uf (by decide)).uf (by decide), (X ++ Y).length, b, g8, g6, (by rw [List.length_append]; omega), fun q hq => PQ.pv g10 q hq⟩, rfl, rfl⟩)
set_option maxHeartbeats 800000 in
theorem r12_bs_sh {l : Launch} {K : cK} {d : Nat} {I : wI} {L : wL} {R : wR} {dy : cH} (tp : Nat → Nat) (t : Nat) (lw : Bool) (X Y : List (Nat × Nat)) (a b pa br f : Nat) (v : Den) (hS : PSt I L tp t lw (X ++ Y) b pa br f) (k0 : Nat) (hB : b + X.length + Y.length + k0 ≤ f) (hadd : addO (sg tp t f) = 0) (hmul : mulO (sg tp t f) = 0) (hin : ibX (X ++ Y) = 32) (te : Int32) (Z : List (Nat × Nat)) (hZ : X = Z ++ [(32, 0)]) (hbr : 0 < br) (hsg : sg tp t f = 93) (hBG : BG 5 Y) (hPD : PD (opF I) (agF I) Y a b v) (hd : 3 ≤ d) : CX l K m12_behindSum d [.ref 74, .int te] (hp I L R dy) (α := wI × wL × Nat) (fun x => PSt x.1 x.2.1 tp t lw Z x.2.2 pa (br - 1) (nxt tp t f) ∧ FP I L x.1 x.2.1 ∧ SG (opF x.1) (agF x.1) a x.2.2 v ∧ x.2.2 + Z.length + k0 ≤ nxt tp t f ∧ ∀ k, k < a → x.1 81 k = I 81 k ∧ x.1 82 k = I 82 k) (fun _ => .int (nI 3)) (fun x => hp x.1 x.2.1 R dy) := by
  obtain ⟨g1, g2, g3, g4, g5, g6, g7, g8, g9, g10⟩ := id hS
  have hnx := nxt_le (tp := tp) g2.1
  have ht4 := g1.1
  have hft := g2.1
  have hte := (tE_le (tp := tp) g2.1).1
  obtain ⟨hq1, hq2⟩ := (PQ.app X).1 g10
  rw [Nat.zero_add] at hq2
  have g8b : I 74 24 = nI (X.length + Y.length) := by rw [g8, List.length_append]
  obtain ⟨na1, na2⟩ := addO_0 hadd
  obtain ⟨na3, na4, na5⟩ := mulO_0 hmul
  obtain ⟨hib, hic⟩ := ib_X (X ++ Y).length (X ++ Y) rfl g10
  have hTB : TB X 5 := Or.inr ⟨Z, 32, 0, hZ, by decide⟩
  refine CC.of ok12_behindSum (Nat.le_of_ble_eq_true rfl) ?_
  refine g_aload_n d12_behindSum_0 rfl ?_
  refine g_bipushv (nI 43) d12_behindSum_1 rfl ?_
  refine g_EV1 vm12_isSign ml12_265 c_74 (r12_isSign tp t f hS.1 hS.2.1 43 (by decide) (by decide) (Nat.le_refl 0)) (by omega) (Nat.le_of_ble_eq_true rfl) d12_behindSum_3 ?_
  refine g_bz 14 d12_behindSum_6 rfl (fun _ => ?_) (fun c6 => absurd c6 (by omega))
  refine g_aload_n d12_behindSum_14 rfl ?_
  refine g_bipushv (nI 45) d12_behindSum_15 rfl ?_
  refine g_EV1 vm12_isSign ml12_265 c_74 (r12_isSign tp t f hS.1 hS.2.1 45 (by decide) (by decide) (Nat.le_refl 0)) (by omega) (Nat.le_of_ble_eq_true rfl) d12_behindSum_17 ?_
  refine g_bz 28 d12_behindSum_20 rfl (fun _ => ?_) (fun c20 => absurd c20 (by omega))
  refine g_aload_n d12_behindSum_28 rfl ?_
  refine g_bipushv (nI 42) d12_behindSum_29 rfl ?_
  refine g_EV1 vm12_isSign ml12_265 c_74 (r12_isSign tp t f hS.1 hS.2.1 42 (by decide) (by decide) (Nat.le_refl 0)) (by omega) (Nat.le_of_ble_eq_true rfl) d12_behindSum_31 ?_
  refine g_bz 42 d12_behindSum_34 rfl (fun _ => ?_) (fun c34 => absurd c34 (by omega))
  refine g_aload_n d12_behindSum_42 rfl ?_
  refine g_bipushv (nI 47) d12_behindSum_43 rfl ?_
  refine g_EV1 vm12_isSign ml12_265 c_74 (r12_isSign tp t f hS.1 hS.2.1 47 (by decide) (by decide) (Nat.le_refl 0)) (by omega) (Nat.le_of_ble_eq_true rfl) d12_behindSum_45 ?_
  refine g_bz 56 d12_behindSum_48 rfl (fun _ => ?_) (fun c48 => absurd c48 (by omega))
  refine g_aload_n d12_behindSum_56 rfl ?_
  refine g_bipushv (nI 37) d12_behindSum_57 rfl ?_
  refine g_EV1 vm12_isSign ml12_265 c_74 (r12_isSign tp t f hS.1 hS.2.1 37 (by decide) (by decide) (Nat.le_refl 0)) (by omega) (Nat.le_of_ble_eq_true rfl) d12_behindSum_59 ?_
  refine g_bz 70 d12_behindSum_62 rfl (fun _ => ?_) (fun c62 => absurd c62 (by omega))
  refine g_iconstv ((-1 : Int32)) d12_behindSum_70 rfl ?_
  refine g_istore_n d12_behindSum_71 (by decide) ?_
  refine g_iload_n d12_behindSum_72 rfl ?_
  refine g_iconstv ((-1 : Int32)) d12_behindSum_73 rfl ?_
  refine g_ic_eq (-1) (-1) 97 (by decide) (by decide) d12_behindSum_74 rfl (fun _ => ?_) (fun c74 => absurd c74 (by decide))
  refine g_aload_n d12_behindSum_97 rfl ?_
  refine g_EV0 vm12_inner ml12_295 c_74 (r12_inner (I := I) (X ++ Y).length (by exact g8) (by rw [List.length_append]; omega) (PQ.pv g10) (Nat.le_refl 0)) (by omega) (Nat.le_of_ble_eq_true rfl) d12_behindSum_98 ?_
  refine g_topI (nI 32) (by rw [hib, hin]; rfl) ?_
  refine g_istore_n d12_behindSum_101 (by decide) ?_
  refine g_iload_n d12_behindSum_102 rfl ?_
  refine g_bipushv (nI 32) d12_behindSum_103 rfl ?_
  refine g_ic_ne (32) (32) 152 (by decide) (by decide) d12_behindSum_105 rfl (fun c105 => absurd c105 (by decide)) (fun _ => ?_)
  refine g_aload_n d12_behindSum_108 rfl ?_
  refine g_aload_n d12_behindSum_109 rfl ?_
  refine g_bipushv (nI 93) d12_behindSum_110 rfl ?_
  refine g_EV1 vm12_isSign ml12_265 c_74 (r12_isSign tp t f hS.1 hS.2.1 93 (by decide) (by decide) (Nat.le_refl 0)) (by omega) (Nat.le_of_ble_eq_true rfl) d12_behindSum_112 ?_
  refine g_topI (nI 1) (if_pos hsg) ?_
  refine g_WV1 vm12_must ml12_227 c_74 (r12_must_ok tp t f hS.1 hS.2.1 hS.2.2.2.1 (Nat.le_refl 2)) (by omega) (Nat.le_of_ble_eq_true rfl) d12_behindSum_115 (fun x hx => ?_)
  obtain ⟨I2, L2⟩ := x
  obtain ⟨hF, hK⟩ := hx
  dsimp only at hF hK ⊢
  have hS3 := hS.nx hF hK
  have e81 := hF.1 81 (by decide) (by decide)
  have e82 := hF.1 82 (by decide) (by decide)
  obtain ⟨w1, w2, w3, w4, w5, w6, w7, w8, w9, w10⟩ := id hS3
  obtain ⟨wq1, wq2⟩ := (PQ.app X).1 w10
  rw [Nat.zero_add] at wq2
  have w8b : I2 74 24 = nI (X.length + Y.length) := by rw [w8, List.length_append]
  have hPD2 : PD (opF I2) (agF I2) Y a b v := PD.cg Y (fun k _ _ => ⟨congrArg Int32.toNatClampNeg (congrFun e81 k), congrArg Int32.toNatClampNeg (congrFun e82 k)⟩) hPD
  refine g_aload_n d12_behindSum_118 rfl ?_
  refine g_get fl12_192 d12_behindSum_119 f_74_14 ?_
  refine g_topI ((0 : Int32)) (w4) ?_
  refine g_iz_ne (0) 150 (by decide) d12_behindSum_122 rfl (fun c122 => absurd c122 (by decide)) (fun _ => ?_)
  refine g_aload_n d12_behindSum_125 rfl ?_
  refine g_iconstv (nI 5) d12_behindSum_126 rfl ?_
  refine g_WV1 vm12_settle ml12_292 c_74 (r12_settle (I := I2) [] Y (X.length) a (5) b (by decide) v (hTB.bl wq1) (w8b) (w6) (by omega) (by exact hPD2) (PQ.pe Y wq2 (hBG.mono (by decide) Y)) (hBG) (Nat.le_refl 1)) (by omega) (Nat.le_of_ble_eq_true rfl) d12_behindSum_127 (fun y hy => ?_)
  have hS2 := hS3.st hy
  have hdn := hS2
  rw [hZ] at hdn
  have hdn2 := (hdn.dn).br (br2 := br - 1)
  have hfp := ST.fp (L := L2) hy
  obtain ⟨s1, s2, s3, s4, s5, s6, s7, s8, s9⟩ := hy
  have hXl : X.length = Z.length + 1 := by rw [hZ, List.length_append]; rfl
  rw [hXl] at s3
  refine g_aload_n d12_behindSum_130 rfl ?_
  refine g_dup d12_behindSum_131 rfl ?_
  refine g_get fl12_234 d12_behindSum_132 f_74_24 ?_
  refine g_topI (nI (Z.length + 1)) (s3) ?_
  refine g_iconstv (nI 1) d12_behindSum_135 rfl ?_
  refine g_isubN (by omega) d12_behindSum_136 ?_
  refine g_topI (nI (Z.length)) (by congr 1) ?_
  refine g_putIh _ fl12_234 d12_behindSum_137 f_74_24 s_74_24 ?_
  refine g_aload_n d12_behindSum_140 rfl ?_
  refine g_dup d12_behindSum_141 rfl ?_
  refine g_get fl12_256 d12_behindSum_142 f_74_25 ?_
  refine g_topI (nI (br)) (hS2.2.2.2.2.2.2.2.2.1) ?_
  refine g_iconstv (nI 1) d12_behindSum_145 rfl ?_
  refine g_isubN (by omega) d12_behindSum_146 ?_
  refine g_putIh _ fl12_256 d12_behindSum_147 f_74_25 s_74_25 ?_
  refine g_iconstv (nI 3) d12_behindSum_150 rfl ?_
  exact g_iret rfl d12_behindSum_151 (⟨(_, L2, y.2), ⟨hdn2, ((((hF.up (by decide) (by decide) (by decide) (by decide)).tr hfp).uf (by decide)).uf (by decide)), SG.cg s7 (fun k _ _ => ⟨rfl, rfl⟩), (by show y.2 + Z.length + k0 ≤ nxt tp t f; omega), fun k hk => ⟨(s8 k hk).1.trans (congrFun e81 k), (s8 k hk).2.trans (congrFun e82 k)⟩⟩, rfl, rfl⟩)
set_option maxHeartbeats 200000 in
theorem r12_bs_shn {l : Launch} {K : cK} {d : Nat} {I : wI} {L : wL} {R : wR} {dy : cH} (tp : Nat → Nat) (t : Nat) (lw : Bool) (X Y : List (Nat × Nat)) (a b pa br f : Nat) (v : Den) (hS : PSt I L tp t lw (X ++ Y) b pa br f) (k0 : Nat) (hB : b + X.length + Y.length + k0 ≤ f) (hadd : addO (sg tp t f) = 0) (hmul : mulO (sg tp t f) = 0) (hin : ibX (X ++ Y) = 32) (te : Int32) (hsg : sg tp t f ≠ 93) (hd : 3 ≤ d) : CX l K m12_behindSum d [.ref 74, .int te] (hp I L R dy) (α := wI × wL) (BSt I L f) (fun _ => .int (nI 3)) (fun x => hp x.1 x.2 R dy) := by
  obtain ⟨g1, g2, g3, g4, g5, g6, g7, g8, g9, g10⟩ := id hS
  have hnx := nxt_le (tp := tp) g2.1
  have ht4 := g1.1
  have hft := g2.1
  have hte := (tE_le (tp := tp) g2.1).1
  obtain ⟨hq1, hq2⟩ := (PQ.app X).1 g10
  rw [Nat.zero_add] at hq2
  have g8b : I 74 24 = nI (X.length + Y.length) := by rw [g8, List.length_append]
  obtain ⟨na1, na2⟩ := addO_0 hadd
  obtain ⟨na3, na4, na5⟩ := mulO_0 hmul
  obtain ⟨hib, hic⟩ := ib_X (X ++ Y).length (X ++ Y) rfl g10
  refine CC.of ok12_behindSum (Nat.le_of_ble_eq_true rfl) ?_
  refine g_aload_n d12_behindSum_0 rfl ?_
  refine g_bipushv (nI 43) d12_behindSum_1 rfl ?_
  refine g_EV1 vm12_isSign ml12_265 c_74 (r12_isSign tp t f hS.1 hS.2.1 43 (by decide) (by decide) (Nat.le_refl 0)) (by omega) (Nat.le_of_ble_eq_true rfl) d12_behindSum_3 ?_
  refine g_bz 14 d12_behindSum_6 rfl (fun _ => ?_) (fun c6 => absurd c6 (by omega))
  refine g_aload_n d12_behindSum_14 rfl ?_
  refine g_bipushv (nI 45) d12_behindSum_15 rfl ?_
  refine g_EV1 vm12_isSign ml12_265 c_74 (r12_isSign tp t f hS.1 hS.2.1 45 (by decide) (by decide) (Nat.le_refl 0)) (by omega) (Nat.le_of_ble_eq_true rfl) d12_behindSum_17 ?_
  refine g_bz 28 d12_behindSum_20 rfl (fun _ => ?_) (fun c20 => absurd c20 (by omega))
  refine g_aload_n d12_behindSum_28 rfl ?_
  refine g_bipushv (nI 42) d12_behindSum_29 rfl ?_
  refine g_EV1 vm12_isSign ml12_265 c_74 (r12_isSign tp t f hS.1 hS.2.1 42 (by decide) (by decide) (Nat.le_refl 0)) (by omega) (Nat.le_of_ble_eq_true rfl) d12_behindSum_31 ?_
  refine g_bz 42 d12_behindSum_34 rfl (fun _ => ?_) (fun c34 => absurd c34 (by omega))
  refine g_aload_n d12_behindSum_42 rfl ?_
  refine g_bipushv (nI 47) d12_behindSum_43 rfl ?_
  refine g_EV1 vm12_isSign ml12_265 c_74 (r12_isSign tp t f hS.1 hS.2.1 47 (by decide) (by decide) (Nat.le_refl 0)) (by omega) (Nat.le_of_ble_eq_true rfl) d12_behindSum_45 ?_
  refine g_bz 56 d12_behindSum_48 rfl (fun _ => ?_) (fun c48 => absurd c48 (by omega))
  refine g_aload_n d12_behindSum_56 rfl ?_
  refine g_bipushv (nI 37) d12_behindSum_57 rfl ?_
  refine g_EV1 vm12_isSign ml12_265 c_74 (r12_isSign tp t f hS.1 hS.2.1 37 (by decide) (by decide) (Nat.le_refl 0)) (by omega) (Nat.le_of_ble_eq_true rfl) d12_behindSum_59 ?_
  refine g_bz 70 d12_behindSum_62 rfl (fun _ => ?_) (fun c62 => absurd c62 (by omega))
  refine g_iconstv ((-1 : Int32)) d12_behindSum_70 rfl ?_
  refine g_istore_n d12_behindSum_71 (by decide) ?_
  refine g_iload_n d12_behindSum_72 rfl ?_
  refine g_iconstv ((-1 : Int32)) d12_behindSum_73 rfl ?_
  refine g_ic_eq (-1) (-1) 97 (by decide) (by decide) d12_behindSum_74 rfl (fun _ => ?_) (fun c74 => absurd c74 (by decide))
  refine g_aload_n d12_behindSum_97 rfl ?_
  refine g_EV0 vm12_inner ml12_295 c_74 (r12_inner (I := I) (X ++ Y).length (by exact g8) (by rw [List.length_append]; omega) (PQ.pv g10) (Nat.le_refl 0)) (by omega) (Nat.le_of_ble_eq_true rfl) d12_behindSum_98 ?_
  refine g_topI (nI 32) (by rw [hib, hin]; rfl) ?_
  refine g_istore_n d12_behindSum_101 (by decide) ?_
  refine g_iload_n d12_behindSum_102 rfl ?_
  refine g_bipushv (nI 32) d12_behindSum_103 rfl ?_
  refine g_ic_ne (32) (32) 152 (by decide) (by decide) d12_behindSum_105 rfl (fun c105 => absurd c105 (by decide)) (fun _ => ?_)
  refine g_aload_n d12_behindSum_108 rfl ?_
  refine g_aload_n d12_behindSum_109 rfl ?_
  refine g_bipushv (nI 93) d12_behindSum_110 rfl ?_
  refine g_EV1 vm12_isSign ml12_265 c_74 (r12_isSign tp t f hS.1 hS.2.1 93 (by decide) (by decide) (Nat.le_refl 0)) (by omega) (Nat.le_of_ble_eq_true rfl) d12_behindSum_112 ?_
  refine g_topI (nI 0) (if_neg hsg) ?_
  refine g_VV1 vm12_must ml12_227 c_74 (r12_must_no tp t f hS.1 hS.2.1 hS.2.2.2.1 (Nat.le_refl 2)) (by omega) (Nat.le_of_ble_eq_true rfl) d12_behindSum_115 ?_
  refine g_aload_n d12_behindSum_118 rfl ?_
  refine g_get fl12_192 d12_behindSum_119 f_74_14 ?_
  refine g_topI ((1 : Int32)) (rfl) ?_
  refine g_iz_ne (1) 150 (by decide) d12_behindSum_122 rfl (fun _ => ?_) (fun c122 => absurd c122 (by decide))
  refine g_iconstv (nI 3) d12_behindSum_150 rfl ?_
  exact g_iret rfl d12_behindSum_151 (⟨(uI (uI I 74 14 1) 74 13 (nI f), L), ⟨rfl, rfl, (FR.rf.uf (by decide)).uf (by decide), (X ++ Y).length, b, g8, g6, (by rw [List.length_append]; omega), fun q hq => PQ.pv g10 q hq⟩, rfl, rfl⟩)
theorem SG.lt0 {op arg : Nat → Nat} {a b : Nat} {v : Den} (h : SG op arg a b v) : a < b := h.1
set_option maxHeartbeats 800000 in
theorem r12_bt_29 {l : Launch} {K : cK} {d : Nat} {I : wI} {L : wL} {R : wR} {dy : cH} (tp : Nat → Nat) (t : Nat) (lw : Bool) (X Y : List (Nat × Nat)) (a b pa br f : Nat) (v : Den) (hS : PSt I L tp t lw (X ++ Y) b pa br f) (k0 : Nat) (hB : b + X.length + Y.length + k0 ≤ f) (hiw : iw tp t f 1476) (hTB : TB X 2) (hBG : BG 2 Y) (hPD : PD (opF I) (agF I) Y a b v) (hd : 3 ≤ d) : CX l K m12_behindTest d [.ref 74] (hp I L R dy) (α := wI × wL × Nat) (fun x => PSt x.1 x.2.1 tp t lw (X ++ [(29, x.2.2)]) (x.2.2 + 1) pa br (nxt tp t f) ∧ FP I L x.1 x.2.1 ∧ SG (opF x.1) (agF x.1) a x.2.2 v ∧ x.2.2 + X.length + 1 + 1 + k0 ≤ nxt tp t f ∧ (∀ k, k < a → x.1 81 k = I 81 k ∧ x.1 82 k = I 82 k) ∧ opF x.1 x.2.2 = 29) (fun _ => .int (nI 0)) (fun x => hp x.1 x.2.1 R dy) := by
  obtain ⟨g1, g2, g3, g4, g5, g6, g7, g8, g9, g10⟩ := id hS
  have hnx := nxt_le (tp := tp) g2.1
  have ht4 := g1.1
  have hft := g2.1
  have hte := (tE_le (tp := tp) g2.1).1
  obtain ⟨hq1, hq2⟩ := (PQ.app X).1 g10
  rw [Nat.zero_add] at hq2
  have g8b : I 74 24 = nI (X.length + Y.length) := by rw [g8, List.length_append]
  obtain ⟨hib, hic⟩ := ib_X (X ++ Y).length (X ++ Y) rfl g10
  have hnx2 := ww_long (m := 1) hiw (by decide) (by decide) g2.1
  refine CC.of ok12_behindTest (Nat.le_of_ble_eq_true rfl) ?_
  refine g_aload_n d12_behindTest_0 rfl ?_
  refine g_ldc2 d12_behindTest_1 kl12_302 ?_
  refine g_EV1 vm12_isWord ml12_252 c_74 (r12_isWord tp t f hS.1 hS.2.1 1476 (by decide) (Nat.le_refl 0)) (by omega) (Nat.le_of_ble_eq_true rfl) d12_behindTest_4 ?_
  refine g_topI (nI 1) (if_pos hiw) ?_
  refine g_istore_n d12_behindTest_7 (by decide) ?_
  refine g_iload_n d12_behindTest_8 rfl ?_
  refine g_iz_ne (1) 22 (by decide) d12_behindTest_9 rfl (fun _ => ?_) (fun c9 => absurd c9 (by decide))
  refine g_aload_n d12_behindTest_22 rfl ?_
  refine g_iload_n d12_behindTest_23 rfl ?_
  refine g_iz_eq (1) 31 (by decide) d12_behindTest_24 rfl (fun c24 => absurd c24 (by decide)) (fun _ => ?_)
  refine g_iconstv (nI 2) d12_behindTest_27 rfl ?_
  refine g_goto 32 d12_behindTest_28 rfl ?_
  refine g_WV1 vm12_settle ml12_292 c_74 (r12_settle (I := I) [] Y (X.length) a (2) b (by decide) v (hTB.bl hq1) (g8b) (g6) (by omega) (by exact hPD) (PQ.pe Y hq2 (hBG.mono (by decide) Y)) (hBG) (Nat.le_refl 1)) (by omega) (Nat.le_of_ble_eq_true rfl) d12_behindTest_32 (fun y hy => ?_)
  have hS2 := hS.st hy
  have hps := ((hS2.ps (o := 29) (j := y.2) (by decide) (by decide) (by have := hy.2.2.2.2.2.1; omega)).em (o := 29) (g := 0) (by decide) (by decide))
  have hfp := ST.fp (L := L) hy
  obtain ⟨s1, s2, s3, s4, s5, s6, s7, s8, s9⟩ := hy
  obtain ⟨z1, z2, z3, z4, z5, z6, z7, z8, z9, z10⟩ := id hps
  refine g_aload_n d12_behindTest_35 rfl ?_
  refine g_iload_n d12_behindTest_36 rfl ?_
  refine g_iz_eq (1) 45 (by decide) d12_behindTest_37 rfl (fun c37 => absurd c37 (by decide)) (fun _ => ?_)
  refine g_bipushv (nI 29) d12_behindTest_40 rfl ?_
  refine g_goto 47 d12_behindTest_42 rfl ?_
  refine g_aload_n d12_behindTest_47 rfl ?_
  refine g_get fl12_231 d12_behindTest_48 f_74_18 ?_
  refine g_topI (nI (y.2)) (s4) ?_
  refine g_VV2 vm12_push ml12_259 c_74 (r12_push (I := y.1) X.length s3 (by omega) (nI 29) (nI y.2) (Nat.le_refl 0)) (by omega) (Nat.le_of_ble_eq_true rfl) d12_behindTest_51 ?_
  refine g_aload_n d12_behindTest_54 rfl ?_
  refine g_iload_n d12_behindTest_55 rfl ?_
  refine g_iz_eq (1) 64 (by decide) d12_behindTest_56 rfl (fun c56 => absurd c56 (by decide)) (fun _ => ?_)
  refine g_bipushv (nI 29) d12_behindTest_59 rfl ?_
  refine g_goto 66 d12_behindTest_61 rfl ?_
  refine g_iconstv (nI 0) d12_behindTest_66 rfl ?_
  refine g_VV2 vm12_emit ml12_240 c_74 (r12_emit y.2 (by exact s4) (by omega) (nI 29) (nI 0) (Nat.le_refl 0)) (by omega) (Nat.le_of_ble_eq_true rfl) d12_behindTest_67 ?_
  refine g_aload_n d12_behindTest_70 rfl ?_
  refine g_WV0 vm12_next ml12_196 c_74 (r12_next tp t z1 (tE tp t f) z2.2.2.1 (tE_le hft).2.1 (Nat.le_refl 1)) (by omega) (Nat.le_of_ble_eq_true rfl) d12_behindTest_71 (fun x hx => ?_)
  refine g_iconstv (nI 0) d12_behindTest_74 rfl ?_
  exact g_iret rfl d12_behindTest_75 (⟨(x.1, x.2, y.2), ⟨hps.nx hx.1 hx.2, (((((((hfp.ui (by decide) (by decide)).ui (by decide) (by decide)).uf (by decide)).ui (by decide) (by decide)).ui (by decide) (by decide)).uf (by decide)).tr (hx.1.up (by decide) (by decide) (by decide) (by decide))), SG.cg s7 (fun k k1 k2 => ⟨congrArg Int32.toNatClampNeg ((congrFun (hx.1.1 81 (by decide) (by decide)) k).trans (by rw [uI_n (by decide), uI_n (by decide), uI_sn (by have k3 : k < y.2 := k2; omega)]; rfl)), congrArg Int32.toNatClampNeg ((congrFun (hx.1.1 82 (by decide) (by decide)) k).trans (by rw [uI_n (by decide), uI_sn (by have k3 : k < y.2 := k2; omega)]; rfl))⟩), (by show y.2 + X.length + 1 + 1 + k0 ≤ nxt tp t f; omega), fun k hk => ⟨(congrFun (hx.1.1 81 (by decide) (by decide)) k).trans ((by rw [uI_n (by decide), uI_n (by decide), uI_sn (by have := SG.lt0 s7; omega)]; rfl : _ = y.1 81 k).trans (s8 k hk).1), (congrFun (hx.1.1 82 (by decide) (by decide)) k).trans ((by rw [uI_n (by decide), uI_sn (by have := SG.lt0 s7; omega)]; rfl : _ = y.1 82 k).trans (s8 k hk).2)⟩, (by show (x.1 81 y.2).toNatClampNeg = 29; rw [congrFun (hx.1.1 81 (by decide) (by decide)) y.2, uI_n (by decide), uI_n (by decide), uI_ss]; rfl)⟩, rfl, rfl⟩)
set_option maxHeartbeats 800000 in
theorem r12_bt_30 {l : Launch} {K : cK} {d : Nat} {I : wI} {L : wL} {R : wR} {dy : cH} (tp : Nat → Nat) (t : Nat) (lw : Bool) (X Y : List (Nat × Nat)) (a b pa br f : Nat) (v : Den) (hS : PSt I L tp t lw (X ++ Y) b pa br f) (k0 : Nat) (hB : b + X.length + Y.length + k0 ≤ f) (hiw : iw tp t f 498) (hTB : TB X 1) (hBG : BG 1 Y) (hPD : PD (opF I) (agF I) Y a b v) (hd : 3 ≤ d) : CX l K m12_behindTest d [.ref 74] (hp I L R dy) (α := wI × wL × Nat) (fun x => PSt x.1 x.2.1 tp t lw (X ++ [(30, x.2.2)]) (x.2.2 + 1) pa br (nxt tp t f) ∧ FP I L x.1 x.2.1 ∧ SG (opF x.1) (agF x.1) a x.2.2 v ∧ x.2.2 + X.length + 1 + 1 + k0 ≤ nxt tp t f ∧ (∀ k, k < a → x.1 81 k = I 81 k ∧ x.1 82 k = I 82 k) ∧ opF x.1 x.2.2 = 30) (fun _ => .int (nI 0)) (fun x => hp x.1 x.2.1 R dy) := by
  obtain ⟨g1, g2, g3, g4, g5, g6, g7, g8, g9, g10⟩ := id hS
  have hnx := nxt_le (tp := tp) g2.1
  have ht4 := g1.1
  have hft := g2.1
  have hte := (tE_le (tp := tp) g2.1).1
  obtain ⟨hq1, hq2⟩ := (PQ.app X).1 g10
  rw [Nat.zero_add] at hq2
  have g8b : I 74 24 = nI (X.length + Y.length) := by rw [g8, List.length_append]
  obtain ⟨hib, hic⟩ := ib_X (X ++ Y).length (X ++ Y) rfl g10
  have hnx2 := ww_long (m := 1) hiw (by decide) (by decide) g2.1
  refine CC.of ok12_behindTest (Nat.le_of_ble_eq_true rfl) ?_
  refine g_aload_n d12_behindTest_0 rfl ?_
  refine g_ldc2 d12_behindTest_1 kl12_302 ?_
  refine g_EV1 vm12_isWord ml12_252 c_74 (r12_isWord tp t f hS.1 hS.2.1 1476 (by decide) (Nat.le_refl 0)) (by omega) (Nat.le_of_ble_eq_true rfl) d12_behindTest_4 ?_
  refine g_topI (nI 0) (if_neg (fun z => by have h1 := z.2; have h2 := hiw.2; omega)) ?_
  refine g_istore_n d12_behindTest_7 (by decide) ?_
  refine g_iload_n d12_behindTest_8 rfl ?_
  refine g_iz_ne (0) 22 (by decide) d12_behindTest_9 rfl (fun c9 => absurd c9 (by decide)) (fun _ => ?_)
  refine g_aload_n d12_behindTest_12 rfl ?_
  refine g_ldc2 d12_behindTest_13 kl12_304 ?_
  refine g_EV1 vm12_isWord ml12_252 c_74 (r12_isWord tp t f hS.1 hS.2.1 498 (by decide) (Nat.le_refl 0)) (by omega) (Nat.le_of_ble_eq_true rfl) d12_behindTest_16 ?_
  refine g_bz 76 d12_behindTest_19 rfl (fun c19 => absurd (hiw) c19) (fun _ => ?_)
  refine g_aload_n d12_behindTest_22 rfl ?_
  refine g_iload_n d12_behindTest_23 rfl ?_
  refine g_iz_eq (0) 31 (by decide) d12_behindTest_24 rfl (fun _ => ?_) (fun c24 => absurd c24 (by decide))
  refine g_iconstv (nI 1) d12_behindTest_31 rfl ?_
  refine g_WV1 vm12_settle ml12_292 c_74 (r12_settle (I := I) [] Y (X.length) a (1) b (by decide) v (hTB.bl hq1) (g8b) (g6) (by omega) (by exact hPD) (PQ.pe Y hq2 (hBG.mono (by decide) Y)) (hBG) (Nat.le_refl 1)) (by omega) (Nat.le_of_ble_eq_true rfl) d12_behindTest_32 (fun y hy => ?_)
  have hS2 := hS.st hy
  have hps := ((hS2.ps (o := 30) (j := y.2) (by decide) (by decide) (by have := hy.2.2.2.2.2.1; omega)).em (o := 30) (g := 0) (by decide) (by decide))
  have hfp := ST.fp (L := L) hy
  obtain ⟨s1, s2, s3, s4, s5, s6, s7, s8, s9⟩ := hy
  obtain ⟨z1, z2, z3, z4, z5, z6, z7, z8, z9, z10⟩ := id hps
  refine g_aload_n d12_behindTest_35 rfl ?_
  refine g_iload_n d12_behindTest_36 rfl ?_
  refine g_iz_eq (0) 45 (by decide) d12_behindTest_37 rfl (fun _ => ?_) (fun c37 => absurd c37 (by decide))
  refine g_bipushv (nI 30) d12_behindTest_45 rfl ?_
  refine g_aload_n d12_behindTest_47 rfl ?_
  refine g_get fl12_231 d12_behindTest_48 f_74_18 ?_
  refine g_topI (nI (y.2)) (s4) ?_
  refine g_VV2 vm12_push ml12_259 c_74 (r12_push (I := y.1) X.length s3 (by omega) (nI 30) (nI y.2) (Nat.le_refl 0)) (by omega) (Nat.le_of_ble_eq_true rfl) d12_behindTest_51 ?_
  refine g_aload_n d12_behindTest_54 rfl ?_
  refine g_iload_n d12_behindTest_55 rfl ?_
  refine g_iz_eq (0) 64 (by decide) d12_behindTest_56 rfl (fun _ => ?_) (fun c56 => absurd c56 (by decide))
  refine g_bipushv (nI 30) d12_behindTest_64 rfl ?_
  refine g_iconstv (nI 0) d12_behindTest_66 rfl ?_
  refine g_VV2 vm12_emit ml12_240 c_74 (r12_emit y.2 (by exact s4) (by omega) (nI 30) (nI 0) (Nat.le_refl 0)) (by omega) (Nat.le_of_ble_eq_true rfl) d12_behindTest_67 ?_
  refine g_aload_n d12_behindTest_70 rfl ?_
  refine g_WV0 vm12_next ml12_196 c_74 (r12_next tp t z1 (tE tp t f) z2.2.2.1 (tE_le hft).2.1 (Nat.le_refl 1)) (by omega) (Nat.le_of_ble_eq_true rfl) d12_behindTest_71 (fun x hx => ?_)
  refine g_iconstv (nI 0) d12_behindTest_74 rfl ?_
  exact g_iret rfl d12_behindTest_75 (⟨(x.1, x.2, y.2), ⟨hps.nx hx.1 hx.2, (((((((hfp.ui (by decide) (by decide)).ui (by decide) (by decide)).uf (by decide)).ui (by decide) (by decide)).ui (by decide) (by decide)).uf (by decide)).tr (hx.1.up (by decide) (by decide) (by decide) (by decide))), SG.cg s7 (fun k k1 k2 => ⟨congrArg Int32.toNatClampNeg ((congrFun (hx.1.1 81 (by decide) (by decide)) k).trans (by rw [uI_n (by decide), uI_n (by decide), uI_sn (by have k3 : k < y.2 := k2; omega)]; rfl)), congrArg Int32.toNatClampNeg ((congrFun (hx.1.1 82 (by decide) (by decide)) k).trans (by rw [uI_n (by decide), uI_sn (by have k3 : k < y.2 := k2; omega)]; rfl))⟩), (by show y.2 + X.length + 1 + 1 + k0 ≤ nxt tp t f; omega), fun k hk => ⟨(congrFun (hx.1.1 81 (by decide) (by decide)) k).trans ((by rw [uI_n (by decide), uI_n (by decide), uI_sn (by have := SG.lt0 s7; omega)]; rfl : _ = y.1 81 k).trans (s8 k hk).1), (congrFun (hx.1.1 82 (by decide) (by decide)) k).trans ((by rw [uI_n (by decide), uI_sn (by have := SG.lt0 s7; omega)]; rfl : _ = y.1 82 k).trans (s8 k hk).2)⟩, (by show (x.1 81 y.2).toNatClampNeg = 30; rw [congrFun (hx.1.1 81 (by decide) (by decide)) y.2, uI_n (by decide), uI_n (by decide), uI_ss]; rfl)⟩, rfl, rfl⟩)
set_option maxHeartbeats 200000 in
theorem r12_bt_ov {l : Launch} {K : cK} {d : Nat} {I : wI} {L : wL} {R : wR} {dy : cH} (tp : Nat → Nat) (t : Nat) (lw : Bool) (X Y : List (Nat × Nat)) (a b pa br f : Nat) (v : Den) (hS : PSt I L tp t lw (X ++ Y) b pa br f) (k0 : Nat) (hB : b + X.length + Y.length + k0 ≤ f) (hna : ¬ iw tp t f 1476) (hno : ¬ iw tp t f 498) (hin : ibX (X ++ Y) = 0) (hd : 3 ≤ d) : CE l K m12_behindTest d [.ref 74] (hp I L R dy) (.int (nI 4)) (hp I L R dy) := by
  obtain ⟨g1, g2, g3, g4, g5, g6, g7, g8, g9, g10⟩ := id hS
  have hnx := nxt_le (tp := tp) g2.1
  have ht4 := g1.1
  have hft := g2.1
  have hte := (tE_le (tp := tp) g2.1).1
  obtain ⟨hq1, hq2⟩ := (PQ.app X).1 g10
  rw [Nat.zero_add] at hq2
  have g8b : I 74 24 = nI (X.length + Y.length) := by rw [g8, List.length_append]
  obtain ⟨hib, hic⟩ := ib_X (X ++ Y).length (X ++ Y) rfl g10
  refine CC.of ok12_behindTest (Nat.le_of_ble_eq_true rfl) ?_
  refine g_aload_n d12_behindTest_0 rfl ?_
  refine g_ldc2 d12_behindTest_1 kl12_302 ?_
  refine g_EV1 vm12_isWord ml12_252 c_74 (r12_isWord tp t f hS.1 hS.2.1 1476 (by decide) (Nat.le_refl 0)) (by omega) (Nat.le_of_ble_eq_true rfl) d12_behindTest_4 ?_
  refine g_topI (nI 0) (if_neg hna) ?_
  refine g_istore_n d12_behindTest_7 (by decide) ?_
  refine g_iload_n d12_behindTest_8 rfl ?_
  refine g_iz_ne (0) 22 (by decide) d12_behindTest_9 rfl (fun c9 => absurd c9 (by decide)) (fun _ => ?_)
  refine g_aload_n d12_behindTest_12 rfl ?_
  refine g_ldc2 d12_behindTest_13 kl12_304 ?_
  refine g_EV1 vm12_isWord ml12_252 c_74 (r12_isWord tp t f hS.1 hS.2.1 498 (by decide) (Nat.le_refl 0)) (by omega) (Nat.le_of_ble_eq_true rfl) d12_behindTest_16 ?_
  refine g_bz 76 d12_behindTest_19 rfl (fun _ => ?_) (fun c19 => absurd c19 (hno))
  refine g_aload_n d12_behindTest_76 rfl ?_
  refine g_EV0 vm12_inner ml12_295 c_74 (r12_inner (I := I) (X ++ Y).length (by exact g8) (by rw [List.length_append]; omega) (PQ.pv g10) (Nat.le_refl 0)) (by omega) (Nat.le_of_ble_eq_true rfl) d12_behindTest_77 ?_
  refine g_topI ((-1 : Int32)) (by rw [hib, hin]; rfl) ?_
  refine g_iconstv ((-1 : Int32)) d12_behindTest_80 rfl ?_
  refine g_ic_ne (-1) (-1) 86 (by decide) (by decide) d12_behindTest_81 rfl (fun c81 => absurd c81 (by decide)) (fun _ => ?_)
  refine g_iconstv (nI 4) d12_behindTest_84 rfl ?_
  exact g_iret rfl d12_behindTest_85 (⟨rfl, rfl⟩)
set_option maxHeartbeats 800000 in
theorem r12_bt_sh {l : Launch} {K : cK} {d : Nat} {I : wI} {L : wL} {R : wR} {dy : cH} (tp : Nat → Nat) (t : Nat) (lw : Bool) (X Y : List (Nat × Nat)) (a b pa br f : Nat) (v : Den) (hS : PSt I L tp t lw (X ++ Y) b pa br f) (k0 : Nat) (hB : b + X.length + Y.length + k0 ≤ f) (hna : ¬ iw tp t f 1476) (hno : ¬ iw tp t f 498) (hin : ibX (X ++ Y) = 31) (Z : List (Nat × Nat)) (hZ : X = Z ++ [(31, 0)]) (hbr : 0 < br) (hsg : sg tp t f = 41) (hBG : BG 1 Y) (hPD : PD (opF I) (agF I) Y a b v) (hd : 3 ≤ d) : CX l K m12_behindTest d [.ref 74] (hp I L R dy) (α := wI × wL × Nat) (fun x => PSt x.1 x.2.1 tp t lw Z x.2.2 pa (br - 1) (nxt tp t f) ∧ FP I L x.1 x.2.1 ∧ SG (opF x.1) (agF x.1) a x.2.2 v ∧ x.2.2 + Z.length + k0 ≤ nxt tp t f ∧ ∀ k, k < a → x.1 81 k = I 81 k ∧ x.1 82 k = I 82 k) (fun _ => .int (nI 2)) (fun x => hp x.1 x.2.1 R dy) := by
  obtain ⟨g1, g2, g3, g4, g5, g6, g7, g8, g9, g10⟩ := id hS
  have hnx := nxt_le (tp := tp) g2.1
  have ht4 := g1.1
  have hft := g2.1
  have hte := (tE_le (tp := tp) g2.1).1
  obtain ⟨hq1, hq2⟩ := (PQ.app X).1 g10
  rw [Nat.zero_add] at hq2
  have g8b : I 74 24 = nI (X.length + Y.length) := by rw [g8, List.length_append]
  obtain ⟨hib, hic⟩ := ib_X (X ++ Y).length (X ++ Y) rfl g10
  have hTB : TB X 1 := Or.inr ⟨Z, 31, 0, hZ, by decide⟩
  refine CC.of ok12_behindTest (Nat.le_of_ble_eq_true rfl) ?_
  refine g_aload_n d12_behindTest_0 rfl ?_
  refine g_ldc2 d12_behindTest_1 kl12_302 ?_
  refine g_EV1 vm12_isWord ml12_252 c_74 (r12_isWord tp t f hS.1 hS.2.1 1476 (by decide) (Nat.le_refl 0)) (by omega) (Nat.le_of_ble_eq_true rfl) d12_behindTest_4 ?_
  refine g_topI (nI 0) (if_neg hna) ?_
  refine g_istore_n d12_behindTest_7 (by decide) ?_
  refine g_iload_n d12_behindTest_8 rfl ?_
  refine g_iz_ne (0) 22 (by decide) d12_behindTest_9 rfl (fun c9 => absurd c9 (by decide)) (fun _ => ?_)
  refine g_aload_n d12_behindTest_12 rfl ?_
  refine g_ldc2 d12_behindTest_13 kl12_304 ?_
  refine g_EV1 vm12_isWord ml12_252 c_74 (r12_isWord tp t f hS.1 hS.2.1 498 (by decide) (Nat.le_refl 0)) (by omega) (Nat.le_of_ble_eq_true rfl) d12_behindTest_16 ?_
  refine g_bz 76 d12_behindTest_19 rfl (fun _ => ?_) (fun c19 => absurd c19 (hno))
  refine g_aload_n d12_behindTest_76 rfl ?_
  refine g_EV0 vm12_inner ml12_295 c_74 (r12_inner (I := I) (X ++ Y).length (by exact g8) (by rw [List.length_append]; omega) (PQ.pv g10) (Nat.le_refl 0)) (by omega) (Nat.le_of_ble_eq_true rfl) d12_behindTest_77 ?_
  refine g_topI (nI 31) (by rw [hib, hin]; rfl) ?_
  refine g_iconstv ((-1 : Int32)) d12_behindTest_80 rfl ?_
  refine g_ic_ne (31) (-1) 86 (by decide) (by decide) d12_behindTest_81 rfl (fun _ => ?_) (fun c81 => absurd c81 (by decide))
  refine g_aload_n d12_behindTest_86 rfl ?_
  refine g_aload_n d12_behindTest_87 rfl ?_
  refine g_bipushv (nI 41) d12_behindTest_88 rfl ?_
  refine g_EV1 vm12_isSign ml12_265 c_74 (r12_isSign tp t f hS.1 hS.2.1 41 (by decide) (by decide) (Nat.le_refl 0)) (by omega) (Nat.le_of_ble_eq_true rfl) d12_behindTest_90 ?_
  refine g_topI (nI 1) (if_pos hsg) ?_
  refine g_WV1 vm12_must ml12_227 c_74 (r12_must_ok tp t f hS.1 hS.2.1 hS.2.2.2.1 (Nat.le_refl 2)) (by omega) (Nat.le_of_ble_eq_true rfl) d12_behindTest_93 (fun x hx => ?_)
  obtain ⟨I2, L2⟩ := x
  obtain ⟨hF, hK⟩ := hx
  dsimp only at hF hK ⊢
  have hS3 := hS.nx hF hK
  have e81 := hF.1 81 (by decide) (by decide)
  have e82 := hF.1 82 (by decide) (by decide)
  obtain ⟨w1, w2, w3, w4, w5, w6, w7, w8, w9, w10⟩ := id hS3
  obtain ⟨wq1, wq2⟩ := (PQ.app X).1 w10
  rw [Nat.zero_add] at wq2
  have w8b : I2 74 24 = nI (X.length + Y.length) := by rw [w8, List.length_append]
  have hPD2 : PD (opF I2) (agF I2) Y a b v := PD.cg Y (fun k _ _ => ⟨congrArg Int32.toNatClampNeg (congrFun e81 k), congrArg Int32.toNatClampNeg (congrFun e82 k)⟩) hPD
  refine g_aload_n d12_behindTest_96 rfl ?_
  refine g_get fl12_192 d12_behindTest_97 f_74_14 ?_
  refine g_topI ((0 : Int32)) (w4) ?_
  refine g_iz_ne (0) 128 (by decide) d12_behindTest_100 rfl (fun c100 => absurd c100 (by decide)) (fun _ => ?_)
  refine g_aload_n d12_behindTest_103 rfl ?_
  refine g_iconstv (nI 1) d12_behindTest_104 rfl ?_
  refine g_WV1 vm12_settle ml12_292 c_74 (r12_settle (I := I2) [] Y (X.length) a (1) b (by decide) v (hTB.bl wq1) (w8b) (w6) (by omega) (by exact hPD2) (PQ.pe Y wq2 (hBG.mono (by decide) Y)) (hBG) (Nat.le_refl 1)) (by omega) (Nat.le_of_ble_eq_true rfl) d12_behindTest_105 (fun y hy => ?_)
  have hS2 := hS3.st hy
  have hdn := hS2
  rw [hZ] at hdn
  have hdn2 := (hdn.dn).br (br2 := br - 1)
  have hfp := ST.fp (L := L2) hy
  obtain ⟨s1, s2, s3, s4, s5, s6, s7, s8, s9⟩ := hy
  have hXl : X.length = Z.length + 1 := by rw [hZ, List.length_append]; rfl
  rw [hXl] at s3
  refine g_aload_n d12_behindTest_108 rfl ?_
  refine g_dup d12_behindTest_109 rfl ?_
  refine g_get fl12_234 d12_behindTest_110 f_74_24 ?_
  refine g_topI (nI (Z.length + 1)) (s3) ?_
  refine g_iconstv (nI 1) d12_behindTest_113 rfl ?_
  refine g_isubN (by omega) d12_behindTest_114 ?_
  refine g_topI (nI (Z.length)) (by congr 1) ?_
  refine g_putIh _ fl12_234 d12_behindTest_115 f_74_24 s_74_24 ?_
  refine g_aload_n d12_behindTest_118 rfl ?_
  refine g_dup d12_behindTest_119 rfl ?_
  refine g_get fl12_256 d12_behindTest_120 f_74_25 ?_
  refine g_topI (nI (br)) (hS2.2.2.2.2.2.2.2.2.1) ?_
  refine g_iconstv (nI 1) d12_behindTest_123 rfl ?_
  refine g_isubN (by omega) d12_behindTest_124 ?_
  refine g_putIh _ fl12_256 d12_behindTest_125 f_74_25 s_74_25 ?_
  refine g_iconstv (nI 2) d12_behindTest_128 rfl ?_
  exact g_iret rfl d12_behindTest_129 (⟨(_, L2, y.2), ⟨hdn2, ((((hF.up (by decide) (by decide) (by decide) (by decide)).tr hfp).uf (by decide)).uf (by decide)), SG.cg s7 (fun k _ _ => ⟨rfl, rfl⟩), (by show y.2 + Z.length + k0 ≤ nxt tp t f; omega), fun k hk => ⟨(s8 k hk).1.trans (congrFun e81 k), (s8 k hk).2.trans (congrFun e82 k)⟩⟩, rfl, rfl⟩)
set_option maxHeartbeats 200000 in
theorem r12_bt_shn {l : Launch} {K : cK} {d : Nat} {I : wI} {L : wL} {R : wR} {dy : cH} (tp : Nat → Nat) (t : Nat) (lw : Bool) (X Y : List (Nat × Nat)) (a b pa br f : Nat) (v : Den) (hS : PSt I L tp t lw (X ++ Y) b pa br f) (k0 : Nat) (hB : b + X.length + Y.length + k0 ≤ f) (hna : ¬ iw tp t f 1476) (hno : ¬ iw tp t f 498) (hin : ibX (X ++ Y) = 31) (hsg : sg tp t f ≠ 41) (hd : 3 ≤ d) : CX l K m12_behindTest d [.ref 74] (hp I L R dy) (α := wI × wL) (BSt I L f) (fun _ => .int (nI 2)) (fun x => hp x.1 x.2 R dy) := by
  obtain ⟨g1, g2, g3, g4, g5, g6, g7, g8, g9, g10⟩ := id hS
  have hnx := nxt_le (tp := tp) g2.1
  have ht4 := g1.1
  have hft := g2.1
  have hte := (tE_le (tp := tp) g2.1).1
  obtain ⟨hq1, hq2⟩ := (PQ.app X).1 g10
  rw [Nat.zero_add] at hq2
  have g8b : I 74 24 = nI (X.length + Y.length) := by rw [g8, List.length_append]
  obtain ⟨hib, hic⟩ := ib_X (X ++ Y).length (X ++ Y) rfl g10
  refine CC.of ok12_behindTest (Nat.le_of_ble_eq_true rfl) ?_
  refine g_aload_n d12_behindTest_0 rfl ?_
  refine g_ldc2 d12_behindTest_1 kl12_302 ?_
  refine g_EV1 vm12_isWord ml12_252 c_74 (r12_isWord tp t f hS.1 hS.2.1 1476 (by decide) (Nat.le_refl 0)) (by omega) (Nat.le_of_ble_eq_true rfl) d12_behindTest_4 ?_
  refine g_topI (nI 0) (if_neg hna) ?_
  refine g_istore_n d12_behindTest_7 (by decide) ?_
  refine g_iload_n d12_behindTest_8 rfl ?_
  refine g_iz_ne (0) 22 (by decide) d12_behindTest_9 rfl (fun c9 => absurd c9 (by decide)) (fun _ => ?_)
  refine g_aload_n d12_behindTest_12 rfl ?_
  refine g_ldc2 d12_behindTest_13 kl12_304 ?_
  refine g_EV1 vm12_isWord ml12_252 c_74 (r12_isWord tp t f hS.1 hS.2.1 498 (by decide) (Nat.le_refl 0)) (by omega) (Nat.le_of_ble_eq_true rfl) d12_behindTest_16 ?_
  refine g_bz 76 d12_behindTest_19 rfl (fun _ => ?_) (fun c19 => absurd c19 (hno))
  refine g_aload_n d12_behindTest_76 rfl ?_
  refine g_EV0 vm12_inner ml12_295 c_74 (r12_inner (I := I) (X ++ Y).length (by exact g8) (by rw [List.length_append]; omega) (PQ.pv g10) (Nat.le_refl 0)) (by omega) (Nat.le_of_ble_eq_true rfl) d12_behindTest_77 ?_
  refine g_topI (nI 31) (by rw [hib, hin]; rfl) ?_
  refine g_iconstv ((-1 : Int32)) d12_behindTest_80 rfl ?_
  refine g_ic_ne (31) (-1) 86 (by decide) (by decide) d12_behindTest_81 rfl (fun _ => ?_) (fun c81 => absurd c81 (by decide))
  refine g_aload_n d12_behindTest_86 rfl ?_
  refine g_aload_n d12_behindTest_87 rfl ?_
  refine g_bipushv (nI 41) d12_behindTest_88 rfl ?_
  refine g_EV1 vm12_isSign ml12_265 c_74 (r12_isSign tp t f hS.1 hS.2.1 41 (by decide) (by decide) (Nat.le_refl 0)) (by omega) (Nat.le_of_ble_eq_true rfl) d12_behindTest_90 ?_
  refine g_topI (nI 0) (if_neg hsg) ?_
  refine g_VV1 vm12_must ml12_227 c_74 (r12_must_no tp t f hS.1 hS.2.1 hS.2.2.2.1 (Nat.le_refl 2)) (by omega) (Nat.le_of_ble_eq_true rfl) d12_behindTest_93 ?_
  refine g_aload_n d12_behindTest_96 rfl ?_
  refine g_get fl12_192 d12_behindTest_97 f_74_14 ?_
  refine g_topI ((1 : Int32)) (rfl) ?_
  refine g_iz_ne (1) 128 (by decide) d12_behindTest_100 rfl (fun _ => ?_) (fun c100 => absurd c100 (by decide))
  refine g_iconstv (nI 2) d12_behindTest_128 rfl ?_
  exact g_iret rfl d12_behindTest_129 (⟨(uI (uI I 74 14 1) 74 13 (nI f), L), ⟨rfl, rfl, (FR.rf.uf (by decide)).uf (by decide), (X ++ Y).length, b, g8, g6, (by rw [List.length_append]; omega), fun q hq => PQ.pv g10 q hq⟩, rfl, rfl⟩)
