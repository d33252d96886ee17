/-- a method that reads: what is read, the fuel, the frames it needs -/
def KR (l : Launch) (K : cK) (L : wL) (R : wR) (dy : cH) (tp : Nat → Nat) (t : Nat) (lw : Bool) (m : MI) (z c need dq n : Nat) : Prop := ∀ (br pa f : Nat) (v : Den) (I : wI) (b d : Nat), 8 * (t - f) + c ≤ n → RSt I tp t lw b pa br f → b ≤ f → pa ≤ 50 → br ≤ 8 → need + 8 * (8 - br) ≤ d → CX l K m d [.ref 14] (hp I L R dy) (α := wI × Bool) (RP I tp t lw b br f (dpP br + dq) (pz tp t lw n z br pa f v)) (fun x => .int (if x.2 = true then 1 else 0)) (fun x => hp x.1 L R dy)
/-- a bracket's inside, and its end -/
def brR (tp : Nat → Nat) (t cl : Nat) (r : Res) : Res := rb r (fun f1 p1 v1 => if sg tp t f1 = cl then .inr (nxt tp t f1, p1, v1) else .inl f1)
theorem RP.st {I I2 : wI} {tp : Nat → Nat} {t : Nat} {lw : Bool} {b br f dp : Nat} {r : Res} {x : wI × Bool} (h : RP I2 tp t lw b br f dp r x) (hF : FRd I I2) (hE : EQs I I2 b) {f0 dp2 : Nat} (hf : f0 ≤ f) (hd : dp ≤ dp2) : RP I tp t lw b br f0 dp2 r x := by
  cases r with
  | inl e => exact ⟨h.1, hF.tr h.2.1, h.2.2⟩
  | inr q =>
    obtain ⟨f2, pa2, v2⟩ := q
    obtain ⟨h1, h2, h3, h4, h5, h6, b2, h7, h8, h9, h10, h11⟩ := h
    exact ⟨h1, hF.tr h2, hE.tr h3, h4, by omega, h6, b2, h7, h8, by omega, h10, SC.mono h11 hd⟩
theorem RSt.f3 {I : wI} {tp : Nat → Nat} {t : Nat} {lw : Bool} {b pa br f k : Nat} (h : RSt I tp t lw b pa br f) : RSt (uI I 14 3 (nI k)) tp t lw b pa k f := ⟨h.1, h.2.1, h.2.2.1, h.2.2.2.1, rfl, h.2.2.2.2.2⟩
theorem RP_end {I I1 I3 : wI} {tp : Nat → Nat} {t : Nat} {lw : Bool} {b br f f0 f1 p1 dp dp2 : Nat} {v1 : Den} {y : wI × Bool} (hy : RP I1 tp t lw b (br + 1) f dp (.inr (f1, p1, v1)) y) (hf : f0 < f) (hd : dp ≤ dp2) (hF : FRd I I1) (hE : EQs I I1 b) (hT : FTk (uI y.1 14 3 (nI br)) I3) (hS : ∀ b2, RSt y.1 tp t lw b2 p1 (br + 1) f1 → RSt I3 tp t lw b2 p1 br (nxt tp t f1)) (hk : kd tp t f1 ≠ 0) : RP I tp t lw b br f0 dp2 (.inr (nxt tp t f1, p1, v1)) (I3, true) := by
  obtain ⟨h1, h2, h3, h4, h5, h6, b2, h7, h8, h9, h10, h11⟩ := hy
  have hn := nxt_le (tp := tp) h6
  have hn3 := hn.2.2 hk
  have e19 : I3 19 = y.1 19 := by rw [hT.1 19 (by decide), uI_n (by decide)]
  have e20 : I3 20 = y.1 20 := by rw [hT.1 20 (by decide), uI_n (by decide)]
  refine ⟨rfl, (hF.tr h2).tr ((FRd.f (by decide) (by decide)).tr (FRd.tk hT)), (hE.tr h3).tr (fun k _ => ⟨by show I3 19 k = _; rw [e19], by show I3 20 k = _; rw [e20]⟩), h4, by omega, hn.2.1, b2, hS b2 h7, h8, by omega, fun k a c => (h10 k a c).of (by show I3 19 k = _; rw [e19]) (by show I3 20 k = _; rw [e20]), ?_⟩
  exact SC.mono (SCI.of h11 (fun k _ _ => ⟨by show I3 19 k = _; rw [e19], by show I3 20 k = _; rw [e20]⟩)) hd
set_option maxHeartbeats 800000 in
theorem r4_brk_t {l : Launch} {K : cK} {L : wL} {R : wR} {dy : cH} {tp : Nat → Nat} {t : Nat} {lw : Bool} {n : Nat} (hK : KR l K L R dy tp t lw m4_readTest 0 7 13 3 n) {I : wI} {d : Nat} (br pa f : Nat) (v : Den) (b : Nat) (hn : 8 * (t - f) ≤ n) (hS : RSt I tp t lw b pa br f) (hbf : b ≤ f) (hpa : pa ≤ 50) (hbr : br < 8) (hk : kd tp t f ≠ 0) (hft : f < t) (hd : 6 + 8 * (8 - br) ≤ d) : CX l K m4_readBracketed d [.ref 14, .int (nI 40), .int (nI 41)] (hp I L R dy) (α := wI × Bool) (RP I tp t lw b br f (dpP br + 1) (brR tp t 41 (pz tp t lw n 0 (br + 1) pa (nxt tp t f) v))) (fun x => .int (if x.2 = true then 1 else 0)) (fun x => hp x.1 L R dy) := by
  have hn1 := nxt_le (tp := tp) hS.2.1.1
  have hn3 := hn1.2.2 hk
  have hdp : dpP (br + 1) + 3 ≤ dpP br + 1 := by unfold dpP; omega
  refine CC.of ok4_readBracketed (Nat.le_of_ble_eq_true rfl) ?_
  refine g_aload_n d4_readBracketed_0 rfl ?_
  refine g_get fl4_42 d4_readBracketed_1 f_14_3 ?_
  refine g_topI (nI (br)) (hS.2.2.2.2.1) ?_
  refine g_bipushv (nI 8) d4_readBracketed_4 rfl ?_
  refine g_ic_lt ((br : Nat) : Int) (8) 14 (nI_ti (by omega)) (by decide) d4_readBracketed_6 rfl (fun _ => ?_) (fun c6 => absurd c6 (by omega))
  refine g_aload_n d4_readBracketed_14 rfl ?_
  refine g_dup d4_readBracketed_15 rfl ?_
  refine g_get fl4_42 d4_readBracketed_16 f_14_3 ?_
  refine g_topI (nI (br)) (hS.2.2.2.2.1) ?_
  refine g_iconstv (nI 1) d4_readBracketed_19 rfl ?_
  refine g_iaddN d4_readBracketed_20 ?_
  refine g_putIh _ fl4_42 d4_readBracketed_21 f_14_3 s_14_3 ?_
  refine g_aload_n d4_readBracketed_24 rfl ?_
  refine g_get fl4_30 d4_readBracketed_25 f_14_0 ?_
  refine g_WV0 vm8_advance ml4_74 c_12 (r8_next (I := uI I 14 3 (nI (br + 1))) tp t lw b pa (br + 1) f hS.f3 (Nat.le_refl 1)) (by omega) (Nat.le_of_ble_eq_true rfl) d4_readBracketed_28 (fun x1 hx => ?_)
  refine g_iload_n d4_readBracketed_31 rfl ?_
  refine g_bipushv (nI 40) d4_readBracketed_32 rfl ?_
  refine g_ic_ne (40) (40) 44 (by decide) (by decide) d4_readBracketed_34 rfl (fun c34 => absurd c34 (by decide)) (fun _ => ?_)
  refine g_aload_n d4_readBracketed_37 rfl ?_
  refine g_XV0 vm4_readTest ml4_101 c_14 (hK (br + 1) pa (nxt tp t f) v x1 b (d - 1) (by omega) hx.2 (by omega) hpa (by omega) (by omega)) (by omega) (Nat.le_of_ble_eq_true rfl) d4_readBracketed_38 (fun y hy => ?_)
  have hF1 : FRd I x1 := (FRd.f (by decide) (by decide)).tr (FRd.tk hx.1)
  have hE1 : EQs I x1 b := fun k hk => ⟨by rw [hx.1.1 19 (by decide), uI_n (by decide)], by rw [hx.1.1 20 (by decide), uI_n (by decide)]⟩
  generalize hr : pz tp t lw n 0 (br + 1) pa (nxt tp t f) v = r at hy ⊢
  rcases r with e | ⟨f1, p1, v1⟩
  · have hb1 : y.2 = false := hy.1
    refine g_goto 48 d4_readBracketed_41 rfl ?_
    refine g_istore_n d4_readBracketed_48 (by decide) ?_
    refine g_iload_n d4_readBracketed_49 rfl ?_
    refine g_bnz 55 d4_readBracketed_50 rfl (fun c50 => absurd c50 (by rw [hb1]; decide)) (fun _ => ?_)
    refine g_iconstv (nI 0) d4_readBracketed_53 rfl ?_
    exact g_zret rfl (by decide) d4_readBracketed_54 (⟨(y.1, false), ⟨rfl, hF1.tr hy.2.1, hy.2.2⟩, rfl, rfl⟩)
  · have hb1 : y.2 = true := hy.1
    have hy0 := id hy
    obtain ⟨_, q2, q3, q4, q5, q6, b2, q7, q8, q9, q10, q11⟩ := hy
    by_cases hsg : sg tp t f1 = 41
    · have hk1 : kd tp t f1 ≠ 0 := fun z => by unfold sg at hsg; rw [if_neg (by omega)] at hsg; omega
      rw [show brR tp t 41 (.inr (f1, p1, v1)) = .inr (nxt tp t f1, p1, v1) from if_pos hsg]
      refine g_goto 48 d4_readBracketed_41 rfl ?_
      refine g_istore_n d4_readBracketed_48 (by decide) ?_
      refine g_iload_n d4_readBracketed_49 rfl ?_
      refine g_bnz 55 d4_readBracketed_50 rfl (fun _ => ?_) (fun c50 => absurd c50 (fun z => z hb1))
      refine g_aload_n d4_readBracketed_55 rfl ?_
      refine g_get fl4_30 d4_readBracketed_56 f_14_0 ?_
      refine g_iload_n d4_readBracketed_59 rfl ?_
      refine g_EV1 vm8_isSign ml4_71 c_12 (r8_isSign tp t q7.1 f1 q7.2.1 41 (by decide) (by decide) (Nat.le_refl 0)) (by omega) (Nat.le_of_ble_eq_true rfl) d4_readBracketed_60 ?_
      refine g_bnz 71 d4_readBracketed_63 rfl (fun _ => ?_) (fun c63 => absurd c63 (fun z => z hsg))
      refine g_aload_n d4_readBracketed_71 rfl ?_
      refine g_dup d4_readBracketed_72 rfl ?_
      refine g_get fl4_42 d4_readBracketed_73 f_14_3 ?_
      refine g_topI (nI (br + 1)) (q7.2.2.2.2.1) ?_
      refine g_iconstv (nI 1) d4_readBracketed_76 rfl ?_
      refine g_isubN (by omega) d4_readBracketed_77 ?_
      refine g_topI (nI (br)) (by congr 1) ?_
      refine g_putIh _ fl4_42 d4_readBracketed_78 f_14_3 s_14_3 ?_
      refine g_aload_n d4_readBracketed_81 rfl ?_
      refine g_get fl4_30 d4_readBracketed_82 f_14_0 ?_
      refine g_WV0 vm8_advance ml4_74 c_12 (r8_next (I := uI y.1 14 3 (nI br)) tp t lw b2 p1 br f1 q7.f3 (Nat.le_refl 1)) (by omega) (Nat.le_of_ble_eq_true rfl) d4_readBracketed_85 (fun x3 hx3 => ?_)
      refine g_iconstv (nI 1) d4_readBracketed_88 rfl ?_
      exact g_zret rfl (by decide) d4_readBracketed_89 (⟨(x3, true), RP_end hy0 (by omega) hdp hF1 hE1 hx3.1 (fun b3 h3 => h3.f3.adv hx3.1 hx3.2.2.1) hk1, rfl, rfl⟩)
    · rw [show brR tp t 41 (.inr (f1, p1, v1)) = .inl f1 from if_neg hsg]
      refine g_goto 48 d4_readBracketed_41 rfl ?_
      refine g_istore_n d4_readBracketed_48 (by decide) ?_
      refine g_iload_n d4_readBracketed_49 rfl ?_
      refine g_bnz 55 d4_readBracketed_50 rfl (fun _ => ?_) (fun c50 => absurd c50 (fun z => z hb1))
      refine g_aload_n d4_readBracketed_55 rfl ?_
      refine g_get fl4_30 d4_readBracketed_56 f_14_0 ?_
      refine g_iload_n d4_readBracketed_59 rfl ?_
      refine g_EV1 vm8_isSign ml4_71 c_12 (r8_isSign tp t q7.1 f1 q7.2.1 41 (by decide) (by decide) (Nat.le_refl 0)) (by omega) (Nat.le_of_ble_eq_true rfl) d4_readBracketed_60 ?_
      refine g_bnz 71 d4_readBracketed_63 rfl (fun c63 => absurd c63 (hsg)) (fun _ => ?_)
      refine g_aload_n d4_readBracketed_66 rfl ?_
      refine g_EV0 vm4_wrong ml4_77 c_14 (r4_wrong f1 q7.2.1.2.1 (Nat.le_refl 0)) (by omega) (Nat.le_of_ble_eq_true rfl) d4_readBracketed_67 ?_
      exact g_zret rfl (by decide) d4_readBracketed_70 (⟨(_, false), ⟨rfl, (hF1.tr q2).tr (FRd.f (by decide) (by decide)), rfl⟩, rfl, rfl⟩)
set_option maxHeartbeats 800000 in
theorem r4_brk_s {l : Launch} {K : cK} {L : wL} {R : wR} {dy : cH} {tp : Nat → Nat} {t : Nat} {lw : Bool} {n : Nat} (hK : KR l K L R dy tp t lw m4_readSum 4 3 9 2 n) {I : wI} {d : Nat} (br pa f : Nat) (v : Den) (b : Nat) (hn : 8 * (t - f) ≤ n) (hS : RSt I tp t lw b pa br f) (hbf : b ≤ f) (hpa : pa ≤ 50) (hbr : br < 8) (hk : kd tp t f ≠ 0) (hft : f < t) (hd : 6 + 8 * (8 - br) ≤ d) : CX l K m4_readBracketed d [.ref 14, .int (nI 91), .int (nI 93)] (hp I L R dy) (α := wI × Bool) (RP I tp t lw b br f (dpP br + 0) (brR tp t 93 (pz tp t lw n 4 (br + 1) pa (nxt tp t f) v))) (fun x => .int (if x.2 = true then 1 else 0)) (fun x => hp x.1 L R dy) := by
  have hn1 := nxt_le (tp := tp) hS.2.1.1
  have hn3 := hn1.2.2 hk
  have hdp : dpP (br + 1) + 2 ≤ dpP br + 0 := by unfold dpP; omega
  refine CC.of ok4_readBracketed (Nat.le_of_ble_eq_true rfl) ?_
  refine g_aload_n d4_readBracketed_0 rfl ?_
  refine g_get fl4_42 d4_readBracketed_1 f_14_3 ?_
  refine g_topI (nI (br)) (hS.2.2.2.2.1) ?_
  refine g_bipushv (nI 8) d4_readBracketed_4 rfl ?_
  refine g_ic_lt ((br : Nat) : Int) (8) 14 (nI_ti (by omega)) (by decide) d4_readBracketed_6 rfl (fun _ => ?_) (fun c6 => absurd c6 (by omega))
  refine g_aload_n d4_readBracketed_14 rfl ?_
  refine g_dup d4_readBracketed_15 rfl ?_
  refine g_get fl4_42 d4_readBracketed_16 f_14_3 ?_
  refine g_topI (nI (br)) (hS.2.2.2.2.1) ?_
  refine g_iconstv (nI 1) d4_readBracketed_19 rfl ?_
  refine g_iaddN d4_readBracketed_20 ?_
  refine g_putIh _ fl4_42 d4_readBracketed_21 f_14_3 s_14_3 ?_
  refine g_aload_n d4_readBracketed_24 rfl ?_
  refine g_get fl4_30 d4_readBracketed_25 f_14_0 ?_
  refine g_WV0 vm8_advance ml4_74 c_12 (r8_next (I := uI I 14 3 (nI (br + 1))) tp t lw b pa (br + 1) f hS.f3 (Nat.le_refl 1)) (by omega) (Nat.le_of_ble_eq_true rfl) d4_readBracketed_28 (fun x1 hx => ?_)
  refine g_iload_n d4_readBracketed_31 rfl ?_
  refine g_bipushv (nI 40) d4_readBracketed_32 rfl ?_
  refine g_ic_ne (91) (40) 44 (by decide) (by decide) d4_readBracketed_34 rfl (fun _ => ?_) (fun c34 => absurd c34 (by decide))
  refine g_aload_n d4_readBracketed_44 rfl ?_
  refine g_XV0 vm4_readSum ml4_92 c_14 (hK (br + 1) pa (nxt tp t f) v x1 b (d - 1) (by omega) hx.2 (by omega) hpa (by omega) (by omega)) (by omega) (Nat.le_of_ble_eq_true rfl) d4_readBracketed_45 (fun y hy => ?_)
  have hF1 : FRd I x1 := (FRd.f (by decide) (by decide)).tr (FRd.tk hx.1)
  have hE1 : EQs I x1 b := fun k hk => ⟨by rw [hx.1.1 19 (by decide), uI_n (by decide)], by rw [hx.1.1 20 (by decide), uI_n (by decide)]⟩
  generalize hr : pz tp t lw n 4 (br + 1) pa (nxt tp t f) v = r at hy ⊢
  rcases r with e | ⟨f1, p1, v1⟩
  · have hb1 : y.2 = false := hy.1
    refine g_istore_n d4_readBracketed_48 (by decide) ?_
    refine g_iload_n d4_readBracketed_49 rfl ?_
    refine g_bnz 55 d4_readBracketed_50 rfl (fun c50 => absurd c50 (by rw [hb1]; decide)) (fun _ => ?_)
    refine g_iconstv (nI 0) d4_readBracketed_53 rfl ?_
    exact g_zret rfl (by decide) d4_readBracketed_54 (⟨(y.1, false), ⟨rfl, hF1.tr hy.2.1, hy.2.2⟩, rfl, rfl⟩)
  · have hb1 : y.2 = true := hy.1
    have hy0 := id hy
    obtain ⟨_, q2, q3, q4, q5, q6, b2, q7, q8, q9, q10, q11⟩ := hy
    by_cases hsg : sg tp t f1 = 93
    · have hk1 : kd tp t f1 ≠ 0 := fun z => by unfold sg at hsg; rw [if_neg (by omega)] at hsg; omega
      rw [show brR tp t 93 (.inr (f1, p1, v1)) = .inr (nxt tp t f1, p1, v1) from if_pos hsg]
      refine g_istore_n d4_readBracketed_48 (by decide) ?_
      refine g_iload_n d4_readBracketed_49 rfl ?_
      refine g_bnz 55 d4_readBracketed_50 rfl (fun _ => ?_) (fun c50 => absurd c50 (fun z => z hb1))
      refine g_aload_n d4_readBracketed_55 rfl ?_
      refine g_get fl4_30 d4_readBracketed_56 f_14_0 ?_
      refine g_iload_n d4_readBracketed_59 rfl ?_
      refine g_EV1 vm8_isSign ml4_71 c_12 (r8_isSign tp t q7.1 f1 q7.2.1 93 (by decide) (by decide) (Nat.le_refl 0)) (by omega) (Nat.le_of_ble_eq_true rfl) d4_readBracketed_60 ?_
      refine g_bnz 71 d4_readBracketed_63 rfl (fun _ => ?_) (fun c63 => absurd c63 (fun z => z hsg))
      refine g_aload_n d4_readBracketed_71 rfl ?_
      refine g_dup d4_readBracketed_72 rfl ?_
      refine g_get fl4_42 d4_readBracketed_73 f_14_3 ?_
      refine g_topI (nI (br + 1)) (q7.2.2.2.2.1) ?_
      refine g_iconstv (nI 1) d4_readBracketed_76 rfl ?_
      refine g_isubN (by omega) d4_readBracketed_77 ?_
      refine g_topI (nI (br)) (by congr 1) ?_
      refine g_putIh _ fl4_42 d4_readBracketed_78 f_14_3 s_14_3 ?_
      refine g_aload_n d4_readBracketed_81 rfl ?_
      refine g_get fl4_30 d4_readBracketed_82 f_14_0 ?_
      refine g_WV0 vm8_advance ml4_74 c_12 (r8_next (I := uI y.1 14 3 (nI br)) tp t lw b2 p1 br f1 q7.f3 (Nat.le_refl 1)) (by omega) (Nat.le_of_ble_eq_true rfl) d4_readBracketed_85 (fun x3 hx3 => ?_)
      refine g_iconstv (nI 1) d4_readBracketed_88 rfl ?_
      exact g_zret rfl (by decide) d4_readBracketed_89 (⟨(x3, true), RP_end hy0 (by omega) hdp hF1 hE1 hx3.1 (fun b3 h3 => h3.f3.adv hx3.1 hx3.2.2.1) hk1, rfl, rfl⟩)
    · rw [show brR tp t 93 (.inr (f1, p1, v1)) = .inl f1 from if_neg hsg]
      refine g_istore_n d4_readBracketed_48 (by decide) ?_
      refine g_iload_n d4_readBracketed_49 rfl ?_
      refine g_bnz 55 d4_readBracketed_50 rfl (fun _ => ?_) (fun c50 => absurd c50 (fun z => z hb1))
      refine g_aload_n d4_readBracketed_55 rfl ?_
      refine g_get fl4_30 d4_readBracketed_56 f_14_0 ?_
      refine g_iload_n d4_readBracketed_59 rfl ?_
      refine g_EV1 vm8_isSign ml4_71 c_12 (r8_isSign tp t q7.1 f1 q7.2.1 93 (by decide) (by decide) (Nat.le_refl 0)) (by omega) (Nat.le_of_ble_eq_true rfl) d4_readBracketed_60 ?_
      refine g_bnz 71 d4_readBracketed_63 rfl (fun c63 => absurd c63 (hsg)) (fun _ => ?_)
      refine g_aload_n d4_readBracketed_66 rfl ?_
      refine g_EV0 vm4_wrong ml4_77 c_14 (r4_wrong f1 q7.2.1.2.1 (Nat.le_refl 0)) (by omega) (Nat.le_of_ble_eq_true rfl) d4_readBracketed_67 ?_
      exact g_zret rfl (by decide) d4_readBracketed_70 (⟨(_, false), ⟨rfl, (hF1.tr q2).tr (FRd.f (by decide) (by decide)), rfl⟩, rfl, rfl⟩)
set_option maxHeartbeats 200000 in
theorem r4_brk_8 {l : Launch} {K : cK} {d : Nat} {I : wI} {L : wL} {R : wR} {dy : cH} (tp : Nat → Nat) (t : Nat) (lw : Bool) (b pa f : Nat) (hS : RSt I tp t lw b pa 8 f) (x y : Int32) (hd : 1 ≤ d) : CE l K m4_readBracketed d [.ref 14, .int x, .int y] (hp I L R dy) (.int 0) (hp (uI I 14 4 (nI f)) L R dy) := by
  refine CC.of ok4_readBracketed (Nat.le_of_ble_eq_true rfl) ?_
  refine g_aload_n d4_readBracketed_0 rfl ?_
  refine g_get fl4_42 d4_readBracketed_1 f_14_3 ?_
  refine g_topI (nI (8)) (hS.2.2.2.2.1) ?_
  refine g_bipushv (nI 8) d4_readBracketed_4 rfl ?_
  refine g_ic_lt ((8 : Nat) : Int) (8) 14 (nI_ti (by omega)) (by decide) d4_readBracketed_6 rfl (fun c6 => absurd c6 (by decide)) (fun _ => ?_)
  refine g_aload_n d4_readBracketed_9 rfl ?_
  refine g_EV0 vm4_wrong ml4_77 c_14 (r4_wrong f hS.2.1.2.1 (Nat.le_refl 0)) (by omega) (Nat.le_of_ble_eq_true rfl) d4_readBracketed_10 ?_
  exact g_zret rfl (by decide) d4_readBracketed_13 (⟨rfl, rfl⟩)
