def JJ (I : wI) (b : Nat) (s w : Int32) : wI := uI (uI (uI I 19 b s) 20 b w) 14 10 (nI (b + 1))
theorem JJ_rs {I : wI} {tp : Nat → Nat} {t : Nat} {lw : Bool} {b pa br f : Nat} {s w : Int32} (h : RSt I tp t lw b pa br f) : RSt (JJ I b s w) tp t lw (b + 1) pa br f := ⟨h.1, h.2.1, h.2.2.1, h.2.2.2.1, h.2.2.2.2.1, rfl, h.2.2.2.2.2.2⟩
theorem JJ_fr {I : wI} {b : Nat} {s w : Int32} : FRd I (JJ I b s w) := (FRd.s.tr FRd.w).tr (FRd.f (by decide) (by decide))
theorem JJ_eq {I : wI} {b : Nat} {s w : Int32} : EQs I (JJ I b s w) b := fun k hk => ⟨by show JJ I b s w 19 k = _; unfold JJ; rw [uI_n (by decide), uI_n (by decide), uI_sn (by omega)], by show JJ I b s w 20 k = _; unfold JJ; rw [uI_n (by decide), uI_sn (by omega), uI_n (by decide)]⟩
theorem JJ_19 {I : wI} {b : Nat} {s w : Int32} : JJ I b s w 19 b = s := by unfold JJ; rw [uI_n (by decide), uI_n (by decide), uI_ss]
theorem JJ_20 {I : wI} {b : Nat} {s w : Int32} : JJ I b s w 20 b = w := by unfold JJ; rw [uI_n (by decide), uI_ss]
/-- a sign, and what it does -/
def sO2 (s o : Nat) : Prop := s = 43 ∧ o = 20 ∨ s = 45 ∧ o = 21 ∨ s = 42 ∧ o = 22 ∨ s = 47 ∧ o = 23 ∨ s = 37 ∧ o = 24 ∨ s = 60 ∧ o = 25 ∨ s = 62 ∧ o = 26 ∨ s = 61 ∧ o = 27
theorem sO2_op {I : wI} {b s o : Nat} {w : Int32} (h : sO2 s o) : cop (stF (JJ I b (nI s) w)) (wiF (JJ I b (nI s) w)) b = o ∧ stF (JJ I b (nI s) w) b = s := by
  have s1 : stF (JJ I b (nI s) w) b = s := by
    unfold stF; rw [JJ_19, nI_clamp (by unfold sO2 at h; omega)]
  refine ⟨?_, s1⟩
  unfold cop
  rw [s1]
  rcases h with ⟨rfl, rfl⟩ | ⟨rfl, rfl⟩ | ⟨rfl, rfl⟩ | ⟨rfl, rfl⟩ | ⟨rfl, rfl⟩ | ⟨rfl, rfl⟩ | ⟨rfl, rfl⟩ | ⟨rfl, rfl⟩ <;> rfl
theorem RP_bin {I0 I x1 y1 : wI} {tp : Nat → Nat} {t : Nat} {lw : Bool} {b b1 b2 br f0 f fn f1 p1 dp dp2 s o : Nat} {v v1 : Den} (a2 : FRd I0 I) (a3 : EQs I0 I b) (a5 : f0 < f) (a8 : b < b1) (a9 : b1 + f0 ≤ b + f) (a10 : ∀ k, b ≤ k → k < b1 → OKk I k) (a11 : SCI I b b1 v dp) (hT : FTk I x1) (hfn : f < fn)
    (y2 : FRd x1 y1) (y3 : EQs x1 y1 b1) (y4 : p1 ≤ 50) (y5 : fn < f1) (y6 : f1 ≤ t) (y7 : RSt y1 tp t lw b2 p1 br f1) (y8 : b1 < b2) (y9 : b2 + fn ≤ b1 + f1) (y10 : ∀ k, b1 ≤ k → k < b2 → OKk y1 k) (y11 : SCI y1 b1 b2 v1 dp2) (hd : dp2 + 1 ≤ dp) (hso : sO2 s o) : RP I0 tp t lw b br f0 dp (.inr (f1, p1, binD o v v1)) (JJ y1 b2 (nI s) (nI 0), true) := by
  obtain ⟨hop, hst⟩ := sO2_op (I := y1) (b := b2) (w := nI 0) hso
  have hlo : 20 ≤ o ∧ o < 28 := by unfold sO2 at hso; omega
  have e1 : EQs I (JJ y1 b2 (nI s) (nI 0)) b1 := ((EQs.tk hT).tr y3).tr (JJ_eq.dn (by omega))
  have wi0 : wiF (JJ y1 b2 (nI s) (nI 0)) b2 = 0 := by unfold wiF; rw [JJ_20]; rfl
  refine ⟨rfl, ((a2.tr (FRd.tk hT)).tr y2).tr JJ_fr, a3.tr (e1.dn (by omega)), y4, by omega, y6, b2 + 1, JJ_rs y7, by omega, by omega, fun k h1 h2 => ?_, ?_⟩
  · show OKk (JJ y1 b2 (nI s) (nI 0)) k
    by_cases c1 : k < b1
    · exact (a10 k h1 c1).of (e1 k c1).1 (e1 k c1).2
    · by_cases c2 : k < b2
      · exact (y10 k (by omega) c2).of (JJ_eq k c2).1 (JJ_eq k c2).2
      · obtain rfl : k = b2 := by omega
        refine ⟨by rw [JJ_19, hst], by rw [JJ_20, wi0], ?_, fun z => by rw [hop] at z; omega⟩
        unfold vst
        rw [hst, wi0]
        unfold sO2 at hso
        exact ⟨by omega, by decide⟩
  · have g1 : SCI (JJ y1 b2 (nI s) (nI 0)) b b1 v dp := a11.of (fun k _ h2 => e1 k h2)
    have g2 : SCI (JJ y1 b2 (nI s) (nI 0)) b1 b2 v1 dp2 := y11.of (fun k _ h2 => JJ_eq k h2)
    have g3 := SC.bin g1 g2 hd (by rw [hop]; omega) (by rw [hop]; omega)
    rw [hop] at g3
    exact g3
theorem RP_no {I0 I x1 : wI} {tp : Nat → Nat} {t : Nat} {lw : Bool} {b b1 br f0 fn dp dp2 e : Nat} {y : wI × Bool} (a2 : FRd I0 I) (hT : FTk I x1) (hy : RP x1 tp t lw b1 br fn dp2 (.inl e) y) : RP I0 tp t lw b br f0 dp (.inl e) (y.1, false) := ⟨rfl, (a2.tr (FRd.tk hT)).tr hy.2.1, hy.2.2⟩
def LPterm (l : Launch) (K : cK) (L : wL) (R : wR) (dy : cH) (tp : Nat → Nat) (t : Nat) (lw : Bool) (n : Nat) : Prop := ∀ (br pa f f0 : Nat) (v : Den) (I0 I : wI) (b d cn_ : Nat), 8 * (t - f) + 1 ≤ n → RP I0 tp t lw b br f0 (dpP br + 1) (.inr (f, pa, v)) (I, true) → b ≤ f0 → br ≤ 8 → cn_ ≤ f → 8 + 8 * (8 - br) ≤ d → GL l K m4_readTerm d 0 0 22 [(0, .ref 14), (1, .int (sgI 42 47 37 (sg tp t f))), (2, .int (nI cn_))] [] (hp I L R dy) (fun r h => ∃ q : wI × Bool, RP I0 tp t lw b br f0 (dpP br + 1) (pz tp t lw n 10 br pa f v) q ∧ r = some (.int (if q.2 = true then 1 else 0)) ∧ h = hp q.1 L R dy)
set_option maxHeartbeats 1000000 in
theorem r4_Lterm {l : Launch} {K : cK} {L : wL} {R : wR} {dy : cH} {tp : Nat → Nat} {t : Nat} {lw : Bool} {n : Nat} (hK : KR l K L R dy tp t lw m4_readPart 6 1 7 0 n) (hL : LPterm l K L R dy tp t lw n) : LPterm l K L R dy tp t lw (n + 1) := by
  intro br pa f f0 v I0 I b d cn_ hn h0 hbf hbr hcn hd
  have h00 := id h0
  obtain ⟨_, a2, a3, a4, a5, a6, b1, a7, a8, a9, a10, a11⟩ := h0
  have ht4 := a7.1.1
  by_cases ho : mulO (sg tp t f) = 0
  · have hm : (sgI 42 47 37 (sg tp t f)) = -1 := by
      unfold sgI
      unfold mulO at ho
      repeat' split
      all_goals first | rfl | omega | (split at ho <;> omega)
    rw [hm, show pz tp t lw (n + 1) 10 br pa f v = .inr (f, pa, v) from if_pos ho]
    by_cases h4 : cn_ < 400
    · skip
      refine g_iload_n d4_readTerm_22 rfl ?_
      refine g_sipushv (nI 400) d4_readTerm_23 rfl ?_
      refine g_ic_ge ((cn_ : Nat) : Int) (400) 74 (nI_ti (by omega)) (by decide) d4_readTerm_26 rfl (fun c26 => absurd c26 (by omega)) (fun _ => ?_)
      refine g_iload_n d4_readTerm_29 rfl ?_
      refine g_iconstv ((-1 : Int32)) d4_readTerm_30 rfl ?_
      refine g_ic_eq (-1) (-1) 74 (by decide) (by decide) d4_readTerm_31 rfl (fun _ => ?_) (fun c31 => absurd c31 (by decide))
      refine g_iconstv (nI 1) d4_readTerm_74 rfl ?_
      exact g_zret rfl (by decide) d4_readTerm_75 (⟨(I, true), h00, rfl, rfl⟩)
    · skip
      refine g_iload_n d4_readTerm_22 rfl ?_
      refine g_sipushv (nI 400) d4_readTerm_23 rfl ?_
      refine g_ic_ge ((cn_ : Nat) : Int) (400) 74 (nI_ti (by omega)) (by decide) d4_readTerm_26 rfl (fun _ => ?_) (fun c26 => absurd c26 (by omega))
      refine g_iconstv (nI 1) d4_readTerm_74 rfl ?_
      exact g_zret rfl (by decide) d4_readTerm_75 (⟨(I, true), h00, rfl, rfl⟩)
  · have hs : sg tp t f = 42 ∨ sg tp t f = 47 ∨ sg tp t f = 37 := by
      unfold mulO at ho
      by_cases z0 : sg tp t f = 42 ∨ sg tp t f = 47 ∨ sg tp t f = 37
      · omega
      · exfalso; apply ho; rw [if_neg (fun q => z0 (by omega)), if_neg (fun q => z0 (by omega)), if_neg (fun q => z0 (by omega))]
    have hk0 : kd tp t f ≠ 0 := fun z => by unfold sg at hs; rw [if_neg (by omega)] at hs; omega
    have hn1 := nxt_le (tp := tp) a6
    have hn3 := hn1.2.2 hk0
    have hft := kd_lt hk0
    generalize hsv : sg tp t f = s at *
    have hm : sgI 42 47 37 s = nI s := by
      unfold sgI
      repeat' split
      all_goals first | omega | (congr 1; omega) | rfl
    have hso : sO2 s (mulO s) := by
      unfold sO2 mulO
      rcases hs with rfl | rfl | rfl <;> decide
    rw [hm, show pz tp t lw (n + 1) 10 br pa f v = rb (pz tp t lw n 6 br pa (nxt tp t f) v) (fun f1 p1 v1 => pz tp t lw n 10 br p1 f1 (binD (mulO s) v v1)) from by show (if mulO (sg tp t f) = 0 then _ else rb _ (fun f1 p1 v1 => pz tp t lw n 10 br p1 f1 (binD (mulO (sg tp t f)) v v1))) = _; rw [hsv, if_neg ho]]
    refine g_iload_n d4_readTerm_22 rfl ?_
    refine g_sipushv (nI 400) d4_readTerm_23 rfl ?_
    refine g_ic_ge ((cn_ : Nat) : Int) (400) 74 (nI_ti (by omega)) (by decide) d4_readTerm_26 rfl (fun c26 => absurd c26 (by omega)) (fun _ => ?_)
    refine g_iload_n d4_readTerm_29 rfl ?_
    refine g_iconstv ((-1 : Int32)) d4_readTerm_30 rfl ?_
    refine g_ic_eq ((s : Nat) : Int) (-1) 74 (nI_ti (by omega)) (by decide) d4_readTerm_31 rfl (fun c31 => absurd c31 (by omega)) (fun _ => ?_)
    refine g_aload_n d4_readTerm_34 rfl ?_
    refine g_get fl4_30 d4_readTerm_35 f_14_0 ?_
    refine g_WV0 vm8_advance ml4_74 c_12 (r8_next tp t lw b1 pa br f a7 (Nat.le_refl 1)) (by omega) (Nat.le_of_ble_eq_true rfl) d4_readTerm_38 (fun x1 hx => ?_)
    refine g_aload_n d4_readTerm_41 rfl ?_
    refine g_XV0 vm4_readPart ml4_134 c_14 (hK br pa (nxt tp t f) v x1 b1 (d - 1) (by omega) hx.2 (by omega) a4 hbr (by omega)) (by omega) (Nat.le_of_ble_eq_true rfl) d4_readTerm_42 (fun y hy => ?_)
    generalize hr : pz tp t lw n 6 br pa (nxt tp t f) v = r at hy ⊢
    rcases r with e | ⟨f1, p1, v1⟩
    · have hb1 : y.2 = false := hy.1
      refine g_bnz 50 d4_readTerm_45 rfl (fun c45 => absurd c45 (by rw [hb1]; decide)) (fun _ => ?_)
      refine g_iconstv (nI 0) d4_readTerm_48 rfl ?_
      exact g_zret rfl (by decide) d4_readTerm_49 (⟨(y.1, false), RP_no a2 hx.1 hy, rfl, rfl⟩)
    · have hb1 : y.2 = true := hy.1
      obtain ⟨_, y2, y3, y4, y5, y6, b2, y7, y8, y9, y10, y11⟩ := hy
      refine g_bnz 50 d4_readTerm_45 rfl (fun _ => ?_) (fun c45 => absurd c45 (fun z => z hb1))
      refine g_aload_n d4_readTerm_50 rfl ?_
      refine g_iload_n d4_readTerm_51 rfl ?_
      refine g_iconstv (nI 0) d4_readTerm_52 rfl ?_
      refine g_EV2 vm4_add ml4_109 c_14 (r4_add (I := y.1) b2 y7.2.2.2.2.2.1 (by omega) (nI s) (nI 0) (Nat.le_refl 1)) (by omega) (Nat.le_of_ble_eq_true rfl) d4_readTerm_53 ?_
      refine g_pop d4_readTerm_56 rfl ?_
      refine g_aload_n d4_readTerm_57 rfl ?_
      refine g_bipushv (nI 42) d4_readTerm_58 rfl ?_
      refine g_bipushv (nI 47) d4_readTerm_60 rfl ?_
      refine g_bipushv (nI 37) d4_readTerm_62 rfl ?_
      refine g_EV3 vm4_signAmong ml4_127 c_14 (r4_sign (I := JJ y.1 b2 (nI s) (nI 0)) tp t (JJ_rs y7).1 f1 (JJ_rs y7).2.1 42 47 37 (by decide) (by decide) (by decide) (Nat.le_refl 1)) (by omega) (Nat.le_of_ble_eq_true rfl) d4_readTerm_64 ?_
      refine g_istore_n d4_readTerm_67 (by decide) ?_
      refine g_iincN d4_readTerm_68 rfl (by decide) ?_
      refine g_goto 22 d4_readTerm_71 rfl ?_
      refine g_lo [(0, .ref 14), (1, .int (sgI 42 47 37 (sg tp t f1))), (2, .int (nI (cn_ + 1)))] ⟨rfl, rfl, rfl, trivial⟩ ?_
      exact hL br p1 f1 f0 (binD (mulO s) v v1) I0 (JJ y.1 b2 (nI s) (nI 0)) b d (cn_ + 1) (by omega) (RP_bin a2 a3 a5 a8 a9 a10 a11 hx.1 hn3 y2 y3 y4 y5 y6 y7 y8 y9 y10 y11 (by omega) hso) hbf hbr (by omega) hd
set_option maxHeartbeats 1000000 in
theorem r4_term {l : Launch} {K : cK} {L : wL} {R : wR} {dy : cH} {tp : Nat → Nat} {t : Nat} {lw : Bool} {n : Nat} (hK : KR l K L R dy tp t lw m4_readPart 6 1 7 0 n) (hL : LPterm l K L R dy tp t lw n) : KR l K L R dy tp t lw m4_readTerm 5 2 8 1 (n + 1) := by
  intro br pa f v I b d hn hS hbf hpa hbr hd
  have hfl := hS.2.1.1
  rw [show pz tp t lw (n + 1) 5 br pa f v = rb (pz tp t lw n 6 br pa f v) (fun f1 p1 v1 => pz tp t lw n 10 br p1 f1 v1) from rfl]
  refine CC.of ok4_readTerm (Nat.le_of_ble_eq_true rfl) ?_
  refine g_aload_n d4_readTerm_0 rfl ?_
  refine g_XV0 vm4_readPart ml4_134 c_14 (hK br pa f v I b (d - 1) (by omega) hS hbf hpa hbr (by omega)) (by omega) (Nat.le_of_ble_eq_true rfl) d4_readTerm_1 (fun y hy => ?_)
  generalize hr : pz tp t lw n 6 br pa f v = r at hy ⊢
  rcases r with e | ⟨f1, p1, v1⟩
  · have hb1 : y.2 = false := hy.1
    refine g_bnz 9 d4_readTerm_4 rfl (fun c4 => absurd c4 (by rw [hb1]; decide)) (fun _ => ?_)
    refine g_iconstv (nI 0) d4_readTerm_7 rfl ?_
    exact g_zret rfl (by decide) d4_readTerm_8 (⟨(y.1, false), ⟨rfl, hy.2.1, hy.2.2⟩, rfl, rfl⟩)
  · have hb1 : y.2 = true := hy.1
    have hy0 : RP I tp t lw b br f (dpP br + 1) (.inr (f1, p1, v1)) (y.1, true) := by
      have h9 := hy.st FRd.rf EQs.rf (Nat.le_refl f) (show dpP br + 0 ≤ dpP br + 1 by omega)
      rw [show y = (y.1, true) from by rw [← hb1]] at h9
      exact h9
    obtain ⟨_, y2, y3, y4, y5, y6, b2, y7, y8, y9, y10, y11⟩ := hy
    refine g_bnz 9 d4_readTerm_4 rfl (fun _ => ?_) (fun c4 => absurd c4 (fun z => z hb1))
    refine g_aload_n d4_readTerm_9 rfl ?_
    refine g_bipushv (nI 42) d4_readTerm_10 rfl ?_
    refine g_bipushv (nI 47) d4_readTerm_12 rfl ?_
    refine g_bipushv (nI 37) d4_readTerm_14 rfl ?_
    refine g_EV3 vm4_signAmong ml4_127 c_14 (r4_sign (I := y.1) tp t y7.1 f1 y7.2.1 42 47 37 (by decide) (by decide) (by decide) (Nat.le_refl 1)) (by omega) (Nat.le_of_ble_eq_true rfl) d4_readTerm_16 ?_
    refine g_istore_n d4_readTerm_19 (by decide) ?_
    refine g_iconstv (nI 0) d4_readTerm_20 rfl ?_
    refine g_istore_n d4_readTerm_21 (by decide) ?_
    refine g_lo [(0, .ref 14), (1, .int (sgI 42 47 37 (sg tp t f1))), (2, .int (nI 0))] ⟨rfl, rfl, rfl, trivial⟩ ?_
    exact hL br p1 f1 f v1 I y.1 b d 0 (by omega) hy0 hbf hbr (Nat.zero_le _) hd
def LPsum (l : Launch) (K : cK) (L : wL) (R : wR) (dy : cH) (tp : Nat → Nat) (t : Nat) (lw : Bool) (n : Nat) : Prop := ∀ (br pa f f0 : Nat) (v : Den) (I0 I : wI) (b d cn_ : Nat), 8 * (t - f) + 1 ≤ n → RP I0 tp t lw b br f0 (dpP br + 2) (.inr (f, pa, v)) (I, true) → b ≤ f0 → br ≤ 8 → cn_ ≤ f → 9 + 8 * (8 - br) ≤ d → GL l K m4_readSum d 0 0 22 [(0, .ref 14), (1, .int (sgI 43 45 45 (sg tp t f))), (2, .int (nI cn_))] [] (hp I L R dy) (fun r h => ∃ q : wI × Bool, RP I0 tp t lw b br f0 (dpP br + 2) (pz tp t lw n 9 br pa f v) q ∧ r = some (.int (if q.2 = true then 1 else 0)) ∧ h = hp q.1 L R dy)
set_option maxHeartbeats 1000000 in
theorem r4_Lsum {l : Launch} {K : cK} {L : wL} {R : wR} {dy : cH} {tp : Nat → Nat} {t : Nat} {lw : Bool} {n : Nat} (hK : KR l K L R dy tp t lw m4_readTerm 5 2 8 1 n) (hL : LPsum l K L R dy tp t lw n) : LPsum l K L R dy tp t lw (n + 1) := by
  intro br pa f f0 v I0 I b d cn_ hn h0 hbf hbr hcn hd
  have h00 := id h0
  obtain ⟨_, a2, a3, a4, a5, a6, b1, a7, a8, a9, a10, a11⟩ := h0
  have ht4 := a7.1.1
  by_cases ho : addO (sg tp t f) = 0
  · have hm : (sgI 43 45 45 (sg tp t f)) = -1 := by
      unfold sgI
      unfold addO at ho
      repeat' split
      all_goals first | rfl | omega | (split at ho <;> omega)
    rw [hm, show pz tp t lw (n + 1) 9 br pa f v = .inr (f, pa, v) from if_pos ho]
    by_cases h4 : cn_ < 400
    · skip
      refine g_iload_n d4_readSum_22 rfl ?_
      refine g_sipushv (nI 400) d4_readSum_23 rfl ?_
      refine g_ic_ge ((cn_ : Nat) : Int) (400) 74 (nI_ti (by omega)) (by decide) d4_readSum_26 rfl (fun c26 => absurd c26 (by omega)) (fun _ => ?_)
      refine g_iload_n d4_readSum_29 rfl ?_
      refine g_iconstv ((-1 : Int32)) d4_readSum_30 rfl ?_
      refine g_ic_eq (-1) (-1) 74 (by decide) (by decide) d4_readSum_31 rfl (fun _ => ?_) (fun c31 => absurd c31 (by decide))
      refine g_iconstv (nI 1) d4_readSum_74 rfl ?_
      exact g_zret rfl (by decide) d4_readSum_75 (⟨(I, true), h00, rfl, rfl⟩)
    · skip
      refine g_iload_n d4_readSum_22 rfl ?_
      refine g_sipushv (nI 400) d4_readSum_23 rfl ?_
      refine g_ic_ge ((cn_ : Nat) : Int) (400) 74 (nI_ti (by omega)) (by decide) d4_readSum_26 rfl (fun _ => ?_) (fun c26 => absurd c26 (by omega))
      refine g_iconstv (nI 1) d4_readSum_74 rfl ?_
      exact g_zret rfl (by decide) d4_readSum_75 (⟨(I, true), h00, rfl, rfl⟩)
  · have hs : sg tp t f = 43 ∨ sg tp t f = 45 := by
      unfold addO at ho
      by_cases z0 : sg tp t f = 43 ∨ sg tp t f = 45
      · omega
      · exfalso; apply ho; rw [if_neg (fun q => z0 (by omega)), if_neg (fun q => z0 (by omega))]
    have hk0 : kd tp t f ≠ 0 := fun z => by unfold sg at hs; rw [if_neg (by omega)] at hs; omega
    have hn1 := nxt_le (tp := tp) a6
    have hn3 := hn1.2.2 hk0
    have hft := kd_lt hk0
    generalize hsv : sg tp t f = s at *
    have hm : sgI 43 45 45 s = nI s := by
      unfold sgI
      repeat' split
      all_goals first | omega | (congr 1; omega) | rfl
    have hso : sO2 s (addO s) := by
      unfold sO2 addO
      rcases hs with rfl | rfl <;> decide
    rw [hm, show pz tp t lw (n + 1) 9 br pa f v = rb (pz tp t lw n 5 br pa (nxt tp t f) v) (fun f1 p1 v1 => pz tp t lw n 9 br p1 f1 (binD (addO s) v v1)) from by show (if addO (sg tp t f) = 0 then _ else rb _ (fun f1 p1 v1 => pz tp t lw n 9 br p1 f1 (binD (addO (sg tp t f)) v v1))) = _; rw [hsv, if_neg ho]]
    refine g_iload_n d4_readSum_22 rfl ?_
    refine g_sipushv (nI 400) d4_readSum_23 rfl ?_
    refine g_ic_ge ((cn_ : Nat) : Int) (400) 74 (nI_ti (by omega)) (by decide) d4_readSum_26 rfl (fun c26 => absurd c26 (by omega)) (fun _ => ?_)
    refine g_iload_n d4_readSum_29 rfl ?_
    refine g_iconstv ((-1 : Int32)) d4_readSum_30 rfl ?_
    refine g_ic_eq ((s : Nat) : Int) (-1) 74 (nI_ti (by omega)) (by decide) d4_readSum_31 rfl (fun c31 => absurd c31 (by omega)) (fun _ => ?_)
    refine g_aload_n d4_readSum_34 rfl ?_
    refine g_get fl4_30 d4_readSum_35 f_14_0 ?_
    refine g_WV0 vm8_advance ml4_74 c_12 (r8_next tp t lw b1 pa br f a7 (Nat.le_refl 1)) (by omega) (Nat.le_of_ble_eq_true rfl) d4_readSum_38 (fun x1 hx => ?_)
    refine g_aload_n d4_readSum_41 rfl ?_
    refine g_XV0 vm4_readTerm ml4_131 c_14 (hK br pa (nxt tp t f) v x1 b1 (d - 1) (by omega) hx.2 (by omega) a4 hbr (by omega)) (by omega) (Nat.le_of_ble_eq_true rfl) d4_readSum_42 (fun y hy => ?_)
    generalize hr : pz tp t lw n 5 br pa (nxt tp t f) v = r at hy ⊢
    rcases r with e | ⟨f1, p1, v1⟩
    · have hb1 : y.2 = false := hy.1
      refine g_bnz 50 d4_readSum_45 rfl (fun c45 => absurd c45 (by rw [hb1]; decide)) (fun _ => ?_)
      refine g_iconstv (nI 0) d4_readSum_48 rfl ?_
      exact g_zret rfl (by decide) d4_readSum_49 (⟨(y.1, false), RP_no a2 hx.1 hy, rfl, rfl⟩)
    · have hb1 : y.2 = true := hy.1
      obtain ⟨_, y2, y3, y4, y5, y6, b2, y7, y8, y9, y10, y11⟩ := hy
      refine g_bnz 50 d4_readSum_45 rfl (fun _ => ?_) (fun c45 => absurd c45 (fun z => z hb1))
      refine g_aload_n d4_readSum_50 rfl ?_
      refine g_iload_n d4_readSum_51 rfl ?_
      refine g_iconstv (nI 0) d4_readSum_52 rfl ?_
      refine g_EV2 vm4_add ml4_109 c_14 (r4_add (I := y.1) b2 y7.2.2.2.2.2.1 (by omega) (nI s) (nI 0) (Nat.le_refl 1)) (by omega) (Nat.le_of_ble_eq_true rfl) d4_readSum_53 ?_
      refine g_pop d4_readSum_56 rfl ?_
      refine g_aload_n d4_readSum_57 rfl ?_
      refine g_bipushv (nI 43) d4_readSum_58 rfl ?_
      refine g_bipushv (nI 45) d4_readSum_60 rfl ?_
      refine g_bipushv (nI 45) d4_readSum_62 rfl ?_
      refine g_EV3 vm4_signAmong ml4_127 c_14 (r4_sign (I := JJ y.1 b2 (nI s) (nI 0)) tp t (JJ_rs y7).1 f1 (JJ_rs y7).2.1 43 45 45 (by decide) (by decide) (by decide) (Nat.le_refl 1)) (by omega) (Nat.le_of_ble_eq_true rfl) d4_readSum_64 ?_
      refine g_istore_n d4_readSum_67 (by decide) ?_
      refine g_iincN d4_readSum_68 rfl (by decide) ?_
      refine g_goto 22 d4_readSum_71 rfl ?_
      refine g_lo [(0, .ref 14), (1, .int (sgI 43 45 45 (sg tp t f1))), (2, .int (nI (cn_ + 1)))] ⟨rfl, rfl, rfl, trivial⟩ ?_
      exact hL br p1 f1 f0 (binD (addO s) v v1) I0 (JJ y.1 b2 (nI s) (nI 0)) b d (cn_ + 1) (by omega) (RP_bin a2 a3 a5 a8 a9 a10 a11 hx.1 hn3 y2 y3 y4 y5 y6 y7 y8 y9 y10 y11 (by omega) hso) hbf hbr (by omega) hd
set_option maxHeartbeats 1000000 in
theorem r4_sum {l : Launch} {K : cK} {L : wL} {R : wR} {dy : cH} {tp : Nat → Nat} {t : Nat} {lw : Bool} {n : Nat} (hK : KR l K L R dy tp t lw m4_readTerm 5 2 8 1 n) (hL : LPsum l K L R dy tp t lw n) : KR l K L R dy tp t lw m4_readSum 4 3 9 2 (n + 1) := by
  intro br pa f v I b d hn hS hbf hpa hbr hd
  have hfl := hS.2.1.1
  rw [show pz tp t lw (n + 1) 4 br pa f v = rb (pz tp t lw n 5 br pa f v) (fun f1 p1 v1 => pz tp t lw n 9 br p1 f1 v1) from rfl]
  refine CC.of ok4_readSum (Nat.le_of_ble_eq_true rfl) ?_
  refine g_aload_n d4_readSum_0 rfl ?_
  refine g_XV0 vm4_readTerm ml4_131 c_14 (hK br pa f v I b (d - 1) (by omega) hS hbf hpa hbr (by omega)) (by omega) (Nat.le_of_ble_eq_true rfl) d4_readSum_1 (fun y hy => ?_)
  generalize hr : pz tp t lw n 5 br pa f v = r at hy ⊢
  rcases r with e | ⟨f1, p1, v1⟩
  · have hb1 : y.2 = false := hy.1
    refine g_bnz 9 d4_readSum_4 rfl (fun c4 => absurd c4 (by rw [hb1]; decide)) (fun _ => ?_)
    refine g_iconstv (nI 0) d4_readSum_7 rfl ?_
    exact g_zret rfl (by decide) d4_readSum_8 (⟨(y.1, false), ⟨rfl, hy.2.1, hy.2.2⟩, rfl, rfl⟩)
  · have hb1 : y.2 = true := hy.1
    have hy0 : RP I tp t lw b br f (dpP br + 2) (.inr (f1, p1, v1)) (y.1, true) := by
      have h9 := hy.st FRd.rf EQs.rf (Nat.le_refl f) (show dpP br + 1 ≤ dpP br + 2 by omega)
      rw [show y = (y.1, true) from by rw [← hb1]] at h9
      exact h9
    obtain ⟨_, y2, y3, y4, y5, y6, b2, y7, y8, y9, y10, y11⟩ := hy
    refine g_bnz 9 d4_readSum_4 rfl (fun _ => ?_) (fun c4 => absurd c4 (fun z => z hb1))
    refine g_aload_n d4_readSum_9 rfl ?_
    refine g_bipushv (nI 43) d4_readSum_10 rfl ?_
    refine g_bipushv (nI 45) d4_readSum_12 rfl ?_
    refine g_bipushv (nI 45) d4_readSum_14 rfl ?_
    refine g_EV3 vm4_signAmong ml4_127 c_14 (r4_sign (I := y.1) tp t y7.1 f1 y7.2.1 43 45 45 (by decide) (by decide) (by decide) (Nat.le_refl 1)) (by omega) (Nat.le_of_ble_eq_true rfl) d4_readSum_16 ?_
    refine g_istore_n d4_readSum_19 (by decide) ?_
    refine g_iconstv (nI 0) d4_readSum_20 rfl ?_
    refine g_istore_n d4_readSum_21 (by decide) ?_
    refine g_lo [(0, .ref 14), (1, .int (sgI 43 45 45 (sg tp t f1))), (2, .int (nI 0))] ⟨rfl, rfl, rfl, trivial⟩ ?_
    exact hL br p1 f1 f v1 I y.1 b d 0 (by omega) hy0 hbf hbr (Nat.zero_le _) hd
