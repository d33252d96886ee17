set_option maxHeartbeats 1000000 in
theorem r4_cmp {l : Launch} {K : cK} {L : wL} {R : wR} {dy : cH} {tp : Nat → Nat} {t : Nat} {lw : Bool} {n : Nat} (hK : KR l K L R dy tp t lw m4_readSum 4 3 9 2 n) : KR l K L R dy tp t lw m4_readComparison 3 4 10 3 (n + 1) := by
  intro br pa f v I b d hn hS hbf hpa hbr hd
  have ht4 := hS.1.1
  rw [show pz tp t lw (n + 1) 3 br pa f v = rb (pz tp t lw n 4 br pa f v) (fun f1 p1 v1 => if cmpO (sg tp t f1) = 0 then .inl f1 else rb (pz tp t lw n 4 br p1 (nxt tp t f1) v) (fun f2 p2 v2 => .inr (f2, p2, binD (cmpO (sg tp t f1)) v1 v2))) from rfl]
  refine CC.of ok4_readComparison (Nat.le_of_ble_eq_true rfl) ?_
  refine g_aload_n d4_readComparison_0 rfl ?_
  refine g_XV0 vm4_readSum ml4_92 c_14 (hK br pa f v I b (d - 1) (by omega) hS hbf hpa hbr (by omega)) (by omega) (Nat.le_of_ble_eq_true rfl) d4_readComparison_1 (fun y hy => ?_)
  generalize hr : pz tp t lw n 4 br pa f v = r at hy ⊢
  rcases r with e | ⟨f1, p1, v1⟩
  · have hb1 : y.2 = false := hy.1
    refine g_bnz 9 d4_readComparison_4 rfl (fun c4 => absurd c4 (by rw [hb1]; decide)) (fun _ => ?_)
    refine g_iconstv (nI 0) d4_readComparison_7 rfl ?_
    exact g_zret rfl (by decide) d4_readComparison_8 (⟨(y.1, false), ⟨rfl, hy.2.1, hy.2.2⟩, rfl, rfl⟩)
  · have hb1 : y.2 = true := hy.1
    obtain ⟨_, y2, y3, y4, y5, y6, b2, y7, y8, y9, y10, y11⟩ := hy
    by_cases ho : cmpO (sg tp t f1) = 0
    · rw [show rb (.inr (f1, p1, v1)) (fun f1 p1 v1 => if cmpO (sg tp t f1) = 0 then .inl f1 else rb (pz tp t lw n 4 br p1 (nxt tp t f1) v) (fun f2 p2 v2 => .inr (f2, p2, binD (cmpO (sg tp t f1)) v1 v2))) = .inl f1 from if_pos ho]
      have hm : sgI 60 62 61 (sg tp t f1) = -1 := by
        unfold sgI
        unfold cmpO at ho
        repeat' split
        all_goals first | rfl | omega | (split at ho <;> omega)
      refine g_bnz 9 d4_readComparison_4 rfl (fun _ => ?_) (fun c4 => absurd c4 (fun z => z hb1))
      refine g_aload_n d4_readComparison_9 rfl ?_
      refine g_bipushv (nI 60) d4_readComparison_10 rfl ?_
      refine g_bipushv (nI 62) d4_readComparison_12 rfl ?_
      refine g_bipushv (nI 61) d4_readComparison_14 rfl ?_
      refine g_EV3 vm4_signAmong ml4_127 c_14 (r4_sign (I := y.1) tp t y7.1 f1 y7.2.1 60 62 61 (by decide) (by decide) (by decide) (Nat.le_refl 1)) (by omega) (Nat.le_of_ble_eq_true rfl) d4_readComparison_16 ?_
      refine g_topI ((-1 : Int32)) (hm) ?_
      refine g_istore_n d4_readComparison_19 (by decide) ?_
      refine g_iload_n d4_readComparison_20 rfl ?_
      refine g_iconstv ((-1 : Int32)) d4_readComparison_21 rfl ?_
      refine g_ic_ne (-1) (-1) 30 (by decide) (by decide) d4_readComparison_22 rfl (fun c22 => absurd c22 (by decide)) (fun _ => ?_)
      refine g_aload_n d4_readComparison_25 rfl ?_
      refine g_EV0 vm4_wrong ml4_77 c_14 (r4_wrong (I := y.1) f1 y7.2.1.2.1 (Nat.le_refl 0)) (by omega) (Nat.le_of_ble_eq_true rfl) d4_readComparison_26 ?_
      exact g_zret rfl (by decide) d4_readComparison_29 (⟨(_, false), ⟨rfl, y2.tr (FRd.f (by decide) (by decide)), rfl⟩, rfl, rfl⟩)
    · have hs : sg tp t f1 = 60 ∨ sg tp t f1 = 62 ∨ sg tp t f1 = 61 := by
        unfold cmpO at ho
        by_cases z0 : sg tp t f1 = 60 ∨ sg tp t f1 = 62 ∨ sg tp t f1 = 61
        · exact z0
        · exfalso; apply ho; rw [if_neg (fun q => z0 (by omega)), if_neg (fun q => z0 (by omega)), if_neg (fun q => z0 (by omega))]
      have hk0 : kd tp t f1 ≠ 0 := fun z => by unfold sg at hs; rw [if_neg (by omega)] at hs; omega
      have hn1 := nxt_le (tp := tp) y6
      have hn3 := hn1.2.2 hk0
      rw [show rb (.inr (f1, p1, v1)) (fun f1 p1 v1 => if cmpO (sg tp t f1) = 0 then .inl f1 else rb (pz tp t lw n 4 br p1 (nxt tp t f1) v) (fun f2 p2 v2 => .inr (f2, p2, binD (cmpO (sg tp t f1)) v1 v2))) = rb (pz tp t lw n 4 br p1 (nxt tp t f1) v) (fun f2 p2 v2 => .inr (f2, p2, binD (cmpO (sg tp t f1)) v1 v2)) from if_neg ho]
      generalize hsv : sg tp t f1 = s at *
      have hm : sgI 60 62 61 s = nI s := by
        unfold sgI
        repeat' split
        all_goals first | omega | (congr 1; omega) | rfl
      have hso : sO2 s (cmpO s) := by
        unfold sO2 cmpO
        rcases hs with rfl | rfl | rfl <;> decide
      refine g_bnz 9 d4_readComparison_4 rfl (fun _ => ?_) (fun c4 => absurd c4 (fun z => z hb1))
      refine g_aload_n d4_readComparison_9 rfl ?_
      refine g_bipushv (nI 60) d4_readComparison_10 rfl ?_
      refine g_bipushv (nI 62) d4_readComparison_12 rfl ?_
      refine g_bipushv (nI 61) d4_readComparison_14 rfl ?_
      refine g_EV3 vm4_signAmong ml4_127 c_14 (r4_sign (I := y.1) tp t y7.1 f1 y7.2.1 60 62 61 (by decide) (by decide) (by decide) (Nat.le_refl 1)) (by omega) (Nat.le_of_ble_eq_true rfl) d4_readComparison_16 ?_
      refine g_topI (nI s) (by rw [hsv]; exact hm) ?_
      refine g_istore_n d4_readComparison_19 (by decide) ?_
      refine g_iload_n d4_readComparison_20 rfl ?_
      refine g_iconstv ((-1 : Int32)) d4_readComparison_21 rfl ?_
      refine g_ic_ne ((s : Nat) : Int) (-1) 30 (nI_ti (by omega)) (by decide) d4_readComparison_22 rfl (fun _ => ?_) (fun c22 => absurd c22 (by omega))
      refine g_aload_n d4_readComparison_30 rfl ?_
      refine g_get fl4_30 d4_readComparison_31 f_14_0 ?_
      refine g_WV0 vm8_advance ml4_74 c_12 (r8_next (I := y.1) tp t lw b2 p1 br f1 y7 (Nat.le_refl 1)) (by omega) (Nat.le_of_ble_eq_true rfl) d4_readComparison_34 (fun x1 hx => ?_)
      refine g_aload_n d4_readComparison_37 rfl ?_
      refine g_XV0 vm4_readSum ml4_92 c_14 (hK br p1 (nxt tp t f1) v x1 b2 (d - 1) (by omega) hx.2 (by omega) y4 hbr (by omega)) (by omega) (Nat.le_of_ble_eq_true rfl) d4_readComparison_38 (fun w hw => ?_)
      generalize hr2 : pz tp t lw n 4 br p1 (nxt tp t f1) v = r at hw ⊢
      rcases r with e | ⟨f2, p2, v2⟩
      · have hb2 : w.2 = false := hw.1
        refine g_bnz 46 d4_readComparison_41 rfl (fun c41 => absurd c41 (by rw [hb2]; decide)) (fun _ => ?_)
        refine g_iconstv (nI 0) d4_readComparison_44 rfl ?_
        exact g_zret rfl (by decide) d4_readComparison_45 (⟨(w.1, false), RP_no y2 hx.1 hw, rfl, rfl⟩)
      · have hb2 : w.2 = true := hw.1
        obtain ⟨_, w2, w3, w4, w5, w6, b3, w7, w8, w9, w10, w11⟩ := hw
        refine g_bnz 46 d4_readComparison_41 rfl (fun _ => ?_) (fun c41 => absurd c41 (fun z => z hb2))
        refine g_aload_n d4_readComparison_46 rfl ?_
        refine g_iload_n d4_readComparison_47 rfl ?_
        refine g_iconstv (nI 0) d4_readComparison_48 rfl ?_
        refine g_EV2 vm4_add ml4_109 c_14 (r4_add (I := w.1) b3 w7.2.2.2.2.2.1 (by omega) (nI s) (nI 0) (Nat.le_refl 1)) (by omega) (Nat.le_of_ble_eq_true rfl) d4_readComparison_49 ?_
        refine g_pop d4_readComparison_52 rfl ?_
        refine g_iconstv (nI 1) d4_readComparison_53 rfl ?_
        exact g_zret rfl (by decide) d4_readComparison_54 (⟨(JJ w.1 b3 (nI s) (nI 0), true), RP_bin y2 y3 y5 y8 y9 y10 (SC.mono y11 (show dpP br + 2 ≤ dpP br + 3 by omega)) hx.1 hn3 w2 w3 w4 w5 w6 w7 w8 w9 w10 w11 (by omega) hso, rfl, rfl⟩)
theorem notD_2 (v : Den) : notD (notD v) = v := by
  funext env
  show ((v env).map (fun x => 1 - x)).map (fun x => 1 - x) = v env
  cases v env with
  | none => rfl
  | some x =>
    show some (1 - (1 - x)) = some x
    congr 1
    rw [Int64.sub_eq_add_neg 1 (1 - x), Int64.neg_sub, Int64.add_comm, Int64.sub_add_cancel]
def mapN (tb : Bool) (r : Res) : Res := if tb = true then rb r (fun f1 p1 v1 => .inr (f1, p1, notD v1)) else r
theorem mapN_n (tb : Bool) (r : Res) : mapN tb (rb r (fun f1 p1 v1 => .inr (f1, p1, notD v1))) = mapN (!tb) r := by
  cases tb
  · rfl
  · rcases r with e | ⟨f1, p1, v1⟩
    · rfl
    · show (Sum.inr (f1, p1, notD (notD v1)) : Res) = .inr (f1, p1, v1)
      rw [notD_2]
theorem RP_not {I0 I y1 : wI} {tp : Nat → Nat} {t : Nat} {lw : Bool} {b b2 br f0 f f1 p1 dp : Nat} {v1 : Den} (hF : FRd I0 I) (hE : EQs I0 I b) (hf : f0 + 1 ≤ f) (y2 : FRd I y1) (y3 : EQs I y1 b) (y4 : p1 ≤ 50) (y5 : f < f1) (y6 : f1 ≤ t) (y7 : RSt y1 tp t lw b2 p1 br f1) (y8 : b < b2) (y9 : b2 + f ≤ b + f1) (y10 : ∀ k, b ≤ k → k < b2 → OKk y1 k) (y11 : SCI y1 b b2 v1 dp) : RP I0 tp t lw b br f0 dp (.inr (f1, p1, notD v1)) (JJ y1 b2 (nI 2) (nI 0), true) := by
  have s1 : stF (JJ y1 b2 (nI 2) (nI 0)) b2 = 2 := by unfold stF; rw [JJ_19]; rfl
  have s2 : wiF (JJ y1 b2 (nI 2) (nI 0)) b2 = 0 := by unfold wiF; rw [JJ_20]; rfl
  have hop : cop (stF (JJ y1 b2 (nI 2) (nI 0))) (wiF (JJ y1 b2 (nI 2) (nI 0))) b2 = 28 := by unfold cop; rw [s1]; rfl
  refine ⟨rfl, (hF.tr y2).tr JJ_fr, (hE.tr y3).tr (JJ_eq.dn (by omega)), y4, by omega, y6, b2 + 1, JJ_rs y7, by omega, by omega, fun k h1 h2 => ?_, ?_⟩
  · show OKk (JJ y1 b2 (nI 2) (nI 0)) k
    by_cases c2 : k < b2
    · exact (y10 k (by omega) c2).of (JJ_eq k c2).1 (JJ_eq k c2).2
    · obtain rfl : k = b2 := by omega
      refine ⟨by rw [JJ_19, s1], by rw [JJ_20, s2], ?_, fun z => by rw [hop] at z; omega⟩
      unfold vst
      rw [s1, s2]
      exact ⟨by omega, by decide⟩
  · exact SC.not (y11.of (fun k _ h2 => JJ_eq k h2)) hop
