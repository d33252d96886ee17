theorem RP_jmp {I0 I x1 y1 : wI} {tp : Nat → Nat} {t : Nat} {lw : Bool} {b b1 b2 br f0 f fn f1 p1 dp s o : Nat} {v v1 : Den} (a2 : FRd I0 I) (a3 : EQs I0 I b) (a5 : f0 < f) (a8 : b < b1) (a9 : b1 + f0 ≤ b + f) (a10 : ∀ k, b ≤ k → k < b1 → OKk I k) (a11 : SCI I b b1 v dp) (hT : FTk I x1) (hfn : f < fn) (hso : s = 3 ∧ o = 29 ∨ s = 4 ∧ o = 30) (ht4 : t ≤ 400)
    (y2 : FRd (JJ x1 b1 (nI s) (nI 0)) y1) (y3 : EQs (JJ x1 b1 (nI s) (nI 0)) y1 (b1 + 1)) (y4 : p1 ≤ 50) (y5 : fn < f1) (y6 : f1 ≤ t) (y7 : RSt y1 tp t lw b2 p1 br f1) (y8 : b1 + 1 < b2) (y9 : b2 + fn ≤ b1 + 1 + f1) (hbf : b ≤ f0) (y10 : ∀ k, b1 + 1 ≤ k → k < b2 → OKk y1 k) (y11 : SCI y1 (b1 + 1) b2 v1 dp) : RP I0 tp t lw b br f0 dp (.inr (f1, p1, jmpD o v v1)) (uI y1 20 b1 (nI b2), true) := by
  have e19 : uI y1 20 b1 (nI b2) 19 = y1 19 := uI_n (by decide)
  have j19 : y1 19 b1 = nI s := by rw [(y3 b1 (by omega)).1, JJ_19]
  have s1 : stF (uI y1 20 b1 (nI b2)) b1 = s := by unfold stF; rw [e19, j19, nI_clamp (by omega)]
  have s2 : wiF (uI y1 20 b1 (nI b2)) b1 = b2 := by unfold wiF; rw [uI_ss, nI_clamp (by omega)]
  have hop : cop (stF (uI y1 20 b1 (nI b2))) (wiF (uI y1 20 b1 (nI b2))) b1 = o := by
    unfold cop; rw [s1]
    rcases hso with ⟨rfl, rfl⟩ | ⟨rfl, rfl⟩ <;> rfl
  have harg : carg (stF (uI y1 20 b1 (nI b2))) (wiF (uI y1 20 b1 (nI b2))) b1 = b2 := by
    unfold carg; rw [s1, s2, if_neg (by omega)]
  have e1 : EQs I (uI y1 20 b1 (nI b2)) b1 := fun k hk => by
    have q1 := (y3 k (by omega))
    have q2 := JJ_eq (I := x1) (b := b1) (s := nI s) (w := nI 0) k hk
    have q3 := EQs.tk (b := b1) hT k hk
    exact ⟨by show uI y1 20 b1 (nI b2) 19 k = _; rw [e19, q1.1, q2.1, q3.1], by show uI y1 20 b1 (nI b2) 20 k = _; rw [uI_sn (by omega), q1.2, q2.2, q3.2]⟩
  have e2 : ∀ k, b1 + 1 ≤ k → uI y1 20 b1 (nI b2) 19 k = y1 19 k ∧ uI y1 20 b1 (nI b2) 20 k = y1 20 k := fun k hk => ⟨by rw [e19], uI_sn (by omega)⟩
  refine ⟨rfl, (((a2.tr (FRd.tk hT)).tr JJ_fr).tr y2).tr FRd.w, a3.tr (e1.dn (by omega)), y4, by omega, y6, b2, ⟨y7.1, y7.2.1, y7.2.2.1, y7.2.2.2.1, y7.2.2.2.2.1, y7.2.2.2.2.2⟩, by omega, by omega, fun k h1 h2 => ?_, ?_⟩
  · show OKk (uI y1 20 b1 (nI b2)) k
    by_cases c1 : k < b1
    · exact (a10 k h1 c1).of (e1 k c1).1 (e1 k c1).2
    · by_cases c2 : k = b1
      · subst c2
        refine ⟨by rw [e19, j19, s1], by rw [uI_ss, s2], ?_, fun _ => by rw [s2]; omega⟩
        unfold vst
        rw [s1, s2]
        exact ⟨by omega, by omega⟩
      · exact (y10 k (by omega) h2).of (e2 k (by omega)).1 (e2 k (by omega)).2
  · have g1 : SCI (uI y1 20 b1 (nI b2)) b b1 v dp := a11.of (fun k _ h2 => e1 k h2)
    have g2 : SCI (uI y1 20 b1 (nI b2)) (b1 + 1) b2 v1 dp := y11.of (fun k h1 _ => e2 k h1)
    have g3 := SC.jmp g1 g2 (by rw [hop]; omega) harg
    rw [hop] at g3
    exact g3
def LPboth (l : Launch) (K : cK) (L : wL) (R : wR) (dy : cH) (tp : Nat → Nat) (t : Nat) (lw : Bool) (n : Nat) : Prop := ∀ (br pa f f0 : Nat) (v : Den) (I0 I : wI) (b d cn_ : Nat), 8 * (t - f) + 1 ≤ n → RP I0 tp t lw b br f0 (dpP br + 3) (.inr (f, pa, v)) (I, true) → b ≤ f0 → br ≤ 8 → cn_ ≤ f → 12 + 8 * (8 - br) ≤ d → GL l K m4_readBoth d 0 0 11 [(0, .ref 14), (1, .int (nI cn_))] [] (hp I L R dy) (fun r h => ∃ q : wI × Bool, RP I0 tp t lw b br f0 (dpP br + 3) (pz tp t lw n 8 br pa f v) q ∧ r = some (.int (if q.2 = true then 1 else 0)) ∧ h = hp q.1 L R dy)
set_option maxHeartbeats 1000000 in
theorem r4_Lboth {l : Launch} {K : cK} {L : wL} {R : wR} {dy : cH} {tp : Nat → Nat} {t : Nat} {lw : Bool} {n : Nat} (hK : KR l K L R dy tp t lw m4_readPlain 2 5 11 3 n) (hL : LPboth l K L R dy tp t lw n) : LPboth l K L R dy tp t lw (n + 1) := by
  intro br pa f f0 v I0 I b d cn_ hn h0 hbf hbr hcn hd
  have h00 := id h0
  obtain ⟨_, a2, a3, a4, a5, a6, b1, a7, a8, a9, a10, a11⟩ := h0
  have ht4 := a7.1.1
  by_cases ho : iw tp t f 1476
  · have hk0 : kd tp t f ≠ 0 := by have := ho.1; omega
    have hn1 := nxt_le (tp := tp) a6
    have hn3 := hn1.2.2 hk0
    have hft := kd_lt hk0
    rw [show pz tp t lw (n + 1) 8 br pa f v = rb (pz tp t lw n 2 br pa (nxt tp t f) v) (fun f1 p1 v1 => pz tp t lw n 8 br p1 f1 (jmpD 29 v v1)) from if_pos ho]
    refine g_iload_n d4_readBoth_11 rfl ?_
    refine g_sipushv (nI 400) d4_readBoth_12 rfl ?_
    refine g_ic_ge ((cn_ : Nat) : Int) (400) 69 (nI_ti (by omega)) (by decide) d4_readBoth_15 rfl (fun c15 => absurd c15 (by omega)) (fun _ => ?_)
    refine g_aload_n d4_readBoth_18 rfl ?_
    refine g_get fl4_30 d4_readBoth_19 f_14_0 ?_
    refine g_ldcS (i := 3) (by decide) rfl rfl d4_readBoth_22 ?_
    refine g_EV1 vm8_isWord ml4_97 c_12 (r8_isWord tp t a7.1 f a7.2.1 3 (by decide) wrd_one.2.1 (Nat.le_refl 6)) (by omega) (Nat.le_of_ble_eq_true rfl) d4_readBoth_24 ?_
    refine g_bz 69 d4_readBoth_27 rfl (fun c27 => absurd c27 (fun z => z (wrd_if3.2 ho))) (fun _ => ?_)
    refine g_aload_n d4_readBoth_30 rfl ?_
    refine g_get fl4_30 d4_readBoth_31 f_14_0 ?_
    refine g_WV0 vm8_advance ml4_74 c_12 (r8_next tp t lw b1 pa br f a7 (Nat.le_refl 1)) (by omega) (Nat.le_of_ble_eq_true rfl) d4_readBoth_34 (fun x1 hx => ?_)
    refine g_aload_n d4_readBoth_37 rfl ?_
    refine g_iconstv (nI 3) d4_readBoth_38 rfl ?_
    refine g_iconstv (nI 0) d4_readBoth_39 rfl ?_
    refine g_EV2 vm4_add ml4_109 c_14 (r4_add (I := x1) b1 hx.2.2.2.2.2.2.1 (by omega) (nI 3) (nI 0) (Nat.le_refl 1)) (by omega) (Nat.le_of_ble_eq_true rfl) d4_readBoth_40 ?_
    refine g_istore_n d4_readBoth_43 (by decide) ?_
    refine g_aload_n d4_readBoth_44 rfl ?_
    refine g_XV0 vm4_readPlain ml4_113 c_14 (hK br pa (nxt tp t f) v (JJ x1 b1 (nI 3) (nI 0)) (b1 + 1) (d - 1) (by omega) (JJ_rs hx.2) (by omega) a4 hbr (by omega)) (by omega) (Nat.le_of_ble_eq_true rfl) d4_readBoth_45 (fun y hy => ?_)
    generalize hr : pz tp t lw n 2 br pa (nxt tp t f) v = r at hy ⊢
    rcases r with e | ⟨f1, p1, v1⟩
    · have hb1 : y.2 = false := hy.1
      refine g_bnz 53 d4_readBoth_48 rfl (fun c48 => absurd c48 (by rw [hb1]; decide)) (fun _ => ?_)
      refine g_iconstv (nI 0) d4_readBoth_51 rfl ?_
      exact g_zret rfl (by decide) d4_readBoth_52 (⟨(y.1, false), ⟨rfl, ((a2.tr (FRd.tk hx.1)).tr JJ_fr).tr hy.2.1, hy.2.2⟩, rfl, rfl⟩)
    · have hb1 : y.2 = true := hy.1
      obtain ⟨_, y2, y3, y4, y5, y6, b2, y7, y8, y9, y10, y11⟩ := hy
      refine g_bnz 53 d4_readBoth_48 rfl (fun _ => ?_) (fun c48 => absurd c48 (fun z => z hb1))
      refine g_aload_n d4_readBoth_53 rfl ?_
      refine g_get fl4_27 d4_readBoth_54 f_14_12 ?_
      refine g_iload_n d4_readBoth_57 rfl ?_
      refine g_aload_n d4_readBoth_58 rfl ?_
      refine g_get fl4_51 d4_readBoth_59 f_14_10 ?_
      refine g_topI (nI (b2)) (y7.2.2.2.2.2.1) ?_
      refine g_iastN (b1) _ d4_readBoth_62 a_20 (rfl) (by omega) (by decide) t_20 ?_
      refine g_iincN d4_readBoth_63 rfl (by decide) ?_
      refine g_goto 11 d4_readBoth_66 rfl ?_
      refine g_lo [(0, .ref 14), (1, .int (nI (cn_ + 1)))] ⟨rfl, rfl, trivial⟩ ?_
      exact hL br p1 f1 f0 (jmpD 29 v v1) I0 (uI y.1 20 b1 (nI b2)) b d (cn_ + 1) (by omega) (RP_jmp a2 a3 a5 a8 a9 a10 a11 hx.1 hn3 (by omega) ht4 y2 y3 y4 y5 y6 y7 y8 y9 hbf y10 y11) hbf hbr (by omega) hd
  · rw [show pz tp t lw (n + 1) 8 br pa f v = .inr (f, pa, v) from if_neg ho]
    by_cases h4 : cn_ < 400
    · skip
      refine g_iload_n d4_readBoth_11 rfl ?_
      refine g_sipushv (nI 400) d4_readBoth_12 rfl ?_
      refine g_ic_ge ((cn_ : Nat) : Int) (400) 69 (nI_ti (by omega)) (by decide) d4_readBoth_15 rfl (fun c15 => absurd c15 (by omega)) (fun _ => ?_)
      refine g_aload_n d4_readBoth_18 rfl ?_
      refine g_get fl4_30 d4_readBoth_19 f_14_0 ?_
      refine g_ldcS (i := 3) (by decide) rfl rfl d4_readBoth_22 ?_
      refine g_EV1 vm8_isWord ml4_97 c_12 (r8_isWord tp t a7.1 f a7.2.1 3 (by decide) wrd_one.2.1 (Nat.le_refl 6)) (by omega) (Nat.le_of_ble_eq_true rfl) d4_readBoth_24 ?_
      refine g_bz 69 d4_readBoth_27 rfl (fun _ => ?_) (fun c27 => absurd c27 (fun z => ho (wrd_if3.1 z)))
      refine g_iconstv (nI 1) d4_readBoth_69 rfl ?_
      exact g_zret rfl (by decide) d4_readBoth_70 (⟨(I, true), h00, rfl, rfl⟩)
    · skip
      refine g_iload_n d4_readBoth_11 rfl ?_
      refine g_sipushv (nI 400) d4_readBoth_12 rfl ?_
      refine g_ic_ge ((cn_ : Nat) : Int) (400) 69 (nI_ti (by omega)) (by decide) d4_readBoth_15 rfl (fun _ => ?_) (fun c15 => absurd c15 (by omega))
      refine g_iconstv (nI 1) d4_readBoth_69 rfl ?_
      exact g_zret rfl (by decide) d4_readBoth_70 (⟨(I, true), h00, rfl, rfl⟩)
set_option maxHeartbeats 1000000 in
theorem r4_both {l : Launch} {K : cK} {L : wL} {R : wR} {dy : cH} {tp : Nat → Nat} {t : Nat} {lw : Bool} {n : Nat} (hK : KR l K L R dy tp t lw m4_readPlain 2 5 11 3 n) (hL : LPboth l K L R dy tp t lw n) : KR l K L R dy tp t lw m4_readBoth 1 6 12 3 (n + 1) := by
  intro br pa f v I b d hn hS hbf hpa hbr hd
  have hfl := hS.2.1.1
  rw [show pz tp t lw (n + 1) 1 br pa f v = rb (pz tp t lw n 2 br pa f v) (fun f1 p1 v1 => pz tp t lw n 8 br p1 f1 v1) from rfl]
  refine CC.of ok4_readBoth (Nat.le_of_ble_eq_true rfl) ?_
  refine g_aload_n d4_readBoth_0 rfl ?_
  refine g_XV0 vm4_readPlain ml4_113 c_14 (hK br pa f v I b (d - 1) (by omega) hS hbf hpa hbr (by omega)) (by omega) (Nat.le_of_ble_eq_true rfl) d4_readBoth_1 (fun y hy => ?_)
  generalize hr : pz tp t lw n 2 br pa f v = r at hy ⊢
  rcases r with e | ⟨f1, p1, v1⟩
  · have hb1 : y.2 = false := hy.1
    refine g_bnz 9 d4_readBoth_4 rfl (fun c4 => absurd c4 (by rw [hb1]; decide)) (fun _ => ?_)
    refine g_iconstv (nI 0) d4_readBoth_7 rfl ?_
    exact g_zret rfl (by decide) d4_readBoth_8 (⟨(y.1, false), ⟨rfl, hy.2.1, hy.2.2⟩, rfl, rfl⟩)
  · have hb1 : y.2 = true := hy.1
    have hy0 : RP I tp t lw b br f (dpP br + 3) (.inr (f1, p1, v1)) (y.1, true) := by
      have h9 := id hy
      rw [show y = (y.1, true) from by rw [← hb1]] at h9
      exact h9
    obtain ⟨_, y2, y3, y4, y5, y6, b2, y7, y8, y9, y10, y11⟩ := hy
    refine g_bnz 9 d4_readBoth_4 rfl (fun _ => ?_) (fun c4 => absurd c4 (fun z => z hb1))
    refine g_iconstv (nI 0) d4_readBoth_9 rfl ?_
    refine g_istore_n d4_readBoth_10 (by decide) ?_
    refine g_lo [(0, .ref 14), (1, .int (nI 0))] ⟨rfl, rfl, trivial⟩ ?_
    exact hL br p1 f1 f v1 I y.1 b d 0 (by omega) hy0 hbf hbr (Nat.zero_le _) hd
def LPtest (l : Launch) (K : cK) (L : wL) (R : wR) (dy : cH) (tp : Nat → Nat) (t : Nat) (lw : Bool) (n : Nat) : Prop := ∀ (br pa f f0 : Nat) (v : Den) (I0 I : wI) (b d cn_ : Nat), 8 * (t - f) + 1 ≤ n → RP I0 tp t lw b br f0 (dpP br + 3) (.inr (f, pa, v)) (I, true) → b ≤ f0 → br ≤ 8 → cn_ ≤ f → 13 + 8 * (8 - br) ≤ d → GL l K m4_readTest d 0 0 11 [(0, .ref 14), (1, .int (nI cn_))] [] (hp I L R dy) (fun r h => ∃ q : wI × Bool, RP I0 tp t lw b br f0 (dpP br + 3) (pz tp t lw n 7 br pa f v) q ∧ r = some (.int (if q.2 = true then 1 else 0)) ∧ h = hp q.1 L R dy)
set_option maxHeartbeats 1000000 in
theorem r4_Ltest {l : Launch} {K : cK} {L : wL} {R : wR} {dy : cH} {tp : Nat → Nat} {t : Nat} {lw : Bool} {n : Nat} (hK : KR l K L R dy tp t lw m4_readBoth 1 6 12 3 n) (hL : LPtest l K L R dy tp t lw n) : LPtest l K L R dy tp t lw (n + 1) := by
  intro br pa f f0 v I0 I b d cn_ hn h0 hbf hbr hcn hd
  have h00 := id h0
  obtain ⟨_, a2, a3, a4, a5, a6, b1, a7, a8, a9, a10, a11⟩ := h0
  have ht4 := a7.1.1
  by_cases ho : iw tp t f 498
  · have hk0 : kd tp t f ≠ 0 := by have := ho.1; omega
    have hn1 := nxt_le (tp := tp) a6
    have hn3 := hn1.2.2 hk0
    have hft := kd_lt hk0
    rw [show pz tp t lw (n + 1) 7 br pa f v = rb (pz tp t lw n 1 br pa (nxt tp t f) v) (fun f1 p1 v1 => pz tp t lw n 7 br p1 f1 (jmpD 30 v v1)) from if_pos ho]
    refine g_iload_n d4_readTest_11 rfl ?_
    refine g_sipushv (nI 400) d4_readTest_12 rfl ?_
    refine g_ic_ge ((cn_ : Nat) : Int) (400) 69 (nI_ti (by omega)) (by decide) d4_readTest_15 rfl (fun c15 => absurd c15 (by omega)) (fun _ => ?_)
    refine g_aload_n d4_readTest_18 rfl ?_
    refine g_get fl4_30 d4_readTest_19 f_14_0 ?_
    refine g_ldcS (i := 4) (by decide) rfl rfl d4_readTest_22 ?_
    refine g_EV1 vm8_isWord ml4_97 c_12 (r8_isWord tp t a7.1 f a7.2.1 4 (by decide) wrd_one.2.2.1 (Nat.le_refl 6)) (by omega) (Nat.le_of_ble_eq_true rfl) d4_readTest_24 ?_
    refine g_bz 69 d4_readTest_27 rfl (fun c27 => absurd c27 (fun z => z (wrd_if4.2 ho))) (fun _ => ?_)
    refine g_aload_n d4_readTest_30 rfl ?_
    refine g_get fl4_30 d4_readTest_31 f_14_0 ?_
    refine g_WV0 vm8_advance ml4_74 c_12 (r8_next tp t lw b1 pa br f a7 (Nat.le_refl 1)) (by omega) (Nat.le_of_ble_eq_true rfl) d4_readTest_34 (fun x1 hx => ?_)
    refine g_aload_n d4_readTest_37 rfl ?_
    refine g_iconstv (nI 4) d4_readTest_38 rfl ?_
    refine g_iconstv (nI 0) d4_readTest_39 rfl ?_
    refine g_EV2 vm4_add ml4_109 c_14 (r4_add (I := x1) b1 hx.2.2.2.2.2.2.1 (by omega) (nI 4) (nI 0) (Nat.le_refl 1)) (by omega) (Nat.le_of_ble_eq_true rfl) d4_readTest_40 ?_
    refine g_istore_n d4_readTest_43 (by decide) ?_
    refine g_aload_n d4_readTest_44 rfl ?_
    refine g_XV0 vm4_readBoth ml4_104 c_14 (hK br pa (nxt tp t f) v (JJ x1 b1 (nI 4) (nI 0)) (b1 + 1) (d - 1) (by omega) (JJ_rs hx.2) (by omega) a4 hbr (by omega)) (by omega) (Nat.le_of_ble_eq_true rfl) d4_readTest_45 (fun y hy => ?_)
    generalize hr : pz tp t lw n 1 br pa (nxt tp t f) v = r at hy ⊢
    rcases r with e | ⟨f1, p1, v1⟩
    · have hb1 : y.2 = false := hy.1
      refine g_bnz 53 d4_readTest_48 rfl (fun c48 => absurd c48 (by rw [hb1]; decide)) (fun _ => ?_)
      refine g_iconstv (nI 0) d4_readTest_51 rfl ?_
      exact g_zret rfl (by decide) d4_readTest_52 (⟨(y.1, false), ⟨rfl, ((a2.tr (FRd.tk hx.1)).tr JJ_fr).tr hy.2.1, hy.2.2⟩, rfl, rfl⟩)
    · have hb1 : y.2 = true := hy.1
      obtain ⟨_, y2, y3, y4, y5, y6, b2, y7, y8, y9, y10, y11⟩ := hy
      refine g_bnz 53 d4_readTest_48 rfl (fun _ => ?_) (fun c48 => absurd c48 (fun z => z hb1))
      refine g_aload_n d4_readTest_53 rfl ?_
      refine g_get fl4_27 d4_readTest_54 f_14_12 ?_
      refine g_iload_n d4_readTest_57 rfl ?_
      refine g_aload_n d4_readTest_58 rfl ?_
      refine g_get fl4_51 d4_readTest_59 f_14_10 ?_
      refine g_topI (nI (b2)) (y7.2.2.2.2.2.1) ?_
      refine g_iastN (b1) _ d4_readTest_62 a_20 (rfl) (by omega) (by decide) t_20 ?_
      refine g_iincN d4_readTest_63 rfl (by decide) ?_
      refine g_goto 11 d4_readTest_66 rfl ?_
      refine g_lo [(0, .ref 14), (1, .int (nI (cn_ + 1)))] ⟨rfl, rfl, trivial⟩ ?_
      exact hL br p1 f1 f0 (jmpD 30 v v1) I0 (uI y.1 20 b1 (nI b2)) b d (cn_ + 1) (by omega) (RP_jmp a2 a3 a5 a8 a9 a10 a11 hx.1 hn3 (by omega) ht4 y2 y3 y4 y5 y6 y7 y8 y9 hbf y10 y11) hbf hbr (by omega) hd
  · rw [show pz tp t lw (n + 1) 7 br pa f v = .inr (f, pa, v) from if_neg ho]
    by_cases h4 : cn_ < 400
    · skip
      refine g_iload_n d4_readTest_11 rfl ?_
      refine g_sipushv (nI 400) d4_readTest_12 rfl ?_
      refine g_ic_ge ((cn_ : Nat) : Int) (400) 69 (nI_ti (by omega)) (by decide) d4_readTest_15 rfl (fun c15 => absurd c15 (by omega)) (fun _ => ?_)
      refine g_aload_n d4_readTest_18 rfl ?_
      refine g_get fl4_30 d4_readTest_19 f_14_0 ?_
      refine g_ldcS (i := 4) (by decide) rfl rfl d4_readTest_22 ?_
      refine g_EV1 vm8_isWord ml4_97 c_12 (r8_isWord tp t a7.1 f a7.2.1 4 (by decide) wrd_one.2.2.1 (Nat.le_refl 6)) (by omega) (Nat.le_of_ble_eq_true rfl) d4_readTest_24 ?_
      refine g_bz 69 d4_readTest_27 rfl (fun _ => ?_) (fun c27 => absurd c27 (fun z => ho (wrd_if4.1 z)))
      refine g_iconstv (nI 1) d4_readTest_69 rfl ?_
      exact g_zret rfl (by decide) d4_readTest_70 (⟨(I, true), h00, rfl, rfl⟩)
    · skip
      refine g_iload_n d4_readTest_11 rfl ?_
      refine g_sipushv (nI 400) d4_readTest_12 rfl ?_
      refine g_ic_ge ((cn_ : Nat) : Int) (400) 69 (nI_ti (by omega)) (by decide) d4_readTest_15 rfl (fun _ => ?_) (fun c15 => absurd c15 (by omega))
      refine g_iconstv (nI 1) d4_readTest_69 rfl ?_
      exact g_zret rfl (by decide) d4_readTest_70 (⟨(I, true), h00, rfl, rfl⟩)
set_option maxHeartbeats 1000000 in
theorem r4_test {l : Launch} {K : cK} {L : wL} {R : wR} {dy : cH} {tp : Nat → Nat} {t : Nat} {lw : Bool} {n : Nat} (hK : KR l K L R dy tp t lw m4_readBoth 1 6 12 3 n) (hL : LPtest l K L R dy tp t lw n) : KR l K L R dy tp t lw m4_readTest 0 7 13 3 (n + 1) := by
  intro br pa f v I b d hn hS hbf hpa hbr hd
  have hfl := hS.2.1.1
  rw [show pz tp t lw (n + 1) 0 br pa f v = rb (pz tp t lw n 1 br pa f v) (fun f1 p1 v1 => pz tp t lw n 7 br p1 f1 v1) from rfl]
  refine CC.of ok4_readTest (Nat.le_of_ble_eq_true rfl) ?_
  refine g_aload_n d4_readTest_0 rfl ?_
  refine g_XV0 vm4_readBoth ml4_104 c_14 (hK br pa f v I b (d - 1) (by omega) hS hbf hpa hbr (by omega)) (by omega) (Nat.le_of_ble_eq_true rfl) d4_readTest_1 (fun y hy => ?_)
  generalize hr : pz tp t lw n 1 br pa f v = r at hy ⊢
  rcases r with e | ⟨f1, p1, v1⟩
  · have hb1 : y.2 = false := hy.1
    refine g_bnz 9 d4_readTest_4 rfl (fun c4 => absurd c4 (by rw [hb1]; decide)) (fun _ => ?_)
    refine g_iconstv (nI 0) d4_readTest_7 rfl ?_
    exact g_zret rfl (by decide) d4_readTest_8 (⟨(y.1, false), ⟨rfl, hy.2.1, hy.2.2⟩, rfl, rfl⟩)
  · have hb1 : y.2 = true := hy.1
    have hy0 : RP I tp t lw b br f (dpP br + 3) (.inr (f1, p1, v1)) (y.1, true) := by
      have h9 := id hy
      rw [show y = (y.1, true) from by rw [← hb1]] at h9
      exact h9
    obtain ⟨_, y2, y3, y4, y5, y6, b2, y7, y8, y9, y10, y11⟩ := hy
    refine g_bnz 9 d4_readTest_4 rfl (fun _ => ?_) (fun c4 => absurd c4 (fun z => z hb1))
    refine g_iconstv (nI 0) d4_readTest_9 rfl ?_
    refine g_istore_n d4_readTest_10 (by decide) ?_
    refine g_lo [(0, .ref 14), (1, .int (nI 0))] ⟨rfl, rfl, trivial⟩ ?_
    exact hL br p1 f1 f v1 I y.1 b d 0 (by omega) hy0 hbf hbr (Nat.zero_le _) hd
