theorem wrd_one {tp : Nat → Nat} {t f : Nat} : (wrd tp t f 2 = none ∨ wrd tp t f 2 = some 0) ∧ (wrd tp t f 3 = none ∨ wrd tp t f 3 = some 0) ∧ (wrd tp t f 4 = none ∨ wrd tp t f 4 = some 0) ∧ (wrd tp t f 7 = none ∨ wrd tp t f 7 = some 0) := by
  rw [wrd_2, wrd_3, wrd_4, wrd_7]
  refine ⟨?_, ?_, ?_, ?_⟩ <;> split <;> first | exact Or.inr rfl | exact Or.inl rfl
theorem wrd_if2 {tp : Nat → Nat} {t f : Nat} : wrd tp t f 2 = some 0 ↔ iw tp t f 14836 := by
  rw [wrd_2]; by_cases h : iw tp t f 14836
  · rw [if_pos h]; exact ⟨fun _ => h, fun _ => rfl⟩
  · rw [if_neg h]; exact ⟨fun z => (by cases z), fun z => absurd z h⟩
theorem wrd_if3 {tp : Nat → Nat} {t f : Nat} : wrd tp t f 3 = some 0 ↔ iw tp t f 1476 := by
  rw [wrd_3]; by_cases h : iw tp t f 1476
  · rw [if_pos h]; exact ⟨fun _ => h, fun _ => rfl⟩
  · rw [if_neg h]; exact ⟨fun z => (by cases z), fun z => absurd z h⟩
theorem wrd_if4 {tp : Nat → Nat} {t f : Nat} : wrd tp t f 4 = some 0 ↔ iw tp t f 498 := by
  rw [wrd_4]; by_cases h : iw tp t f 498
  · rw [if_pos h]; exact ⟨fun _ => h, fun _ => rfl⟩
  · rw [if_neg h]; exact ⟨fun z => (by cases z), fun z => absurd z h⟩
theorem wrd_if7 {tp : Nat → Nat} {t f : Nat} : wrd tp t f 7 = some 0 ↔ iw tp t f 294 := by
  rw [wrd_7]; by_cases h : iw tp t f 294
  · rw [if_pos h]; exact ⟨fun _ => h, fun _ => rfl⟩
  · rw [if_neg h]; exact ⟨fun z => (by cases z), fun z => absurd z h⟩
def NL (l : Launch) (K : cK) (L : wL) (R : wR) (dy : cH) (tp : Nat → Nat) (t : Nat) (lw : Bool) (n : Nat) : Prop := ∀ (br pa f f0 : Nat) (v : Den) (I0 I : wI) (b d cn_ : Nat) (tb : Bool), 8 * (t - f) + 5 ≤ n → FRd I0 I → EQs I0 I b → RSt I tp t lw b pa br f → b + bN tb ≤ f → f0 + bN tb ≤ f → pa ≤ 50 → br ≤ 8 → cn_ ≤ f → 11 + 8 * (8 - br) ≤ d → GL l K m4_readPlain d 0 0 4 [(0, .ref 14), (1, .int (nI (bN tb))), (2, .int (nI cn_))] [] (hp I L R dy) (fun r h => ∃ q : wI × Bool, RP I0 tp t lw b br f0 (dpP br + 3) (mapN tb (pz tp t lw n 2 br pa f v)) q ∧ r = some (.int (if q.2 = true then 1 else 0)) ∧ h = hp q.1 L R dy)
theorem bN_le (tb : Bool) : bN tb ≤ 1 := by cases tb <;> decide
theorem bN_not (tb : Bool) : bN (!tb) = 1 - bN tb := by cases tb <;> rfl
/-- behind what a plain test holds -/
theorem r4_pl2 {l : Launch} {K : cK} {L : wL} {R : wR} {dy : cH} {tp : Nat → Nat} {t : Nat} {lw : Bool} {I0 I : wI} {b br f f0 d : Nat} (tb : Bool) (ht4 : t ≤ 400) (hF : FRd I0 I) (hE : EQs I0 I b) (hbf : b + bN tb ≤ f) (hf0 : f0 + bN tb ≤ f) (hd : 2 ≤ d) (r : Res) (y : wI × Bool) (hy : RP I tp t lw b br f (dpP br + 3) r y) : GL l K m4_readPlain d 0 0 73 [(0, .ref 14), (1, .int (nI (bN tb)))] [.int (if y.2 = true then 1 else 0)] (hp y.1 L R dy) (fun z h => ∃ q : wI × Bool, RP I0 tp t lw b br f0 (dpP br + 3) (mapN tb r) q ∧ z = some (.int (if q.2 = true then 1 else 0)) ∧ h = hp q.1 L R dy) := by
  rcases r with e | ⟨f1, p1, v1⟩
  · have hb1 : y.2 = false := hy.1
    have hq : RP I0 tp t lw b br f0 (dpP br + 3) (mapN tb (.inl e)) y := by cases tb <;> exact ⟨hb1, hF.tr hy.2.1, hy.2.2⟩
    refine g_istore_n d4_readPlain_73 (by decide) ?_
    refine g_iload_n d4_readPlain_74 rfl ?_
    refine g_bz 89 d4_readPlain_75 rfl (fun _ => ?_) (fun c75 => absurd c75 (by rw [hb1]; decide))
    refine g_iload_n d4_readPlain_89 rfl ?_
    exact g_zret rfl (b01 _) d4_readPlain_90 (⟨y, hq, rfl, rfl⟩)
  · have hb1 : y.2 = true := hy.1
    have hy0 := id hy
    obtain ⟨_, y2, y3, y4, y5, y6, b2, y7, y8, y9, y10, y11⟩ := hy
    cases tb
    · skip
      refine g_istore_n d4_readPlain_73 (by decide) ?_
      refine g_iload_n d4_readPlain_74 rfl ?_
      refine g_bz 89 d4_readPlain_75 rfl (fun c75 => absurd c75 (fun z => z hb1)) (fun _ => ?_)
      refine g_iload_n d4_readPlain_78 rfl ?_
      refine g_iz_eq (0) 89 (by decide) d4_readPlain_79 rfl (fun _ => ?_) (fun c79 => absurd c79 (by decide))
      refine g_iload_n d4_readPlain_89 rfl ?_
      exact g_zret rfl (b01 _) d4_readPlain_90 (⟨y, hy0.st hF hE (by unfold bN at hf0; omega) (Nat.le_refl _), rfl, rfl⟩)
    · have h1 : bN true = 1 := rfl
      rw [h1] at hbf hf0
      refine g_istore_n d4_readPlain_73 (by decide) ?_
      refine g_iload_n d4_readPlain_74 rfl ?_
      refine g_bz 89 d4_readPlain_75 rfl (fun c75 => absurd c75 (fun z => z hb1)) (fun _ => ?_)
      refine g_iload_n d4_readPlain_78 rfl ?_
      refine g_iz_eq (1) 89 (by decide) d4_readPlain_79 rfl (fun c79 => absurd c79 (by decide)) (fun _ => ?_)
      refine g_aload_n d4_readPlain_82 rfl ?_
      refine g_iconstv (nI 2) d4_readPlain_83 rfl ?_
      refine g_iconstv (nI 0) d4_readPlain_84 rfl ?_
      refine g_EV2 vm4_add ml4_109 c_14 (r4_add (I := y.1) b2 y7.2.2.2.2.2.1 (by omega) (nI 2) (nI 0) (Nat.le_refl 1)) (by omega) (Nat.le_of_ble_eq_true rfl) d4_readPlain_85 ?_
      refine g_pop d4_readPlain_88 rfl ?_
      refine g_iload_n d4_readPlain_89 rfl ?_
      exact g_zret rfl (b01 _) d4_readPlain_90 (⟨(JJ y.1 b2 (nI 2) (nI 0), true), RP_not hF hE hf0 y2 y3 y4 y5 y6 y7 y8 y9 y10 y11, by rw [if_pos hb1]; rfl, rfl⟩)
set_option maxHeartbeats 1000000 in
theorem r4_NL {l : Launch} {K : cK} {L : wL} {R : wR} {dy : cH} {tp : Nat → Nat} {t : Nat} {lw : Bool} {n : Nat} (hC : KR l K L R dy tp t lw m4_readComparison 3 4 10 3 n) (hT : KR l K L R dy tp t lw m4_readTest 0 7 13 3 n) (hL : NL l K L R dy tp t lw n) : NL l K L R dy tp t lw (n + 1) := by
  intro br pa f f0 v I0 I b d cn_ tb hn hF hE hS hbf hf0 hpa hbr hcn hd
  have ht4 := hS.1.1
  have hft0 := hS.2.1.1
  have hbl := bN_le tb
  have hb0 : bN false = 0 := rfl
  have hb1_ : bN true = 1 := rfl
  have hbase : ¬ iw tp t f 14836 → GL l K m4_readPlain d 0 0 46 [(0, .ref 14), (1, .int (nI (bN tb)))] [] (hp I L R dy) (fun r h => ∃ q : wI × Bool, RP I0 tp t lw b br f0 (dpP br + 3) (mapN tb (pz tp t lw (n + 1) 2 br pa f v)) q ∧ r = some (.int (if q.2 = true then 1 else 0)) ∧ h = hp q.1 L R dy) := fun hni => by
    by_cases hsg : sg tp t f = 40
    · have hk0 : kd tp t f ≠ 0 := fun z => by unfold sg at hsg; rw [if_neg (by omega)] at hsg; omega
      have hft := kd_lt hk0
      by_cases hb8 : br < 8
      · rw [show pz tp t lw (n + 1) 2 br pa f v = brR tp t 41 (pz tp t lw n 0 (br + 1) pa (nxt tp t f) v) from by show (if _ then _ else _) = _; rw [if_neg hni, if_pos hsg, if_pos hb8]; rfl]
        refine g_aload_n d4_readPlain_46 rfl ?_
        refine g_get fl4_30 d4_readPlain_47 f_14_0 ?_
        refine g_bipushv (nI 40) d4_readPlain_50 rfl ?_
        refine g_EV1 vm8_isSign ml4_71 c_12 (r8_isSign tp t hS.1 f hS.2.1 40 (by decide) (by decide) (Nat.le_refl 0)) (by omega) (Nat.le_of_ble_eq_true rfl) d4_readPlain_52 ?_
        refine g_bz 69 d4_readPlain_55 rfl (fun c55 => absurd c55 (fun z => z hsg)) (fun _ => ?_)
        refine g_aload_n d4_readPlain_58 rfl ?_
        refine g_bipushv (nI 40) d4_readPlain_59 rfl ?_
        refine g_bipushv (nI 41) d4_readPlain_61 rfl ?_
        refine g_XV2 vm4_readBracketed ml4_120 c_14 (r4_brk_t hT br pa f v b (by omega) hS (by omega) hpa hb8 hk0 hft (d := d - 1) (by omega)) (by omega) (Nat.le_of_ble_eq_true rfl) d4_readPlain_63 (fun y hy => ?_)
        refine g_goto 73 d4_readPlain_66 rfl ?_
        refine g_lo [(0, .ref 14), (1, .int (nI (bN tb)))] ⟨rfl, rfl, trivial⟩ ?_
        exact r4_pl2 tb ht4 hF hE hbf hf0 (by omega) _ y (hy.st FRd.rf EQs.rf (Nat.le_refl f) (by omega))
      · obtain rfl : br = 8 := by omega
        rw [show pz tp t lw (n + 1) 2 8 pa f v = .inl f from by show (if _ then _ else _) = _; rw [if_neg hni, if_pos hsg, if_neg hb8]]
        refine g_aload_n d4_readPlain_46 rfl ?_
        refine g_get fl4_30 d4_readPlain_47 f_14_0 ?_
        refine g_bipushv (nI 40) d4_readPlain_50 rfl ?_
        refine g_EV1 vm8_isSign ml4_71 c_12 (r8_isSign tp t hS.1 f hS.2.1 40 (by decide) (by decide) (Nat.le_refl 0)) (by omega) (Nat.le_of_ble_eq_true rfl) d4_readPlain_52 ?_
        refine g_bz 69 d4_readPlain_55 rfl (fun c55 => absurd c55 (fun z => z hsg)) (fun _ => ?_)
        refine g_aload_n d4_readPlain_58 rfl ?_
        refine g_bipushv (nI 40) d4_readPlain_59 rfl ?_
        refine g_bipushv (nI 41) d4_readPlain_61 rfl ?_
        refine g_EV2 vm4_readBracketed ml4_120 c_14 (r4_brk_8 tp t lw b pa f hS _ _ (Nat.le_refl 1)) (by omega) (Nat.le_of_ble_eq_true rfl) d4_readPlain_63 ?_
        refine g_goto 73 d4_readPlain_66 rfl ?_
        refine g_lo [(0, .ref 14), (1, .int (nI (bN tb)))] ⟨rfl, rfl, trivial⟩ ?_
        exact r4_pl2 tb ht4 hF hE hbf hf0 (by omega) _ (uI I 14 4 (nI f), false) ⟨rfl, FRd.f (by decide) (by decide), rfl⟩
    · rw [show pz tp t lw (n + 1) 2 br pa f v = pz tp t lw n 3 br pa f v from by show (if _ then _ else _) = _; rw [if_neg hni, if_neg hsg]]
      refine g_aload_n d4_readPlain_46 rfl ?_
      refine g_get fl4_30 d4_readPlain_47 f_14_0 ?_
      refine g_bipushv (nI 40) d4_readPlain_50 rfl ?_
      refine g_EV1 vm8_isSign ml4_71 c_12 (r8_isSign tp t hS.1 f hS.2.1 40 (by decide) (by decide) (Nat.le_refl 0)) (by omega) (Nat.le_of_ble_eq_true rfl) d4_readPlain_52 ?_
      refine g_bz 69 d4_readPlain_55 rfl (fun _ => ?_) (fun c55 => absurd c55 (hsg))
      refine g_aload_n d4_readPlain_69 rfl ?_
      refine g_XV0 vm4_readComparison ml4_124 c_14 (hC br pa f v I b (d - 1) (by omega) hS (by omega) hpa hbr (by omega)) (by omega) (Nat.le_of_ble_eq_true rfl) d4_readPlain_70 (fun y hy => ?_)
      refine g_lo [(0, .ref 14), (1, .int (nI (bN tb)))] ⟨rfl, rfl, trivial⟩ ?_
      exact r4_pl2 tb ht4 hF hE hbf hf0 (by omega) _ y hy
  by_cases hcn4 : cn_ < 400
  · by_cases hni : iw tp t f 14836
    · have hk0 : kd tp t f ≠ 0 := by have := hni.1; omega
      have hn1 := nxt_le (tp := tp) hft0
      have hn3 := hn1.2.2 hk0
      have hft := kd_lt hk0
      rw [show pz tp t lw (n + 1) 2 br pa f v = rb (pz tp t lw n 2 br pa (nxt tp t f) v) (fun f1 p1 v1 => .inr (f1, p1, notD v1)) from if_pos hni, mapN_n]
      refine g_iload_n d4_readPlain_4 rfl ?_
      refine g_sipushv (nI 400) d4_readPlain_5 rfl ?_
      refine g_ic_ge ((cn_ : Nat) : Int) (400) 46 (nI_ti (by omega)) (by decide) d4_readPlain_8 rfl (fun c8 => absurd c8 (by omega)) (fun _ => ?_)
      refine g_aload_n d4_readPlain_11 rfl ?_
      refine g_get fl4_30 d4_readPlain_12 f_14_0 ?_
      refine g_ldcS (i := 2) (by decide) rfl rfl d4_readPlain_15 ?_
      cases tb
      · skip
        refine g_EV1 vm8_isWord ml4_97 c_12 (r8_isWord tp t hS.1 f hS.2.1 2 (by decide) wrd_one.1 (Nat.le_refl 6)) (by omega) (Nat.le_of_ble_eq_true rfl) d4_readPlain_17 ?_
        refine g_bz 46 d4_readPlain_20 rfl (fun c20 => absurd c20 (fun z => z (wrd_if2.2 hni))) (fun _ => ?_)
        refine g_iload_n d4_readPlain_23 rfl ?_
        refine g_iz_ne (0) 31 (by decide) d4_readPlain_24 rfl (fun c24 => absurd c24 (by decide)) (fun _ => ?_)
        refine g_iconstv (nI 1) d4_readPlain_27 rfl ?_
        refine g_goto 32 d4_readPlain_28 rfl ?_
        refine g_istore_n d4_readPlain_32 (by decide) ?_
        refine g_aload_n d4_readPlain_33 rfl ?_
        refine g_get fl4_30 d4_readPlain_34 f_14_0 ?_
        refine g_WV0 vm8_advance ml4_74 c_12 (r8_next tp t lw b pa br f hS (Nat.le_refl 1)) (by omega) (Nat.le_of_ble_eq_true rfl) d4_readPlain_37 (fun x1 hx => ?_)
        refine g_iincN d4_readPlain_40 rfl (by decide) ?_
        refine g_goto 4 d4_readPlain_43 rfl ?_
        refine g_lo [(0, .ref 14), (1, .int (nI (bN true))), (2, .int (nI (cn_ + 1)))] ⟨rfl, rfl, rfl, trivial⟩ ?_
        exact hL br pa (nxt tp t f) f0 v I0 x1 b d (cn_ + 1) true (by omega) (hF.tr (FRd.tk hx.1)) (hE.tr (EQs.tk hx.1)) hx.2 (by omega) (by omega) hpa hbr (by omega) hd
      · skip
        refine g_EV1 vm8_isWord ml4_97 c_12 (r8_isWord tp t hS.1 f hS.2.1 2 (by decide) wrd_one.1 (Nat.le_refl 6)) (by omega) (Nat.le_of_ble_eq_true rfl) d4_readPlain_17 ?_
        refine g_bz 46 d4_readPlain_20 rfl (fun c20 => absurd c20 (fun z => z (wrd_if2.2 hni))) (fun _ => ?_)
        refine g_iload_n d4_readPlain_23 rfl ?_
        refine g_iz_ne (1) 31 (by decide) d4_readPlain_24 rfl (fun _ => ?_) (fun c24 => absurd c24 (by decide))
        refine g_iconstv (nI 0) d4_readPlain_31 rfl ?_
        refine g_istore_n d4_readPlain_32 (by decide) ?_
        refine g_aload_n d4_readPlain_33 rfl ?_
        refine g_get fl4_30 d4_readPlain_34 f_14_0 ?_
        refine g_WV0 vm8_advance ml4_74 c_12 (r8_next tp t lw b pa br f hS (Nat.le_refl 1)) (by omega) (Nat.le_of_ble_eq_true rfl) d4_readPlain_37 (fun x1 hx => ?_)
        refine g_iincN d4_readPlain_40 rfl (by decide) ?_
        refine g_goto 4 d4_readPlain_43 rfl ?_
        refine g_lo [(0, .ref 14), (1, .int (nI (bN false))), (2, .int (nI (cn_ + 1)))] ⟨rfl, rfl, rfl, trivial⟩ ?_
        exact hL br pa (nxt tp t f) f0 v I0 x1 b d (cn_ + 1) false (by omega) (hF.tr (FRd.tk hx.1)) (hE.tr (EQs.tk hx.1)) hx.2 (by omega) (by omega) hpa hbr (by omega) hd
    · skip
      refine g_iload_n d4_readPlain_4 rfl ?_
      refine g_sipushv (nI 400) d4_readPlain_5 rfl ?_
      refine g_ic_ge ((cn_ : Nat) : Int) (400) 46 (nI_ti (by omega)) (by decide) d4_readPlain_8 rfl (fun c8 => absurd c8 (by omega)) (fun _ => ?_)
      refine g_aload_n d4_readPlain_11 rfl ?_
      refine g_get fl4_30 d4_readPlain_12 f_14_0 ?_
      refine g_ldcS (i := 2) (by decide) rfl rfl d4_readPlain_15 ?_
      refine g_EV1 vm8_isWord ml4_97 c_12 (r8_isWord tp t hS.1 f hS.2.1 2 (by decide) wrd_one.1 (Nat.le_refl 6)) (by omega) (Nat.le_of_ble_eq_true rfl) d4_readPlain_17 ?_
      refine g_bz 46 d4_readPlain_20 rfl (fun _ => ?_) (fun c20 => absurd c20 (fun z => hni (wrd_if2.1 z)))
      refine g_lo [(0, .ref 14), (1, .int (nI (bN tb)))] ⟨rfl, rfl, trivial⟩ ?_
      exact hbase hni
  · have hni : ¬ iw tp t f 14836 := fun z => by have := kd_lt (show kd tp t f ≠ 0 by have := z.1; omega); omega
    refine g_iload_n d4_readPlain_4 rfl ?_
    refine g_sipushv (nI 400) d4_readPlain_5 rfl ?_
    refine g_ic_ge ((cn_ : Nat) : Int) (400) 46 (nI_ti (by omega)) (by decide) d4_readPlain_8 rfl (fun _ => ?_) (fun c8 => absurd c8 (by omega))
    refine g_lo [(0, .ref 14), (1, .int (nI (bN tb)))] ⟨rfl, rfl, trivial⟩ ?_
    exact hbase hni
theorem r4_plain {l : Launch} {K : cK} {L : wL} {R : wR} {dy : cH} {tp : Nat → Nat} {t : Nat} {lw : Bool} {n : Nat} (hL : NL l K L R dy tp t lw n) : KR l K L R dy tp t lw m4_readPlain 2 5 11 3 n := by
  intro br pa f v I b d hn hS hbf hpa hbr hd
  refine CC.of ok4_readPlain (Nat.le_of_ble_eq_true rfl) ?_
  refine g_iconstv (nI 0) d4_readPlain_0 rfl ?_
  refine g_istore_n d4_readPlain_1 (by decide) ?_
  refine g_iconstv (nI 0) d4_readPlain_2 rfl ?_
  refine g_istore_n d4_readPlain_3 (by decide) ?_
  refine g_lo [(0, .ref 14), (1, .int (nI (bN false))), (2, .int (nI 0))] ⟨rfl, rfl, rfl, trivial⟩ ?_
  exact hL br pa f f v I I b d 0 false hn FRd.rf EQs.rf hS hbf (Nat.le_refl _) hpa hbr (Nat.zero_le _) hd
