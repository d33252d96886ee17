abbrev Res : Type := Nat ⊕ (Nat × Nat × Den)
def rb (r : Res) (k : Nat → Nat → Den → Res) : Res := match r with
  | .inl e => .inl e
  | .inr (f, p, v) => k f p v
def cmpO (c : Nat) : Nat := if c = 60 then 25 else if c = 62 then 26 else if c = 61 then 27 else 0
def addO (c : Nat) : Nat := if c = 43 then 20 else if c = 45 then 21 else 0
def mulO (c : Nat) : Nat := if c = 42 then 22 else if c = 47 then 23 else if c = 37 then 24 else 0
def sg (tp : Nat → Nat) (t f : Nat) : Nat := if kd tp t f = 3 then tp f else 0
abbrev iw (tp : Nat → Nat) (t f w : Nat) : Prop := kd tp t f = 1 ∧ wwI tp f (tE tp t f - f) = (w : Int)
def lws (lw : Bool) (k : Nat) : Nat := if lw = true then (if k = 0 then 635380 else if k = 1 then 20232293 else if k = 2 then 591150 else if k = 3 then 24748627411 else if k = 4 then 3122 else if k = 5 then 643129 else 441828) else (if k = 0 then 635380 else if k = 1 then 398548 else if k = 2 then 643129 else if k = 3 then 441925 else if k = 4 then 20232293 else if k = 5 then 113966 else 16562)
/-- which word of a part: 0 none -/
def wpa (tp : Nat → Nat) (t f : Nat) (lw : Bool) : Nat → Nat
  | 0 => 0
  | k + 1 => if iw tp t f (lws lw k) then k + 1 else wpa tp t f lw k
def nu (tp : Nat → Nat) (t f : Nat) : Nat := wn tp f (tE tp t f - f)
abbrev num (tp : Nat → Nat) (t f : Nat) : Prop := kd tp t f = 2 ∧ nu tp t f ≤ 1000
/-- reading, by what is to be read: 0 a test, 1 what and joins, 2 a plain test, 3 a comparison, 4 a sum, 5 a term, 6 a part; 7, 8, 9, 10 how 0, 1, 4, 5 go on -/
def pz (tp : Nat → Nat) (t : Nat) (lw : Bool) : Nat → Nat → Nat → Nat → Nat → Den → Res
  | 0, _, _, _, _, _ => .inl 0
  | n + 1, 0, br, pa, f, v => rb (pz tp t lw n 1 br pa f v) (fun f1 p1 v1 => pz tp t lw n 7 br p1 f1 v1)
  | n + 1, 1, br, pa, f, v => rb (pz tp t lw n 2 br pa f v) (fun f1 p1 v1 => pz tp t lw n 8 br p1 f1 v1)
  | n + 1, 2, br, pa, f, v => if iw tp t f 14836 then rb (pz tp t lw n 2 br pa (nxt tp t f) v) (fun f1 p1 v1 => .inr (f1, p1, notD v1))
      else if sg tp t f = 40 then (if br < 8 then rb (pz tp t lw n 0 (br + 1) pa (nxt tp t f) v) (fun f1 p1 v1 => if sg tp t f1 = 41 then .inr (nxt tp t f1, p1, v1) else .inl f1) else .inl f)
      else pz tp t lw n 3 br pa f v
  | n + 1, 3, br, pa, f, v => rb (pz tp t lw n 4 br pa f v) (fun f1 p1 v1 => if cmpO (sg tp t f1) = 0 then .inl f1 else rb (pz tp t lw n 4 br p1 (nxt tp t f1) v) (fun f2 p2 v2 => .inr (f2, p2, binD (cmpO (sg tp t f1)) v1 v2)))
  | n + 1, 4, br, pa, f, v => rb (pz tp t lw n 5 br pa f v) (fun f1 p1 v1 => pz tp t lw n 9 br p1 f1 v1)
  | n + 1, 5, br, pa, f, v => rb (pz tp t lw n 6 br pa f v) (fun f1 p1 v1 => pz tp t lw n 10 br p1 f1 v1)
  | n + 1, 6, br, pa, f, v => if sg tp t f = 91 then (if br < 8 then rb (pz tp t lw n 4 (br + 1) pa (nxt tp t f) v) (fun f1 p1 v1 => if sg tp t f1 = 93 then .inr (nxt tp t f1, p1, v1) else .inl f1) else .inl f)
      else if (wpa tp t f lw 7 ≠ 0 ∨ num tp t f) ∧ pa < 50 then .inr (nxt tp t f, pa + 1, if num tp t f then (fun _ => some (lN (nu tp t f))) else (fun env => some (env (wpa tp t f lw 7)))) else .inl f
  | n + 1, 7, br, pa, f, v => if iw tp t f 498 then rb (pz tp t lw n 1 br pa (nxt tp t f) v) (fun f1 p1 v1 => pz tp t lw n 7 br p1 f1 (jmpD 30 v v1)) else .inr (f, pa, v)
  | n + 1, 8, br, pa, f, v => if iw tp t f 1476 then rb (pz tp t lw n 2 br pa (nxt tp t f) v) (fun f1 p1 v1 => pz tp t lw n 8 br p1 f1 (jmpD 29 v v1)) else .inr (f, pa, v)
  | n + 1, 9, br, pa, f, v => if addO (sg tp t f) = 0 then .inr (f, pa, v) else rb (pz tp t lw n 5 br pa (nxt tp t f) v) (fun f1 p1 v1 => pz tp t lw n 9 br p1 f1 (binD (addO (sg tp t f)) v v1))
  | n + 1, 10, br, pa, f, v => if mulO (sg tp t f) = 0 then .inr (f, pa, v) else rb (pz tp t lw n 6 br pa (nxt tp t f) v) (fun f1 p1 v1 => pz tp t lw n 10 br p1 f1 (binD (mulO (sg tp t f)) v v1))
  | _ + 1, _, _, _, f, _ => .inl f
theorem sg_ne {tp : Nat → Nat} {t f c : Nat} (hc : c ≠ 0) : sg tp t f = c ↔ (kd tp t f = 3 ∧ tp f = c) := by
  unfold sg
  by_cases e : kd tp t f = 3
  · rw [if_pos e]; exact ⟨fun h => ⟨e, h⟩, fun h => h.2⟩
  · rw [if_neg e]; exact ⟨fun h => absurd h.symm hc, fun h => absurd h.1 e⟩
theorem kd1 {tp : Nat → Nat} {t f : Nat} (h : kd tp t f = 1) : f < t ∧ isL (tp f) ∧ tE tp t f = eL tp t f := by
  have h0 : ¬ t ≤ f := fun z => by unfold kd at h; rw [if_pos z] at h; omega
  have h1 : isL (tp f) := by
    by_cases e : isL (tp f)
    · exact e
    · unfold kd at h; rw [if_neg h0, if_neg e] at h; split at h <;> omega
  exact ⟨by omega, h1, by unfold tE; rw [h]; rfl⟩
theorem kd2 {tp : Nat → Nat} {t f : Nat} (h : kd tp t f = 2) : f < t ∧ isD (tp f) ∧ tE tp t f = eD tp t f := by
  have h0 : ¬ t ≤ f := fun z => by unfold kd at h; rw [if_pos z] at h; omega
  have h1 : isD (tp f) := by
    by_cases e : isL (tp f)
    · unfold kd at h; rw [if_neg h0, if_pos e] at h; omega
    · by_cases e2 : isD (tp f)
      · exact e2
      · unfold kd at h; rw [if_neg h0, if_neg e, if_neg e2] at h; omega
  exact ⟨by omega, h1, by unfold tE; rw [h]; rfl⟩
theorem ww_all {tp : Nat → Nat} {t f : Nat} (h : kd tp t f = 1) : ∀ q, q < tE tp t f - f → isL (tp (f + q)) := fun q hq => by
  rw [(kd1 h).2.2] at hq
  exact of_decide_eq_true (ru_all (p := fun q => decide (isL (tp q))) (t := t) (f := f) (q := f + q) (by omega) (by show f + q < eL tp t f; omega))
theorem wn_all {tp : Nat → Nat} {t f : Nat} (h : kd tp t f = 2) : ∀ q, q < tE tp t f - f → isD (tp (f + q)) := fun q hq => by
  rw [(kd2 h).2.2] at hq
  exact of_decide_eq_true (ru_all (p := fun q => decide (isD (tp q))) (t := t) (f := f) (q := f + q) (by omega) (by show f + q < eD tp t f; omega))
theorem wth1 {tp : Nat → Nat} {t f : Nat} (h : kd tp t f = 1) : (wth tp t f).toInt = wwI tp f (tE tp t f - f) := by
  obtain ⟨a, b, _⟩ := wwI_le tp f (tE tp t f - f) (ww_all h)
  have : (32 : Int) ^ 10 = 1125899906842624 := by decide
  unfold wth
  rw [if_neg (by omega), if_pos h]
  exact lI_ti (by omega) (by omega)
theorem wth2 {tp : Nat → Nat} {t f : Nat} (h : kd tp t f = 2) : wth tp t f = lN (nu tp t f) := by unfold wth; rw [if_neg (by omega), if_neg (by omega), if_pos h]; rfl
theorem nu_le {tp : Nat → Nat} {t f : Nat} (h : kd tp t f = 2) : nu tp t f ≤ 10000009 := wn_le tp f _ (wn_all h)
theorem wth3 {tp : Nat → Nat} {t f : Nat} (h : kd tp t f = 3) : wth tp t f = lN (tp f) := by unfold wth; rw [if_pos h]
/-- a word of two or three letters is as long -/
theorem ww_long {tp : Nat → Nat} {t f w m : Nat} (h : iw tp t f w) (hw : (32 : Int) ^ m ≤ w) (hm : m ≤ 10) (hft : f ≤ t) : f + m + 1 ≤ nxt tp t f := by
  obtain ⟨h1, h2⟩ := h
  obtain ⟨a, b, c⟩ := wwI_le tp f (tE tp t f - f) (ww_all h1)
  have h3 := nxt_le (tp := tp) hft
  have h4 := tE_le (tp := tp) hft
  by_cases e : tE tp t f - f ≤ m
  · obtain ⟨c1, c2⟩ := c (by omega)
    have hmon : (32 : Int) ^ (tE tp t f - f) ≤ 32 ^ m := by exact_mod_cast Nat.pow_le_pow_right (show 0 < 32 by decide) e
    omega
  · omega
set_option maxHeartbeats 200000 in
theorem r12_isWord {l : Launch} {K : cK} {d : Nat} {I : wI} {L : wL} {R : wR} {dy : cH} (tp : Nat → Nat) (t : Nat) (f : Nat) (hTP : TPm I tp t) (hTK : TKm I L tp t f) (w : Nat) (hw : w < 4000000000000) (hd : 0 ≤ d) : CE l K m12_isWord d [.ref 74, .long (lN w)] (hp I L R dy) (.int (if iw tp t f w then 1 else 0)) (hp I L R dy) := by
  obtain ⟨hft, k9, k10, k11, k12⟩ := id hTK
  have hk3 := kd_le tp t f
  have hbf := hTP.2.2.2 f
  refine CC.of ok12_isWord (Nat.le_of_ble_eq_true rfl) ?_
  by_cases h1 : kd tp t f = 1
  rotate_left
  refine g_aload_n d12_isWord_0 rfl ?_
  refine g_get fl12_212 d12_isWord_1 f_74_11 ?_
  refine g_topI (nI (kd tp t f)) (k11) ?_
  refine g_iconstv (nI 1) d12_isWord_4 rfl ?_
  refine g_ic_ne ((kd tp t f : Nat) : Int) (1) 21 (nI_ti (by omega)) (by decide) d12_isWord_5 rfl (fun _ => ?_) (fun c5 => absurd c5 (by omega))
  refine g_iconstv (nI 0) d12_isWord_21 rfl ?_
  exact g_zret rfl (by decide) d12_isWord_22 (⟨congrArg (fun z => some (Value.int z)) (if_neg (fun z => h1 z.1)).symm, rfl⟩)
  have hw1 := wth1 h1
  obtain ⟨a1, a2, _⟩ := wwI_le tp f (tE tp t f - f) (ww_all h1)
  refine g_aload_n d12_isWord_0 rfl ?_
  refine g_get fl12_212 d12_isWord_1 f_74_11 ?_
  refine g_topI (nI (kd tp t f)) (k11) ?_
  refine g_iconstv (nI 1) d12_isWord_4 rfl ?_
  refine g_ic_ne ((kd tp t f : Nat) : Int) (1) 21 (nI_ti (by omega)) (by decide) d12_isWord_5 rfl (fun c5 => absurd c5 (by omega)) (fun _ => ?_)
  refine g_aload_n d12_isWord_8 rfl ?_
  refine g_get fl12_202 d12_isWord_9 f_74_12 ?_
  refine g_topL (wth tp t f) (k12) ?_
  refine g_lload_n d12_isWord_12 rfl ?_
  refine g_lx_ne (wwI tp f (tE tp t f - f)) ((w : Nat) : Int) 21 (hw1) (pk_lT (by omega)) d12_isWord_13 d12_isWord_14 rfl (fun c13 => ?_) (fun c13 => ?_)
  · refine g_iconstv (nI 0) d12_isWord_21 rfl ?_
    exact g_zret rfl (by decide) d12_isWord_22 (⟨congrArg (fun z => some (Value.int z)) (by first | exact (if_pos ⟨h1, by omega⟩).symm | exact (if_neg (fun z => by have := z.2; omega)).symm), rfl⟩)
  · refine g_iconstv (nI 1) d12_isWord_17 rfl ?_
    refine g_goto 22 d12_isWord_18 rfl ?_
    exact g_zret rfl (by decide) d12_isWord_22 (⟨congrArg (fun z => some (Value.int z)) (by first | exact (if_pos ⟨h1, by omega⟩).symm | exact (if_neg (fun z => by have := z.2; omega)).symm), rfl⟩)
set_option maxHeartbeats 200000 in
theorem r12_isSign {l : Launch} {K : cK} {d : Nat} {I : wI} {L : wL} {R : wR} {dy : cH} (tp : Nat → Nat) (t : Nat) (f : Nat) (hTP : TPm I tp t) (hTK : TKm I L tp t f) (c : Nat) (hc : c < 1000) (hc0 : c ≠ 0) (hd : 0 ≤ d) : CE l K m12_isSign d [.ref 74, .int (nI c)] (hp I L R dy) (.int (if sg tp t f = c then 1 else 0)) (hp I L R dy) := by
  obtain ⟨hft, k9, k10, k11, k12⟩ := id hTK
  have hk3 := kd_le tp t f
  have hbf := hTP.2.2.2 f
  refine CC.of ok12_isSign (Nat.le_of_ble_eq_true rfl) ?_
  by_cases h1 : kd tp t f = 3
  rotate_left
  refine g_aload_n d12_isSign_0 rfl ?_
  refine g_get fl12_212 d12_isSign_1 f_74_11 ?_
  refine g_topI (nI (kd tp t f)) (k11) ?_
  refine g_iconstv (nI 3) d12_isSign_4 rfl ?_
  refine g_ic_ne ((kd tp t f : Nat) : Int) (3) 22 (nI_ti (by omega)) (by decide) d12_isSign_5 rfl (fun _ => ?_) (fun c5 => absurd c5 (by omega))
  refine g_iconstv (nI 0) d12_isSign_22 rfl ?_
  exact g_zret rfl (by decide) d12_isSign_23 (⟨congrArg (fun z => some (Value.int z)) (if_neg (fun z => h1 ((sg_ne hc0).1 z).1)).symm, rfl⟩)
  refine g_aload_n d12_isSign_0 rfl ?_
  refine g_get fl12_212 d12_isSign_1 f_74_11 ?_
  refine g_topI (nI (kd tp t f)) (k11) ?_
  refine g_iconstv (nI 3) d12_isSign_4 rfl ?_
  refine g_ic_ne ((kd tp t f : Nat) : Int) (3) 22 (nI_ti (by omega)) (by decide) d12_isSign_5 rfl (fun c5 => absurd c5 (by omega)) (fun _ => ?_)
  refine g_aload_n d12_isSign_8 rfl ?_
  refine g_get fl12_202 d12_isSign_9 f_74_12 ?_
  refine g_topL (lN (tp f)) (k12.trans (wth3 h1)) ?_
  refine g_iload_n d12_isSign_12 rfl ?_
  refine g_i2lN (by omega) d12_isSign_13 ?_
  refine g_lx_ne ((tp f : Nat) : Int) ((c : Nat) : Int) 22 (pk_lT (by omega)) (pk_lT (by omega)) d12_isSign_14 d12_isSign_15 rfl (fun c14 => ?_) (fun c14 => ?_)
  · refine g_iconstv (nI 0) d12_isSign_22 rfl ?_
    exact g_zret rfl (by decide) d12_isSign_23 (⟨congrArg (fun z => some (Value.int z)) (by first | exact (if_pos ((sg_ne hc0).2 ⟨h1, by omega⟩)).symm | exact (if_neg (fun z => by have := ((sg_ne hc0).1 z).2; omega)).symm), rfl⟩)
  · refine g_iconstv (nI 1) d12_isSign_18 rfl ?_
    refine g_goto 23 d12_isSign_19 rfl ?_
    exact g_zret rfl (by decide) d12_isSign_23 (⟨congrArg (fun z => some (Value.int z)) (by first | exact (if_pos ((sg_ne hc0).2 ⟨h1, by omega⟩)).symm | exact (if_neg (fun z => by have := ((sg_ne hc0).1 z).2; omega)).symm), rfl⟩)
theorem FR.u2 {ci cj cl ck : List Nat} {I : wI} {L : wL} {I2 : wI} {L2 : wL} (h : FR ci cj cl ck I L I2 L2) {ci2 cj2 cl2 ck2 : List Nat} (h1 : ∀ k ∈ ci, k ∈ ci2) (h2 : ∀ k ∈ cj, k ∈ cj2) (h3 : ∀ k ∈ cl, k ∈ cl2) (h4 : ∀ k ∈ ck, k ∈ ck2) : FR ci2 cj2 cl2 ck2 I L I2 L2 := h.up h1 h2 h3 h4
set_option maxHeartbeats 200000 in
theorem r12_must_ok {l : Launch} {K : cK} {d : Nat} {I : wI} {L : wL} {R : wR} {dy : cH} (tp : Nat → Nat) (t : Nat) (f : Nat) (hTP : TPm I tp t) (hTK : TKm I L tp t f) (h14 : I 74 14 = 0) (hd : 2 ≤ d) : CW l K m12_must d [.ref 74, .int (nI 1)] (hp I L R dy) (α := wI × wL) (fun x => FR [] [9, 10, 11] [] [12] I L x.1 x.2 ∧ TKm x.1 x.2 tp t (nxt tp t f)) (fun x => hp x.1 x.2 R dy) := by
  obtain ⟨hft, k9, k10, k11, k12⟩ := id hTK
  have hk3 := kd_le tp t f
  have hbf := hTP.2.2.2 f
  refine CC.of ok12_must (Nat.le_of_ble_eq_true rfl) ?_
  refine g_aload_n d12_must_0 rfl ?_
  refine g_get fl12_192 d12_must_1 f_74_14 ?_
  refine g_topI ((0 : Int32)) (h14) ?_
  refine g_iz_ne (0) 24 (by decide) d12_must_4 rfl (fun c4 => absurd c4 (by decide)) (fun _ => ?_)
  refine g_iload_n d12_must_7 rfl ?_
  refine g_iz_ne (1) 24 (by decide) d12_must_8 rfl (fun _ => ?_) (fun c8 => absurd c8 (by decide))
  refine g_aload_n d12_must_24 rfl ?_
  refine g_get fl12_192 d12_must_25 f_74_14 ?_
  refine g_topI ((0 : Int32)) (h14) ?_
  refine g_iz_ne (0) 35 (by decide) d12_must_28 rfl (fun c28 => absurd c28 (by decide)) (fun _ => ?_)
  refine g_aload_n d12_must_31 rfl ?_
  refine g_WV0 vm12_next ml12_196 c_74 (r12_next tp t hTP (tE tp t f) k10 (tE_le hft).2.1 (Nat.le_refl 1)) (by omega) (Nat.le_of_ble_eq_true rfl) d12_must_32 (fun x hx => ?_)
  exact g_vret rfl d12_must_35 (⟨x, hx, rfl, rfl⟩)
set_option maxHeartbeats 200000 in
theorem r12_must_no {l : Launch} {K : cK} {d : Nat} {I : wI} {L : wL} {R : wR} {dy : cH} (tp : Nat → Nat) (t : Nat) (f : Nat) (hTP : TPm I tp t) (hTK : TKm I L tp t f) (h14 : I 74 14 = 0) (hd : 2 ≤ d) : CV l K m12_must d [.ref 74, .int (nI 0)] (hp I L R dy) (hp (uI (uI I 74 14 1) 74 13 (nI f)) L R dy) := by
  obtain ⟨hft, k9, k10, k11, k12⟩ := id hTK
  have hk3 := kd_le tp t f
  have hbf := hTP.2.2.2 f
  refine CC.of ok12_must (Nat.le_of_ble_eq_true rfl) ?_
  refine g_aload_n d12_must_0 rfl ?_
  refine g_get fl12_192 d12_must_1 f_74_14 ?_
  refine g_topI ((0 : Int32)) (h14) ?_
  refine g_iz_ne (0) 24 (by decide) d12_must_4 rfl (fun c4 => absurd c4 (by decide)) (fun _ => ?_)
  refine g_iload_n d12_must_7 rfl ?_
  refine g_iz_ne (0) 24 (by decide) d12_must_8 rfl (fun c8 => absurd c8 (by decide)) (fun _ => ?_)
  refine g_aload_n d12_must_11 rfl ?_
  refine g_iconstv (nI 1) d12_must_12 rfl ?_
  refine g_putZh _ fl12_192 d12_must_13 f_74_14 (by decide) s_74_14 ?_
  refine g_aload_n d12_must_16 rfl ?_
  refine g_aload_n d12_must_17 rfl ?_
  refine g_get fl12_199 d12_must_18 f_74_9 ?_
  refine g_topI (nI (f)) (k9) ?_
  refine g_putIh _ fl12_26 d12_must_21 f_74_13 s_74_13 ?_
  refine g_aload_n d12_must_24 rfl ?_
  refine g_get fl12_192 d12_must_25 f_74_14 ?_
  refine g_topI ((1 : Int32)) (rfl) ?_
  refine g_iz_ne (1) 35 (by decide) d12_must_28 rfl (fun _ => ?_) (fun c28 => absurd c28 (by decide))
  exact g_vret rfl d12_must_35 (⟨rfl, rfl⟩)
set_option maxHeartbeats 200000 in
theorem r12_emit {l : Launch} {K : cK} {d : Nat} {I : wI} {L : wL} {R : wR} {dy : cH} (a : Nat) (h18 : I 74 18 = nI a) (ha : a < 400) (o g : Int32) (hd : 0 ≤ d) : CV l K m12_emit d [.ref 74, .int o, .int g] (hp I L R dy) (hp (uI (uI (uI I 81 a o) 82 a g) 74 18 (nI (a + 1))) L R dy) := by
  refine CC.of ok12_emit (Nat.le_of_ble_eq_true rfl) ?_
  refine g_aload_n d12_emit_0 rfl ?_
  refine g_get fl12_33 d12_emit_1 f_74_19 ?_
  refine g_aload_n d12_emit_4 rfl ?_
  refine g_get fl12_231 d12_emit_5 f_74_18 ?_
  refine g_topI (nI (a)) (h18) ?_
  refine g_iload_n d12_emit_8 rfl ?_
  refine g_iastN (a) _ d12_emit_9 a_81 (rfl) (by omega) (by decide) t_81 ?_
  refine g_aload_n d12_emit_10 rfl ?_
  refine g_get fl12_36 d12_emit_11 f_74_20 ?_
  refine g_aload_n d12_emit_14 rfl ?_
  refine g_get fl12_231 d12_emit_15 f_74_18 ?_
  refine g_topI (nI (a)) (h18) ?_
  refine g_iload_n d12_emit_18 rfl ?_
  refine g_iastN (a) _ d12_emit_19 a_82 (rfl) (by omega) (by decide) t_82 ?_
  refine g_aload_n d12_emit_20 rfl ?_
  refine g_dup d12_emit_21 rfl ?_
  refine g_get fl12_231 d12_emit_22 f_74_18 ?_
  refine g_topI (nI (a)) (h18) ?_
  refine g_iconstv (nI 1) d12_emit_25 rfl ?_
  refine g_iaddN d12_emit_26 ?_
  refine g_putIh _ fl12_231 d12_emit_27 f_74_18 s_74_18 ?_
  exact g_vret rfl d12_emit_30 (⟨rfl, rfl⟩)
set_option maxHeartbeats 200000 in
theorem r12_push {l : Launch} {K : cK} {d : Nat} {I : wI} {L : wL} {R : wR} {dy : cH} (n : Nat) (h24 : I 74 24 = nI n) (hn : n < 400) (o g : Int32) (hd : 0 ≤ d) : CV l K m12_push d [.ref 74, .int o, .int g] (hp I L R dy) (hp (uI (uI (uI I 83 n o) 84 n g) 74 24 (nI (n + 1))) L R dy) := by
  refine CC.of ok12_push (Nat.le_of_ble_eq_true rfl) ?_
  refine g_aload_n d12_push_0 rfl ?_
  refine g_get fl12_39 d12_push_1 f_74_22 ?_
  refine g_aload_n d12_push_4 rfl ?_
  refine g_get fl12_234 d12_push_5 f_74_24 ?_
  refine g_topI (nI (n)) (h24) ?_
  refine g_iload_n d12_push_8 rfl ?_
  refine g_iastN (n) _ d12_push_9 a_83 (rfl) (by omega) (by decide) t_83 ?_
  refine g_aload_n d12_push_10 rfl ?_
  refine g_get fl12_42 d12_push_11 f_74_23 ?_
  refine g_aload_n d12_push_14 rfl ?_
  refine g_get fl12_234 d12_push_15 f_74_24 ?_
  refine g_topI (nI (n)) (h24) ?_
  refine g_iload_n d12_push_18 rfl ?_
  refine g_iastN (n) _ d12_push_19 a_84 (rfl) (by omega) (by decide) t_84 ?_
  refine g_aload_n d12_push_20 rfl ?_
  refine g_dup d12_push_21 rfl ?_
  refine g_get fl12_234 d12_push_22 f_74_24 ?_
  refine g_topI (nI (n)) (h24) ?_
  refine g_iconstv (nI 1) d12_push_25 rfl ?_
  refine g_iaddN d12_push_26 ?_
  refine g_putIh _ fl12_234 d12_push_27 f_74_24 s_74_24 ?_
  exact g_vret rfl d12_push_30 (⟨rfl, rfl⟩)
set_option maxHeartbeats 200000 in
theorem r12_binds {l : Launch} {K : cK} {d : Nat} {h : cH} (o : Nat) (ho : o < 1000) (hd : 0 ≤ d) : CE l K m12_binds d [.int (nI o)] h (.int (nI (bnd o))) h := by
  refine CC.of ok12_binds (Nat.le_of_ble_eq_true rfl) ?_
  refine g_iload_n d12_binds_0 rfl ?_
  refine g_bipushv (nI 31) d12_binds_1 rfl ?_
  refine g_ic_lt ((o : Nat) : Int) (31) 10 (nI_ti (by omega)) (by decide) d12_binds_3 rfl (fun c3 => ?_) (fun c3 => ?_)
  · refine g_iload_n d12_binds_10 rfl ?_
    refine g_bipushv (nI 30) d12_binds_11 rfl ?_
    refine g_ic_ne ((o : Nat) : Int) (30) 20 (nI_ti (by omega)) (by decide) d12_binds_13 rfl (fun c13 => ?_) (fun c13 => ?_)
    · refine g_iload_n d12_binds_20 rfl ?_
      refine g_bipushv (nI 29) d12_binds_21 rfl ?_
      refine g_ic_ne ((o : Nat) : Int) (29) 30 (nI_ti (by omega)) (by decide) d12_binds_23 rfl (fun c23 => ?_) (fun c23 => ?_)
      · refine g_iload_n d12_binds_30 rfl ?_
        refine g_bipushv (nI 28) d12_binds_31 rfl ?_
        refine g_ic_ne ((o : Nat) : Int) (28) 40 (nI_ti (by omega)) (by decide) d12_binds_33 rfl (fun c33 => ?_) (fun c33 => ?_)
        · refine g_iload_n d12_binds_40 rfl ?_
          refine g_bipushv (nI 25) d12_binds_41 rfl ?_
          refine g_ic_lt ((o : Nat) : Int) (25) 50 (nI_ti (by omega)) (by decide) d12_binds_43 rfl (fun c43 => ?_) (fun c43 => ?_)
          · refine g_iload_n d12_binds_50 rfl ?_
            refine g_bipushv (nI 22) d12_binds_51 rfl ?_
            refine g_ic_lt ((o : Nat) : Int) (22) 61 (nI_ti (by omega)) (by decide) d12_binds_53 rfl (fun c53 => ?_) (fun c53 => ?_)
            · refine g_iconstv (nI 5) d12_binds_61 rfl ?_
              exact g_iret rfl d12_binds_62 (⟨congrArg (fun z => some (Value.int z)) (by unfold bnd; repeat (first | rfl | rw [if_pos (by omega)] | rw [if_neg (by omega)])), rfl⟩)
            · refine g_bipushv (nI 6) d12_binds_56 rfl ?_
              refine g_goto 62 d12_binds_58 rfl ?_
              exact g_iret rfl d12_binds_62 (⟨congrArg (fun z => some (Value.int z)) (by unfold bnd; repeat (first | rfl | rw [if_pos (by omega)] | rw [if_neg (by omega)])), rfl⟩)
          · refine g_iconstv (nI 4) d12_binds_46 rfl ?_
            refine g_goto 62 d12_binds_47 rfl ?_
            exact g_iret rfl d12_binds_62 (⟨congrArg (fun z => some (Value.int z)) (by unfold bnd; repeat (first | rfl | rw [if_pos (by omega)] | rw [if_neg (by omega)])), rfl⟩)
        · refine g_iconstv (nI 3) d12_binds_36 rfl ?_
          refine g_goto 62 d12_binds_37 rfl ?_
          exact g_iret rfl d12_binds_62 (⟨congrArg (fun z => some (Value.int z)) (by unfold bnd; repeat (first | rfl | rw [if_pos (by omega)] | rw [if_neg (by omega)])), rfl⟩)
      · refine g_iconstv (nI 2) d12_binds_26 rfl ?_
        refine g_goto 62 d12_binds_27 rfl ?_
        exact g_iret rfl d12_binds_62 (⟨congrArg (fun z => some (Value.int z)) (by unfold bnd; repeat (first | rfl | rw [if_pos (by omega)] | rw [if_neg (by omega)])), rfl⟩)
    · refine g_iconstv (nI 1) d12_binds_16 rfl ?_
      refine g_goto 62 d12_binds_17 rfl ?_
      exact g_iret rfl d12_binds_62 (⟨congrArg (fun z => some (Value.int z)) (by unfold bnd; repeat (first | rfl | rw [if_pos (by omega)] | rw [if_neg (by omega)])), rfl⟩)
  · refine g_iconstv (nI 0) d12_binds_6 rfl ?_
    refine g_goto 62 d12_binds_7 rfl ?_
    exact g_iret rfl d12_binds_62 (⟨congrArg (fun z => some (Value.int z)) (by unfold bnd; repeat (first | rfl | rw [if_pos (by omega)] | rw [if_neg (by omega)])), rfl⟩)
theorem bnd_le (o : Nat) : bnd o ≤ 6 := by unfold bnd; repeat (first | omega | split)
