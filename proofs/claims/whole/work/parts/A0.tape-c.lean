theorem uI_sf {I : wI} {k j b : Nat} {x : Int32} (h : b ≠ j) : uI I k j x k b = I k b := by simp [uI, upd, h]
theorem nI_mn {a b : Nat} (ha : a < 2 ^ 30) (hb : b < 2 ^ 30) : (if nI b < nI a then nI b else nI a) = nI (min a b) := by
  have e : (nI b < nI a) = ((b : Int) < (a : Int)) := by rw [Int32.lt_iff_toInt_lt, nI_ti (by omega), nI_ti (by omega)]
  rw [show (if nI b < nI a then nI b else nI a) = (if (b : Int) < (a : Int) then nI b else nI a) from by simp only [e]]
  by_cases h : b < a
  · rw [if_pos (by omega), Nat.min_eq_right (by omega)]
  · rw [if_neg (by omega), Nat.min_eq_left (by omega)]
/-- the kind of a sign -/
def kdc (c : Nat) : Nat := if isL c then 1 else if isD c then 2 else 3
/-- a number as the class counts it -/
def cn (tp : Nat → Nat) (f : Nat) : Nat → Nat
  | 0 => 0
  | m + 1 => min 100000 (cn tp f m * 10 + (tp (f + m) - 48))
theorem cn_le (tp : Nat → Nat) (f : Nat) : ∀ m, cn tp f m ≤ 100000
  | 0 => by show 0 ≤ _; omega
  | m + 1 => Nat.min_le_left _ _
def TPc (I : wI) (tp : Nat → Nat) (t : Nat) : Prop := t ≤ 400 ∧ I 12 1 = nI t ∧ (∀ q, q < 400 → I 13 q = nI (tp q)) ∧ ∀ q, tp q < 256
/-- the token that is looked at -/
def TKc (I : wI) (tp : Nat → Nat) (t f : Nat) : Prop := f ≤ t ∧ I 12 2 = nI f ∧ I 12 3 = nI (tE tp t f) ∧ I 12 4 = nI (kd tp t f) ∧ I 12 5 = nI (if kd tp t f = 2 then cn tp f (tE tp t f - f) else 0)
theorem kdc_1 {c : Nat} : kdc c = 1 ↔ isL c := by
  unfold kdc
  by_cases h : isL c
  · rw [if_pos h]; exact ⟨fun _ => h, fun _ => rfl⟩
  · rw [if_neg h]; refine ⟨fun z => ?_, fun z => absurd z h⟩
    split at z <;> omega
theorem kdc_2 {c : Nat} : kdc c = 2 ↔ isD c := by
  unfold kdc
  by_cases h : isL c
  · rw [if_pos h]; exact ⟨fun z => by omega, fun z => by unfold isL at h; unfold isD at z; omega⟩
  · rw [if_neg h]
    by_cases h2 : isD c
    · rw [if_pos h2]; exact ⟨fun _ => h2, fun _ => rfl⟩
    · rw [if_neg h2]; exact ⟨fun z => by omega, fun z => absurd z h2⟩
theorem kdc_lt (c : Nat) : 1 ≤ kdc c ∧ kdc c ≤ 3 := by unfold kdc; split <;> (try split) <;> omega
theorem kd_c {tp : Nat → Nat} {t f : Nat} (h : f < t) : kd tp t f = kdc (tp f) := by unfold kd kdc; rw [if_neg (by omega)]
set_option maxHeartbeats 200000 in
theorem r8_kindOf {l : Launch} {K : cK} {d : Nat} {h : cH} (c : Nat) (hc : c < 256) (hd : 0 ≤ d) : CE l K m8_kindOf d [.int (nI c)] h (.int (nI (kdc c))) h := by
  refine CC.of ok8_kindOf (Nat.le_of_ble_eq_true rfl) ?_
  refine g_iload_n d8_kindOf_0 rfl ?_
  refine g_bipushv (nI 97) d8_kindOf_1 rfl ?_
  refine g_ic_lt ((c : Nat) : Int) (97) 14 (nI_ti (by omega)) (by decide) d8_kindOf_3 rfl (fun c3 => ?_) (fun c3 => ?_)
  · refine g_iload_n d8_kindOf_14 rfl ?_
    refine g_bipushv (nI 48) d8_kindOf_15 rfl ?_
    refine g_ic_lt ((c : Nat) : Int) (48) 30 (nI_ti (by omega)) (by decide) d8_kindOf_17 rfl (fun c17 => ?_) (fun c17 => ?_)
    · refine g_iconstv (nI 3) d8_kindOf_30 rfl ?_
      exact g_iret rfl d8_kindOf_31 (⟨congrArg (fun z => some (Value.int z)) (by unfold kdc; first | (rw [if_pos (by omega)] <;> rfl) | (rw [if_neg (by omega), if_pos (by omega)] <;> rfl) | (rw [if_neg (by omega), if_neg (by omega)] <;> rfl)), rfl⟩)
    · refine g_iload_n d8_kindOf_20 rfl ?_
      refine g_bipushv (nI 57) d8_kindOf_21 rfl ?_
      refine g_ic_gt ((c : Nat) : Int) (57) 30 (nI_ti (by omega)) (by decide) d8_kindOf_23 rfl (fun c23 => ?_) (fun c23 => ?_)
      · refine g_iconstv (nI 3) d8_kindOf_30 rfl ?_
        exact g_iret rfl d8_kindOf_31 (⟨congrArg (fun z => some (Value.int z)) (by unfold kdc; first | (rw [if_pos (by omega)] <;> rfl) | (rw [if_neg (by omega), if_pos (by omega)] <;> rfl) | (rw [if_neg (by omega), if_neg (by omega)] <;> rfl)), rfl⟩)
      · refine g_iconstv (nI 2) d8_kindOf_26 rfl ?_
        refine g_goto 31 d8_kindOf_27 rfl ?_
        exact g_iret rfl d8_kindOf_31 (⟨congrArg (fun z => some (Value.int z)) (by unfold kdc; first | (rw [if_pos (by omega)] <;> rfl) | (rw [if_neg (by omega), if_pos (by omega)] <;> rfl) | (rw [if_neg (by omega), if_neg (by omega)] <;> rfl)), rfl⟩)
  · refine g_iload_n d8_kindOf_6 rfl ?_
    refine g_bipushv (nI 122) d8_kindOf_7 rfl ?_
    refine g_ic_gt ((c : Nat) : Int) (122) 14 (nI_ti (by omega)) (by decide) d8_kindOf_9 rfl (fun c9 => ?_) (fun c9 => ?_)
    · refine g_iload_n d8_kindOf_14 rfl ?_
      refine g_bipushv (nI 48) d8_kindOf_15 rfl ?_
      refine g_ic_lt ((c : Nat) : Int) (48) 30 (nI_ti (by omega)) (by decide) d8_kindOf_17 rfl (fun c17 => ?_) (fun c17 => ?_)
      · refine g_iconstv (nI 3) d8_kindOf_30 rfl ?_
        exact g_iret rfl d8_kindOf_31 (⟨congrArg (fun z => some (Value.int z)) (by unfold kdc; first | (rw [if_pos (by omega)] <;> rfl) | (rw [if_neg (by omega), if_pos (by omega)] <;> rfl) | (rw [if_neg (by omega), if_neg (by omega)] <;> rfl)), rfl⟩)
      · refine g_iload_n d8_kindOf_20 rfl ?_
        refine g_bipushv (nI 57) d8_kindOf_21 rfl ?_
        refine g_ic_gt ((c : Nat) : Int) (57) 30 (nI_ti (by omega)) (by decide) d8_kindOf_23 rfl (fun c23 => ?_) (fun c23 => ?_)
        · refine g_iconstv (nI 3) d8_kindOf_30 rfl ?_
          exact g_iret rfl d8_kindOf_31 (⟨congrArg (fun z => some (Value.int z)) (by unfold kdc; first | (rw [if_pos (by omega)] <;> rfl) | (rw [if_neg (by omega), if_pos (by omega)] <;> rfl) | (rw [if_neg (by omega), if_neg (by omega)] <;> rfl)), rfl⟩)
        · refine g_iconstv (nI 2) d8_kindOf_26 rfl ?_
          refine g_goto 31 d8_kindOf_27 rfl ?_
          exact g_iret rfl d8_kindOf_31 (⟨congrArg (fun z => some (Value.int z)) (by unfold kdc; first | (rw [if_pos (by omega)] <;> rfl) | (rw [if_neg (by omega), if_pos (by omega)] <;> rfl) | (rw [if_neg (by omega), if_neg (by omega)] <;> rfl)), rfl⟩)
    · refine g_iconstv (nI 1) d8_kindOf_12 rfl ?_
      exact g_iret rfl d8_kindOf_13 (⟨congrArg (fun z => some (Value.int z)) (by unfold kdc; first | (rw [if_pos (by omega)] <;> rfl) | (rw [if_neg (by omega), if_pos (by omega)] <;> rfl) | (rw [if_neg (by omega), if_neg (by omega)] <;> rfl)), rfl⟩)
set_option maxHeartbeats 400000 in
theorem r8_ad1 {l : Launch} {K : cK} {d : Nat} {I : wI} {L : wL} {R : wR} {dy : cH} {Q : Option Value → cH → Prop} (tp : Nat → Nat) (t : Nat) (hTP : TPc I tp t) : ∀ (m p : Nat), p + m = t → GL l K m8_advance d 0 0 46 [(0, .ref 12)] [] (hp (uI I 12 2 (nI (sk tp t p))) L R dy) Q → GL l K m8_advance d 0 0 8 [(0, .ref 12)] [] (hp (uI I 12 2 (nI p)) L R dy) Q := by
  obtain ⟨ht4, h8, h79, hb⟩ := id hTP
  intro m
  induction m with
  | zero =>
    intro p hm kk
    obtain rfl : t = p := by omega
    rw [show sk tp t t = t from ru_e (by omega)] at kk
    refine g_aload_n d8_advance_8 rfl ?_
    refine g_get fl8_25 d8_advance_9 f_12_2 ?_
    refine g_topI (nI (t)) (uI_ss) ?_
    refine g_aload_n d8_advance_12 rfl ?_
    refine g_get fl8_15 d8_advance_13 f_12_1 ?_
    refine g_topI (nI (t)) (h8) ?_
    refine g_ic_ge ((t : Nat) : Int) ((t : Nat) : Int) 46 (nI_ti (by omega)) (nI_ti (by omega)) d8_advance_16 rfl (fun _ => ?_) (fun c16 => absurd c16 (by omega))
    refine g_lo [(0, .ref 12)] ⟨rfl, trivial⟩ ?_
    exact kk
  | succ m ih =>
    intro p hm kk
    have hbp := hb p
    by_cases e : tp p = 32
    · rw [show sk tp t p = sk tp t (p + 1) from ru_s (by omega) (decide_eq_true e)] at kk
      refine g_aload_n d8_advance_8 rfl ?_
      refine g_get fl8_25 d8_advance_9 f_12_2 ?_
      refine g_topI (nI (p)) (uI_ss) ?_
      refine g_aload_n d8_advance_12 rfl ?_
      refine g_get fl8_15 d8_advance_13 f_12_1 ?_
      refine g_topI (nI (t)) (h8) ?_
      refine g_ic_ge ((p : Nat) : Int) ((t : Nat) : Int) 46 (nI_ti (by omega)) (nI_ti (by omega)) d8_advance_16 rfl (fun c16 => absurd c16 (by omega)) (fun _ => ?_)
      refine g_aload_n d8_advance_19 rfl ?_
      refine g_get fl8_9 d8_advance_20 f_12_0 ?_
      refine g_aload_n d8_advance_23 rfl ?_
      refine g_get fl8_25 d8_advance_24 f_12_2 ?_
      refine g_topI (nI (p)) (uI_ss) ?_
      refine g_ialdN (p) d8_advance_27 a_13 (rfl) (by omega) (by decide) ?_
      refine g_topI (nI (tp p)) (h79 p (by omega)) ?_
      refine g_bipushv (nI 32) d8_advance_28 rfl ?_
      refine g_ic_ne ((tp p : Nat) : Int) (32) 46 (nI_ti (by omega)) (by decide) d8_advance_30 rfl (fun c30 => absurd c30 (by omega)) (fun _ => ?_)
      refine g_aload_n d8_advance_33 rfl ?_
      refine g_dup d8_advance_34 rfl ?_
      refine g_get fl8_25 d8_advance_35 f_12_2 ?_
      refine g_topI (nI (p)) (uI_ss) ?_
      refine g_iconstv (nI 1) d8_advance_38 rfl ?_
      refine g_iaddN d8_advance_39 ?_
      refine g_putIh _ fl8_25 d8_advance_40 f_12_2 s_12_2 ?_
      refine g_goto 8 d8_advance_43 rfl ?_
      refine g_lo [(0, .ref 12)] ⟨rfl, trivial⟩ ?_
      rw [uI_uI]
      exact ih (p + 1) (by omega) kk
    · rw [show sk tp t p = p from ru_e (fun z => e (of_decide_eq_true z.2))] at kk
      refine g_aload_n d8_advance_8 rfl ?_
      refine g_get fl8_25 d8_advance_9 f_12_2 ?_
      refine g_topI (nI (p)) (uI_ss) ?_
      refine g_aload_n d8_advance_12 rfl ?_
      refine g_get fl8_15 d8_advance_13 f_12_1 ?_
      refine g_topI (nI (t)) (h8) ?_
      refine g_ic_ge ((p : Nat) : Int) ((t : Nat) : Int) 46 (nI_ti (by omega)) (nI_ti (by omega)) d8_advance_16 rfl (fun c16 => absurd c16 (by omega)) (fun _ => ?_)
      refine g_aload_n d8_advance_19 rfl ?_
      refine g_get fl8_9 d8_advance_20 f_12_0 ?_
      refine g_aload_n d8_advance_23 rfl ?_
      refine g_get fl8_25 d8_advance_24 f_12_2 ?_
      refine g_topI (nI (p)) (uI_ss) ?_
      refine g_ialdN (p) d8_advance_27 a_13 (rfl) (by omega) (by decide) ?_
      refine g_topI (nI (tp p)) (h79 p (by omega)) ?_
      refine g_bipushv (nI 32) d8_advance_28 rfl ?_
      refine g_ic_ne ((tp p : Nat) : Int) (32) 46 (nI_ti (by omega)) (by decide) d8_advance_30 rfl (fun _ => ?_) (fun c30 => absurd c30 (by omega))
      refine g_lo [(0, .ref 12)] ⟨rfl, trivial⟩ ?_
      exact kk
set_option maxHeartbeats 400000 in
theorem r8_ad2 {l : Launch} {K : cK} {d : Nat} {I : wI} {L : wL} {R : wR} {dy : cH} {Q : Option Value → cH → Prop} (tp : Nat → Nat) (t : Nat) (hTP : TPc I tp t) (k : Nat) (hk3 : k < 3) (h4 : I 12 4 = nI k) (hd : 1 ≤ d) : ∀ (m p : Nat), p + m = t → GL l K m8_advance d 0 0 153 [(0, .ref 12)] [] (hp (uI I 12 3 (nI (ru (fun q => decide (kdc (tp q) = k)) t p))) L R dy) Q → GL l K m8_advance d 0 0 102 [(0, .ref 12)] [] (hp (uI I 12 3 (nI p)) L R dy) Q := by
  obtain ⟨ht4, h8, h79, hb⟩ := id hTP
  intro m
  induction m with
  | zero =>
    intro p hm kk
    obtain rfl : t = p := by omega
    rw [show ru (fun q => decide (kdc (tp q) = k)) t t = t from ru_e (by omega)] at kk
    refine g_aload_n d8_advance_102 rfl ?_
    refine g_get fl8_31 d8_advance_103 f_12_4 ?_
    refine g_topI (nI (k)) ((uI_sf (by decide)).trans h4) ?_
    refine g_iconstv (nI 3) d8_advance_106 rfl ?_
    refine g_ic_eq ((k : Nat) : Int) (3) 153 (nI_ti (by omega)) (by decide) d8_advance_107 rfl (fun c107 => absurd c107 (by omega)) (fun _ => ?_)
    refine g_aload_n d8_advance_110 rfl ?_
    refine g_get fl8_19 d8_advance_111 f_12_3 ?_
    refine g_topI (nI (t)) (uI_ss) ?_
    refine g_aload_n d8_advance_114 rfl ?_
    refine g_get fl8_15 d8_advance_115 f_12_1 ?_
    refine g_topI (nI (t)) (h8) ?_
    refine g_ic_ge ((t : Nat) : Int) ((t : Nat) : Int) 153 (nI_ti (by omega)) (nI_ti (by omega)) d8_advance_118 rfl (fun _ => ?_) (fun c118 => absurd c118 (by omega))
    refine g_lo [(0, .ref 12)] ⟨rfl, trivial⟩ ?_
    exact kk
  | succ m ih =>
    intro p hm kk
    have hbp := hb p
    have hkl := kdc_lt (tp p)
    by_cases e : kdc (tp p) = k
    · rw [show ru (fun q => decide (kdc (tp q) = k)) t p = ru (fun q => decide (kdc (tp q) = k)) t (p + 1) from ru_s (by omega) (decide_eq_true e)] at kk
      refine g_aload_n d8_advance_102 rfl ?_
      refine g_get fl8_31 d8_advance_103 f_12_4 ?_
      refine g_topI (nI (k)) ((uI_sf (by decide)).trans h4) ?_
      refine g_iconstv (nI 3) d8_advance_106 rfl ?_
      refine g_ic_eq ((k : Nat) : Int) (3) 153 (nI_ti (by omega)) (by decide) d8_advance_107 rfl (fun c107 => absurd c107 (by omega)) (fun _ => ?_)
      refine g_aload_n d8_advance_110 rfl ?_
      refine g_get fl8_19 d8_advance_111 f_12_3 ?_
      refine g_topI (nI (p)) (uI_ss) ?_
      refine g_aload_n d8_advance_114 rfl ?_
      refine g_get fl8_15 d8_advance_115 f_12_1 ?_
      refine g_topI (nI (t)) (h8) ?_
      refine g_ic_ge ((p : Nat) : Int) ((t : Nat) : Int) 153 (nI_ti (by omega)) (nI_ti (by omega)) d8_advance_118 rfl (fun c118 => absurd c118 (by omega)) (fun _ => ?_)
      refine g_aload_n d8_advance_121 rfl ?_
      refine g_get fl8_9 d8_advance_122 f_12_0 ?_
      refine g_aload_n d8_advance_125 rfl ?_
      refine g_get fl8_19 d8_advance_126 f_12_3 ?_
      refine g_topI (nI (p)) (uI_ss) ?_
      refine g_ialdN (p) d8_advance_129 a_13 (rfl) (by omega) (by decide) ?_
      refine g_topI (nI (tp p)) (h79 p (by omega)) ?_
      refine g_ES1 sm8_kindOf ml8_34 (r8_kindOf (tp p) (by omega) (Nat.le_refl 0)) (by omega) (Nat.le_of_ble_eq_true rfl) d8_advance_130 ?_
      refine g_aload_n d8_advance_133 rfl ?_
      refine g_get fl8_31 d8_advance_134 f_12_4 ?_
      refine g_topI (nI (k)) ((uI_sf (by decide)).trans h4) ?_
      refine g_ic_ne (((kdc (tp p)) : Nat) : Int) ((k : Nat) : Int) 153 (nI_ti (by omega)) (nI_ti (by omega)) d8_advance_137 rfl (fun c137 => absurd c137 (by omega)) (fun _ => ?_)
      refine g_aload_n d8_advance_140 rfl ?_
      refine g_dup d8_advance_141 rfl ?_
      refine g_get fl8_19 d8_advance_142 f_12_3 ?_
      refine g_topI (nI (p)) (uI_ss) ?_
      refine g_iconstv (nI 1) d8_advance_145 rfl ?_
      refine g_iaddN d8_advance_146 ?_
      refine g_putIh _ fl8_19 d8_advance_147 f_12_3 s_12_3 ?_
      refine g_goto 102 d8_advance_150 rfl ?_
      refine g_lo [(0, .ref 12)] ⟨rfl, trivial⟩ ?_
      rw [uI_uI]
      exact ih (p + 1) (by omega) kk
    · rw [show ru (fun q => decide (kdc (tp q) = k)) t p = p from ru_e (fun z => e (of_decide_eq_true z.2))] at kk
      refine g_aload_n d8_advance_102 rfl ?_
      refine g_get fl8_31 d8_advance_103 f_12_4 ?_
      refine g_topI (nI (k)) ((uI_sf (by decide)).trans h4) ?_
      refine g_iconstv (nI 3) d8_advance_106 rfl ?_
      refine g_ic_eq ((k : Nat) : Int) (3) 153 (nI_ti (by omega)) (by decide) d8_advance_107 rfl (fun c107 => absurd c107 (by omega)) (fun _ => ?_)
      refine g_aload_n d8_advance_110 rfl ?_
      refine g_get fl8_19 d8_advance_111 f_12_3 ?_
      refine g_topI (nI (p)) (uI_ss) ?_
      refine g_aload_n d8_advance_114 rfl ?_
      refine g_get fl8_15 d8_advance_115 f_12_1 ?_
      refine g_topI (nI (t)) (h8) ?_
      refine g_ic_ge ((p : Nat) : Int) ((t : Nat) : Int) 153 (nI_ti (by omega)) (nI_ti (by omega)) d8_advance_118 rfl (fun c118 => absurd c118 (by omega)) (fun _ => ?_)
      refine g_aload_n d8_advance_121 rfl ?_
      refine g_get fl8_9 d8_advance_122 f_12_0 ?_
      refine g_aload_n d8_advance_125 rfl ?_
      refine g_get fl8_19 d8_advance_126 f_12_3 ?_
      refine g_topI (nI (p)) (uI_ss) ?_
      refine g_ialdN (p) d8_advance_129 a_13 (rfl) (by omega) (by decide) ?_
      refine g_topI (nI (tp p)) (h79 p (by omega)) ?_
      refine g_ES1 sm8_kindOf ml8_34 (r8_kindOf (tp p) (by omega) (Nat.le_refl 0)) (by omega) (Nat.le_of_ble_eq_true rfl) d8_advance_130 ?_
      refine g_aload_n d8_advance_133 rfl ?_
      refine g_get fl8_31 d8_advance_134 f_12_4 ?_
      refine g_topI (nI (k)) ((uI_sf (by decide)).trans h4) ?_
      refine g_ic_ne (((kdc (tp p)) : Nat) : Int) ((k : Nat) : Int) 153 (nI_ti (by omega)) (nI_ti (by omega)) d8_advance_137 rfl (fun _ => ?_) (fun c137 => absurd c137 (by omega))
      refine g_lo [(0, .ref 12)] ⟨rfl, trivial⟩ ?_
      exact kk
set_option maxHeartbeats 400000 in
theorem r8_ad3 {l : Launch} {K : cK} {d : Nat} {I : wI} {L : wL} {R : wR} {dy : cH} {Q : Option Value → cH → Prop} (tp : Nat → Nat) (t : Nat) (hTP : TPc I tp t) (f e : Nat) (het : e ≤ t) (h3 : I 12 3 = nI e) (h4 : I 12 4 = nI 2) (hd : 1 ≤ d) (hall : ∀ q, f ≤ q → q < e → isD (tp q)) : ∀ (m q : Nat), f + q + m = e → GL l K m8_advance d 0 0 206 [] [] (hp (uI I 12 5 (nI (cn tp f (q + m)))) L R dy) Q → GL l K m8_advance d 0 0 158 [(0, .ref 12), (1, .int (nI (f + q)))] [] (hp (uI I 12 5 (nI (cn tp f q))) L R dy) Q := by
  obtain ⟨ht4, h8, h79, hb⟩ := id hTP
  intro m
  induction m with
  | zero =>
    intro q hm kk
    obtain rfl : e = f + q := by omega
    refine g_aload_n d8_advance_158 rfl ?_
    refine g_get fl8_31 d8_advance_159 f_12_4 ?_
    refine g_topI (nI (2)) ((uI_sf (by decide)).trans h4) ?_
    refine g_iconstv (nI 2) d8_advance_162 rfl ?_
    refine g_ic_ne ((2 : Nat) : Int) (2) 206 (nI_ti (by omega)) (by decide) d8_advance_163 rfl (fun c163 => absurd c163 (by decide)) (fun _ => ?_)
    refine g_iload_n d8_advance_166 rfl ?_
    refine g_aload_n d8_advance_167 rfl ?_
    refine g_get fl8_19 d8_advance_168 f_12_3 ?_
    refine g_topI (nI (f + q)) ((uI_sf (by decide)).trans h3) ?_
    refine g_ic_ge (((f + q) : Nat) : Int) ((f + q : Nat) : Int) 206 (nI_ti (by omega)) (nI_ti (by omega)) d8_advance_171 rfl (fun _ => ?_) (fun c171 => absurd c171 (by omega))
    refine g_lo [] trivial ?_
    exact kk
  | succ m ih =>
    intro q hm kk
    have hbp := hb (f + q)
    have hdd := hall (f + q) (by omega) (by omega)
    have hcn := cn_le tp f q
    refine g_aload_n d8_advance_158 rfl ?_
    refine g_get fl8_31 d8_advance_159 f_12_4 ?_
    refine g_topI (nI (2)) ((uI_sf (by decide)).trans h4) ?_
    refine g_iconstv (nI 2) d8_advance_162 rfl ?_
    refine g_ic_ne ((2 : Nat) : Int) (2) 206 (nI_ti (by omega)) (by decide) d8_advance_163 rfl (fun c163 => absurd c163 (by decide)) (fun _ => ?_)
    refine g_iload_n d8_advance_166 rfl ?_
    refine g_aload_n d8_advance_167 rfl ?_
    refine g_get fl8_19 d8_advance_168 f_12_3 ?_
    refine g_topI (nI (e)) ((uI_sf (by decide)).trans h3) ?_
    refine g_ic_ge (((f + q) : Nat) : Int) ((e : Nat) : Int) 206 (nI_ti (by omega)) (nI_ti (by omega)) d8_advance_171 rfl (fun c171 => absurd c171 (by omega)) (fun _ => ?_)
    refine g_aload_n d8_advance_174 rfl ?_
    refine g_ldc d8_advance_175 ki8_38 ?_
    refine g_aload_n d8_advance_177 rfl ?_
    refine g_get fl8_28 d8_advance_178 f_12_5 ?_
    refine g_topI (nI (cn tp f q)) (uI_ss) ?_
    refine g_bipushv (nI 10) d8_advance_181 rfl ?_
    refine g_imulN d8_advance_183 ?_
    refine g_aload_n d8_advance_184 rfl ?_
    refine g_get fl8_9 d8_advance_185 f_12_0 ?_
    refine g_iload_n d8_advance_188 rfl ?_
    refine g_ialdN ((f + q)) d8_advance_189 a_13 (rfl) (by omega) (by decide) ?_
    refine g_topI (nI (tp (f + q))) (h79 (f + q) (by omega)) ?_
    refine g_iaddN d8_advance_190 ?_
    refine g_bipushv (nI 48) d8_advance_191 rfl ?_
    refine g_isubN (by omega) d8_advance_193 ?_
    refine g_min ml8_39 (by omega) (Nat.le_of_ble_eq_true rfl) d8_advance_194 ?_
    refine g_topI (nI (cn tp f (q + 1))) (by rw [show cn tp f (q + 1) = min 100000 (cn tp f q * 10 + (tp (f + q) - 48)) from rfl, show cn tp f q * 10 + tp (f + q) - 48 = cn tp f q * 10 + (tp (f + q) - 48) by omega]; exact nI_mn (a := 100000) (b := cn tp f q * 10 + (tp (f + q) - 48)) (by decide) (by omega)) ?_
    refine g_putIh _ fl8_28 d8_advance_197 f_12_5 s_12_5 ?_
    refine g_iincN d8_advance_200 rfl (by decide) ?_
    refine g_goto 158 d8_advance_203 rfl ?_
    refine g_lo [(0, .ref 12), (1, .int (nI (f + (q + 1))))] ⟨rfl, rfl, trivial⟩ ?_
    rw [uI_uI]
    exact ih (q + 1) (by omega) (by rw [show q + 1 + m = q + (m + 1) by omega]; exact kk)
theorem ru_1 (tp : Nat → Nat) : (fun q => decide (kdc (tp q) = 1)) = (fun q => decide (isL (tp q))) := by funext q; exact decide_eq_decide.2 kdc_1
theorem ru_2 (tp : Nat → Nat) : (fun q => decide (kdc (tp q) = 2)) = (fun q => decide (isD (tp q))) := by funext q; exact decide_eq_decide.2 kdc_2
/-- only the tape's token changes -/
def FTk (I I2 : wI) : Prop := (∀ k, k ≠ 12 → I2 k = I k) ∧ I2 12 1 = I 12 1
theorem FTk.u {I I2 : wI} (h : FTk I I2) {j : Nat} {x : Int32} (hj : 1 ≠ j) : FTk I (uI I2 12 j x) := ⟨fun k hk => by rw [uI_n hk]; exact h.1 k hk, (uI_sf hj).trans h.2⟩
theorem FTk.rf {I : wI} : FTk I I := ⟨fun _ _ => rfl, rfl⟩
theorem FTk.tp {I I2 : wI} (h : FTk I I2) {tp : Nat → Nat} {t : Nat} (hT : TPc I tp t) : TPc I2 tp t := ⟨hT.1, h.2.trans hT.2.1, fun q hq => by rw [h.1 13 (by decide)]; exact hT.2.2.1 q hq, hT.2.2.2⟩
set_option maxHeartbeats 1000000 in
theorem r8_advance {l : Launch} {K : cK} {d : Nat} {I : wI} {L : wL} {R : wR} {dy : cH} (tp : Nat → Nat) (t : Nat) (hTP : TPc I tp t) (p : Nat) (h3 : I 12 3 = nI p) (hpt : p ≤ t) (hd : 1 ≤ d) : CW l K m8_advance d [.ref 12] (hp I L R dy) (α := wI) (fun x => FTk I x ∧ TKc x tp t (sk tp t p)) (fun x => hp x L R dy) := by
  obtain ⟨ht4, h8, h79, hb⟩ := id hTP
  obtain ⟨hs1, hs2⟩ := ru_le (p := fun q => decide (tp q = 32)) hpt
  refine CC.of ok8_advance (Nat.le_of_ble_eq_true rfl) ?_
  refine g_aload_n d8_advance_0 rfl ?_
  refine g_aload_n d8_advance_1 rfl ?_
  refine g_get fl8_19 d8_advance_2 f_12_3 ?_
  refine g_topI (nI (p)) (h3) ?_
  refine g_putIh _ fl8_25 d8_advance_5 f_12_2 s_12_2 ?_
  refine g_lo [(0, .ref 12)] ⟨rfl, trivial⟩ ?_
  refine r8_ad1 tp t hTP (t - p) p (by omega) ?_
  have hbf := hb (sk tp t p)
  have hsk : sk tp t p ≤ t := hs2
  generalize sk tp t p = f at *
  by_cases hft : t ≤ f
  · have hk : kd tp t f = 0 := if_pos hft
    have he : tE tp t f = f := if_pos hk
    refine g_aload_n d8_advance_46 rfl ?_
    refine g_aload_n d8_advance_47 rfl ?_
    refine g_get fl8_25 d8_advance_48 f_12_2 ?_
    refine g_topI (nI (f)) (rfl) ?_
    refine g_putIh _ fl8_19 d8_advance_51 f_12_3 s_12_3 ?_
    refine g_aload_n d8_advance_54 rfl ?_
    refine g_iconstv (nI 0) d8_advance_55 rfl ?_
    refine g_putIh _ fl8_28 d8_advance_56 f_12_5 s_12_5 ?_
    refine g_aload_n d8_advance_59 rfl ?_
    refine g_get fl8_25 d8_advance_60 f_12_2 ?_
    refine g_topI (nI (f)) (rfl) ?_
    refine g_aload_n d8_advance_63 rfl ?_
    refine g_get fl8_15 d8_advance_64 f_12_1 ?_
    refine g_topI (nI (t)) (h8) ?_
    refine g_ic_lt ((f : Nat) : Int) ((t : Nat) : Int) 76 (nI_ti (by omega)) (nI_ti (by omega)) d8_advance_67 rfl (fun c67 => absurd c67 (by omega)) (fun _ => ?_)
    refine g_aload_n d8_advance_70 rfl ?_
    refine g_iconstv (nI 0) d8_advance_71 rfl ?_
    refine g_putIh _ fl8_31 d8_advance_72 f_12_4 s_12_4 ?_
    exact g_vret rfl d8_advance_75 (⟨uI (uI (uI (uI I 12 2 (nI f)) 12 3 (nI f)) 12 5 (nI 0)) 12 4 (nI 0), ⟨((((FTk.rf (I := I)).u (j := 2) (by decide)).u (j := 3) (by decide)).u (j := 5) (by decide)).u (j := 4) (by decide), by unfold TKc; rw [hk, he]; exact ⟨hsk, rfl, rfl, rfl, rfl⟩⟩, rfl, rfl⟩)
  · have hkc : kd tp t f = kdc (tp f) := kd_c (by omega)
    have hkl := kdc_lt (tp f)
    by_cases hk3 : kdc (tp f) = 3
    · have hk : kd tp t f = 3 := hkc.trans hk3
      have he : tE tp t f = f + 1 := by unfold tE; rw [hk]; rfl
      refine g_aload_n d8_advance_46 rfl ?_
      refine g_aload_n d8_advance_47 rfl ?_
      refine g_get fl8_25 d8_advance_48 f_12_2 ?_
      refine g_topI (nI (f)) (rfl) ?_
      refine g_putIh _ fl8_19 d8_advance_51 f_12_3 s_12_3 ?_
      refine g_aload_n d8_advance_54 rfl ?_
      refine g_iconstv (nI 0) d8_advance_55 rfl ?_
      refine g_putIh _ fl8_28 d8_advance_56 f_12_5 s_12_5 ?_
      refine g_aload_n d8_advance_59 rfl ?_
      refine g_get fl8_25 d8_advance_60 f_12_2 ?_
      refine g_topI (nI (f)) (rfl) ?_
      refine g_aload_n d8_advance_63 rfl ?_
      refine g_get fl8_15 d8_advance_64 f_12_1 ?_
      refine g_topI (nI (t)) (h8) ?_
      refine g_ic_lt ((f : Nat) : Int) ((t : Nat) : Int) 76 (nI_ti (by omega)) (nI_ti (by omega)) d8_advance_67 rfl (fun _ => ?_) (fun c67 => absurd c67 (by omega))
      refine g_aload_n d8_advance_76 rfl ?_
      refine g_aload_n d8_advance_77 rfl ?_
      refine g_get fl8_9 d8_advance_78 f_12_0 ?_
      refine g_aload_n d8_advance_81 rfl ?_
      refine g_get fl8_25 d8_advance_82 f_12_2 ?_
      refine g_topI (nI (f)) (rfl) ?_
      refine g_ialdN (f) d8_advance_85 a_13 (rfl) (by omega) (by decide) ?_
      refine g_topI (nI (tp f)) (h79 f (by omega)) ?_
      refine g_ES1 sm8_kindOf ml8_34 (r8_kindOf (tp f) (by omega) (Nat.le_refl 0)) (by omega) (Nat.le_of_ble_eq_true rfl) d8_advance_86 ?_
      refine g_putIh _ fl8_31 d8_advance_89 f_12_4 s_12_4 ?_
      refine g_aload_n d8_advance_92 rfl ?_
      refine g_dup d8_advance_93 rfl ?_
      refine g_get fl8_19 d8_advance_94 f_12_3 ?_
      refine g_topI (nI (f)) (rfl) ?_
      refine g_iconstv (nI 1) d8_advance_97 rfl ?_
      refine g_iaddN d8_advance_98 ?_
      refine g_putIh _ fl8_19 d8_advance_99 f_12_3 s_12_3 ?_
      refine g_aload_n d8_advance_102 rfl ?_
      refine g_get fl8_31 d8_advance_103 f_12_4 ?_
      refine g_topI (nI (3)) (by show nI (kdc (tp f)) = nI 3; rw [hk3]) ?_
      refine g_iconstv (nI 3) d8_advance_106 rfl ?_
      refine g_ic_eq ((3 : Nat) : Int) (3) 153 (nI_ti (by omega)) (by decide) d8_advance_107 rfl (fun _ => ?_) (fun c107 => absurd c107 (by decide))
      refine g_aload_n d8_advance_153 rfl ?_
      refine g_get fl8_25 d8_advance_154 f_12_2 ?_
      refine g_topI (nI (f)) (rfl) ?_
      refine g_istore_n d8_advance_157 (by decide) ?_
      refine g_aload_n d8_advance_158 rfl ?_
      refine g_get fl8_31 d8_advance_159 f_12_4 ?_
      refine g_topI (nI (3)) (by show nI (kdc (tp f)) = nI 3; rw [hk3]) ?_
      refine g_iconstv (nI 2) d8_advance_162 rfl ?_
      refine g_ic_ne ((3 : Nat) : Int) (2) 206 (nI_ti (by omega)) (by decide) d8_advance_163 rfl (fun _ => ?_) (fun c163 => absurd c163 (by decide))
      exact g_vret rfl d8_advance_206 (⟨(uI (uI (uI (uI (uI I 12 2 (nI f)) 12 3 (nI f)) 12 5 (nI 0)) 12 4 (nI (kdc (tp f)))) 12 3 (nI (f + 1))), ⟨(((((FTk.rf (I := I)).u (j := 2) (by decide)).u (j := 3) (by decide)).u (j := 5) (by decide)).u (j := 4) (by decide)).u (j := 3) (by decide), by unfold TKc; rw [hk, he]; exact ⟨hsk, rfl, rfl, by show nI (kdc (tp f)) = nI 3; rw [hk3], rfl⟩⟩, rfl, rfl⟩)
    · obtain ⟨he1, he2⟩ := ru_le (p := fun q => decide (kdc (tp q) = kdc (tp f))) (show f + 1 ≤ t by omega)
      have hru : ru (fun q => decide (kdc (tp q) = kdc (tp f))) t (f + 1) = tE tp t f := by
        unfold tE
        rw [hkc]
        rcases (by omega : kdc (tp f) = 1 ∨ kdc (tp f) = 2) with z | z
        · rw [z, if_neg (by decide), if_neg (by decide), if_pos rfl, ru_1]
          exact (ru_s (by omega) (decide_eq_true (kdc_1.1 z))).symm
        · rw [z, if_neg (by decide), if_neg (by decide), if_neg (by decide), ru_2]
          exact (ru_s (by omega) (decide_eq_true (kdc_2.1 z))).symm
      refine g_aload_n d8_advance_46 rfl ?_
      refine g_aload_n d8_advance_47 rfl ?_
      refine g_get fl8_25 d8_advance_48 f_12_2 ?_
      refine g_topI (nI (f)) (rfl) ?_
      refine g_putIh _ fl8_19 d8_advance_51 f_12_3 s_12_3 ?_
      refine g_aload_n d8_advance_54 rfl ?_
      refine g_iconstv (nI 0) d8_advance_55 rfl ?_
      refine g_putIh _ fl8_28 d8_advance_56 f_12_5 s_12_5 ?_
      refine g_aload_n d8_advance_59 rfl ?_
      refine g_get fl8_25 d8_advance_60 f_12_2 ?_
      refine g_topI (nI (f)) (rfl) ?_
      refine g_aload_n d8_advance_63 rfl ?_
      refine g_get fl8_15 d8_advance_64 f_12_1 ?_
      refine g_topI (nI (t)) (h8) ?_
      refine g_ic_lt ((f : Nat) : Int) ((t : Nat) : Int) 76 (nI_ti (by omega)) (nI_ti (by omega)) d8_advance_67 rfl (fun _ => ?_) (fun c67 => absurd c67 (by omega))
      refine g_aload_n d8_advance_76 rfl ?_
      refine g_aload_n d8_advance_77 rfl ?_
      refine g_get fl8_9 d8_advance_78 f_12_0 ?_
      refine g_aload_n d8_advance_81 rfl ?_
      refine g_get fl8_25 d8_advance_82 f_12_2 ?_
      refine g_topI (nI (f)) (rfl) ?_
      refine g_ialdN (f) d8_advance_85 a_13 (rfl) (by omega) (by decide) ?_
      refine g_topI (nI (tp f)) (h79 f (by omega)) ?_
      refine g_ES1 sm8_kindOf ml8_34 (r8_kindOf (tp f) (by omega) (Nat.le_refl 0)) (by omega) (Nat.le_of_ble_eq_true rfl) d8_advance_86 ?_
      refine g_putIh _ fl8_31 d8_advance_89 f_12_4 s_12_4 ?_
      refine g_aload_n d8_advance_92 rfl ?_
      refine g_dup d8_advance_93 rfl ?_
      refine g_get fl8_19 d8_advance_94 f_12_3 ?_
      refine g_topI (nI (f)) (rfl) ?_
      refine g_iconstv (nI 1) d8_advance_97 rfl ?_
      refine g_iaddN d8_advance_98 ?_
      refine g_putIh _ fl8_19 d8_advance_99 f_12_3 s_12_3 ?_
      refine g_lo [(0, .ref 12)] ⟨rfl, trivial⟩ ?_
      refine r8_ad2 (I := (uI (uI (uI (uI I 12 2 (nI f)) 12 3 (nI f)) 12 5 (nI 0)) 12 4 (nI (kdc (tp f))))) tp t ⟨ht4, h8, h79, hb⟩ (kdc (tp f)) (by omega) uI_ss hd (t - (f + 1)) (f + 1) (by omega) ?_
      rw [hru] at he1 he2 ⊢
      by_cases hk2 : kdc (tp f) = 2
      · have hall : ∀ q, f ≤ q → q < tE tp t f → isD (tp q) := fun q a b => by
          by_cases e : q = f
          · subst e; exact kdc_2.1 hk2
          · rw [← hru, hk2] at b
            exact kdc_2.1 (of_decide_eq_true (ru_all (p := fun q => decide (kdc (tp q) = 2)) (show f + 1 ≤ q by omega) b))
        refine g_aload_n d8_advance_153 rfl ?_
        refine g_get fl8_25 d8_advance_154 f_12_2 ?_
        refine g_topI (nI (f)) (rfl) ?_
        refine g_istore_n d8_advance_157 (by decide) ?_
        refine g_lo [(0, .ref 12), (1, .int (nI (f + 0)))] ⟨rfl, rfl, trivial⟩ ?_
        have key := r8_ad3 (l := l) (K := K) (d := d) (L := L) (R := R) (dy := dy) (I := (uI (uI (uI (uI (uI I 12 2 (nI f)) 12 3 (nI f)) 12 5 (nI 0)) 12 4 (nI (kdc (tp f)))) 12 3 (nI (tE tp t f)))) (Q := fun r h1 => ∃ x : wI, (FTk I x ∧ TKc x tp t f) ∧ r = none ∧ h1 = hp x L R dy) tp t ⟨ht4, h8, h79, hb⟩ f (tE tp t f) he2 uI_ss (by show nI (kdc (tp f)) = nI 2; rw [hk2]) hd hall (tE tp t f - f) 0 (by omega)
        rw [show uI (uI (uI (uI (uI (uI I 12 2 (nI f)) 12 3 (nI f)) 12 5 (nI 0)) 12 4 (nI (kdc (tp f)))) 12 3 (nI (tE tp t f))) 12 5 (nI (cn tp f 0)) = (uI (uI (uI (uI (uI I 12 2 (nI f)) 12 3 (nI f)) 12 5 (nI 0)) 12 4 (nI (kdc (tp f)))) 12 3 (nI (tE tp t f))) from uI_id rfl, Nat.zero_add] at key
        refine key ?_
        exact g_vret rfl d8_advance_206 ⟨_, ⟨((((((FTk.rf (I := I)).u (j := 2) (by decide)).u (j := 3) (by decide)).u (j := 5) (by decide)).u (j := 4) (by decide)).u (j := 3) (by decide)).u (j := 5) (by decide), by unfold TKc; rw [hkc, if_pos hk2]; exact ⟨hsk, rfl, rfl, rfl, rfl⟩⟩, rfl, rfl⟩
      · skip
        refine g_aload_n d8_advance_153 rfl ?_
        refine g_get fl8_25 d8_advance_154 f_12_2 ?_
        refine g_topI (nI (f)) (rfl) ?_
        refine g_istore_n d8_advance_157 (by decide) ?_
        refine g_aload_n d8_advance_158 rfl ?_
        refine g_get fl8_31 d8_advance_159 f_12_4 ?_
        refine g_topI (nI (kdc (tp f))) (rfl) ?_
        refine g_iconstv (nI 2) d8_advance_162 rfl ?_
        refine g_ic_ne ((kdc (tp f) : Nat) : Int) (2) 206 (nI_ti (by omega)) (by decide) d8_advance_163 rfl (fun _ => ?_) (fun c163 => absurd c163 (by omega))
        exact g_vret rfl d8_advance_206 (⟨_, ⟨(((((FTk.rf (I := I)).u (j := 2) (by decide)).u (j := 3) (by decide)).u (j := 5) (by decide)).u (j := 4) (by decide)).u (j := 3) (by decide), by unfold TKc; rw [hkc, if_neg hk2]; exact ⟨hsk, rfl, rfl, rfl, rfl⟩⟩, rfl, rfl⟩)
set_option maxHeartbeats 200000 in
theorem r8_begin {l : Launch} {K : cK} {d : Nat} {I : wI} {L : wL} {R : wR} {dy : cH} (tp : Nat → Nat) (t : Nat) (hTP : TPc I tp t) (hd : 2 ≤ d) : CW l K m8_begin d [.ref 12] (hp I L R dy) (α := wI) (fun x => FTk I x ∧ TKc x tp t (sk tp t 0)) (fun x => hp x L R dy) := by
  refine CC.of ok8_begin (Nat.le_of_ble_eq_true rfl) ?_
  refine g_aload_n d8_begin_0 rfl ?_
  refine g_iconstv (nI 0) d8_begin_1 rfl ?_
  refine g_putIh _ fl8_19 d8_begin_2 f_12_3 s_12_3 ?_
  refine g_aload_n d8_begin_5 rfl ?_
  refine g_WV0 vm8_advance ml8_22 c_12 (r8_advance (I := uI I 12 3 (nI 0)) tp t (((FTk.rf (I := I)).u (j := 3) (by decide)).tp hTP) 0 uI_ss (Nat.zero_le _) (Nat.le_refl 1)) (by omega) (Nat.le_of_ble_eq_true rfl) d8_begin_6 (fun x hx => ?_)
  exact g_vret rfl d8_begin_9 (⟨x, ⟨⟨fun k hk => (hx.1.1 k hk).trans (uI_n hk), hx.1.2⟩, hx.2⟩, rfl, rfl⟩)
set_option maxHeartbeats 200000 in
theorem r8_isSign {l : Launch} {K : cK} {d : Nat} {I : wI} {L : wL} {R : wR} {dy : cH} (tp : Nat → Nat) (t : Nat) (hTP : TPc I tp t) (f : Nat) (hK : TKc I tp t f) (c : Nat) (hc : c < 256) (hc0 : 0 < c) (hd : 0 ≤ d) : CE l K m8_isSign d [.ref 12, .int (nI c)] (hp I L R dy) (.int (if sg tp t f = c then 1 else 0)) (hp I L R dy) := by
  obtain ⟨ht4, h8, h79, hb⟩ := id hTP
  obtain ⟨k1, k2, k3, k4, k5⟩ := id hK
  have hkl := kd_le tp t f
  have hbf := hb f
  refine CC.of ok8_isSign (Nat.le_of_ble_eq_true rfl) ?_
  by_cases hk : kd tp t f = 3
  · have hft : f < t := by
      by_cases z : t ≤ f
      · rw [show kd tp t f = 0 from if_pos z] at hk; omega
      · omega
    have hs : sg tp t f = tp f := if_pos hk
    refine g_aload_n d8_isSign_0 rfl ?_
    refine g_get fl8_31 d8_isSign_1 f_12_4 ?_
    refine g_topI (nI (kd tp t f)) (k4) ?_
    refine g_iconstv (nI 3) d8_isSign_4 rfl ?_
    refine g_ic_ne ((kd tp t f : Nat) : Int) (3) 36 (nI_ti (by omega)) (by decide) d8_isSign_5 rfl (fun c5 => absurd c5 (by omega)) (fun _ => ?_)
    refine g_aload_n d8_isSign_8 rfl ?_
    refine g_get fl8_25 d8_isSign_9 f_12_2 ?_
    refine g_topI (nI (f)) (k2) ?_
    refine g_aload_n d8_isSign_12 rfl ?_
    refine g_get fl8_15 d8_isSign_13 f_12_1 ?_
    refine g_topI (nI (t)) (h8) ?_
    refine g_ic_ge ((f : Nat) : Int) ((t : Nat) : Int) 36 (nI_ti (by omega)) (nI_ti (by omega)) d8_isSign_16 rfl (fun c16 => absurd c16 (by omega)) (fun _ => ?_)
    refine g_aload_n d8_isSign_19 rfl ?_
    refine g_get fl8_9 d8_isSign_20 f_12_0 ?_
    refine g_aload_n d8_isSign_23 rfl ?_
    refine g_get fl8_25 d8_isSign_24 f_12_2 ?_
    refine g_topI (nI (f)) (k2) ?_
    refine g_ialdN (f) d8_isSign_27 a_13 (rfl) (by omega) (by decide) ?_
    refine g_topI (nI (tp f)) (h79 f (by omega)) ?_
    refine g_iload_n d8_isSign_28 rfl ?_
    refine g_ic_ne ((tp f : Nat) : Int) ((c : Nat) : Int) 36 (nI_ti (by omega)) (nI_ti (by omega)) d8_isSign_29 rfl (fun c29 => ?_) (fun c29 => ?_)
    · refine g_iconstv (nI 0) d8_isSign_36 rfl ?_
      exact g_zret rfl (by decide) d8_isSign_37 (⟨congrArg (fun z => some (Value.int z)) (by first | rw [if_pos (by omega)] <;> rfl | rw [if_neg (by omega)] <;> rfl), rfl⟩)
    · refine g_iconstv (nI 1) d8_isSign_32 rfl ?_
      refine g_goto 37 d8_isSign_33 rfl ?_
      exact g_zret rfl (by decide) d8_isSign_37 (⟨congrArg (fun z => some (Value.int z)) (by first | rw [if_pos (by omega)] <;> rfl | rw [if_neg (by omega)] <;> rfl), rfl⟩)
  · have hs : sg tp t f = 0 := if_neg hk
    refine g_aload_n d8_isSign_0 rfl ?_
    refine g_get fl8_31 d8_isSign_1 f_12_4 ?_
    refine g_topI (nI (kd tp t f)) (k4) ?_
    refine g_iconstv (nI 3) d8_isSign_4 rfl ?_
    refine g_ic_ne ((kd tp t f : Nat) : Int) (3) 36 (nI_ti (by omega)) (by decide) d8_isSign_5 rfl (fun _ => ?_) (fun c5 => absurd c5 (by omega))
    refine g_iconstv (nI 0) d8_isSign_36 rfl ?_
    exact g_zret rfl (by decide) d8_isSign_37 (⟨congrArg (fun z => some (Value.int z)) (by first | rw [if_pos (by omega)] <;> rfl | rw [if_neg (by omega)] <;> rfl), rfl⟩)
