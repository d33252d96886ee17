def eqB (tp : Nat → Nat) (f i a : Nat) : Nat → Bool
  | 0 => true
  | n + 1 => eqB tp f i a n && decide (scH i (a + n) = tp (f + n))
theorem eqB_s {tp : Nat → Nat} {f i a n : Nat} (h : eqB tp f i a n = true) (e : scH i (a + n) = tp (f + n)) : eqB tp f i a (n + 1) = true := by
  show (eqB tp f i a n && decide _) = true; rw [h, decide_eq_true e]; rfl
theorem eqB_n {tp : Nat → Nat} {f i a n : Nat} (e : ¬ scH i (a + n) = tp (f + n)) : ∀ m, eqB tp f i a (n + 1 + m) = false
  | 0 => by show (eqB tp f i a n && decide _) = false; rw [decide_eq_false e, Bool.and_false]
  | m + 1 => by show (eqB tp f i a (n + 1 + m) && decide _) = false; rw [eqB_n e m]; rfl
theorem eqB_all {tp : Nat → Nat} {f i a : Nat} : ∀ n, eqB tp f i a n = true ↔ ∀ q, q < n → scH i (a + q) = tp (f + q)
  | 0 => ⟨fun _ q h => by omega, fun _ => rfl⟩
  | n + 1 => by
    show (eqB tp f i a n && decide _) = true ↔ _
    rw [Bool.and_eq_true, decide_eq_true_eq, eqB_all n]
    refine ⟨fun h q hq => ?_, fun h => ⟨fun q hq => h q (by omega), h n (by omega)⟩⟩
    by_cases e : q = n
    · subst e; exact h.2
    · exact h.1 q (by omega)
/-- whether the token is that part of a String -/
def parB (tp : Nat → Nat) (f e i a b : Nat) : Bool := decide (b - a = e - f) && eqB tp f i a (b - a)
/-- the words of a String -/
def wls (i : Nat) : Nat → Nat → Nat → List (Nat × Nat)
  | 0, _, _ => []
  | k + 1, at_, fr => if at_ = scN i ∨ scH i at_ = 32 then (fr, at_) :: wls i k (at_ + 1) (at_ + 1) else wls i k (at_ + 1) fr
def fsT (p : Nat → Nat → Bool) : List (Nat × Nat) → Nat → Option Nat
  | [], _ => none
  | x :: r, w => if p x.1 x.2 = true then some w else fsT p r (w + 1)
set_option maxHeartbeats 400000 in
theorem r8_ipL {l : Launch} {K : cK} {d : Nat} {I : wI} {L : wL} {R : wR} {dy : cH} (tp : Nat → Nat) (t : Nat) (hTP : TPc I tp t) (f : Nat) (hK : TKc I tp t f) (i : Nat) (hi : i < 8) (a b : Nat) (hab : a ≤ b) (hbn : b ≤ scN i) (hlen : b - a = (tE tp t f) - f) (hd : 4 ≤ d) : ∀ m n, n + m = b - a → eqB tp f i a n = true → GL l K m8_isPartOf d 0 0 20 [(0, .ref 12), (1, .retAddr (8 + i)), (2, .int (nI a)), (3, .int (nI b)), (4, .int (nI n))] [] (hp I L R dy) (fun r h1 => r = some (.int (if parB tp f (tE tp t f) i a b = true then 1 else 0)) ∧ h1 = hp I L R dy) := by
  obtain ⟨ht4, h8, h79, hb⟩ := id hTP
  obtain ⟨k1, k2, k3, k4, k5⟩ := id hK
  obtain ⟨z1, z2, z3⟩ := tE_le (tp := tp) k1
  have hN := scN_all i hi
  intro m
  induction m with
  | zero =>
    intro n hm hn
    have hq : parB tp f (tE tp t f) i a b = true := by unfold parB; rw [decide_eq_true hlen, show b - a = n by omega, hn]; rfl
    refine g_iload d8_isPartOf_20 rfl ?_
    refine g_iload_n d8_isPartOf_22 rfl ?_
    refine g_iload_n d8_isPartOf_23 rfl ?_
    refine g_isubN (by omega) d8_isPartOf_24 ?_
    refine g_ic_ge ((n : Nat) : Int) (((b - a) : Nat) : Int) 59 (nI_ti (by omega)) (nI_ti (by omega)) d8_isPartOf_25 rfl (fun _ => ?_) (fun c25 => absurd c25 (by omega))
    refine g_iconstv (nI 1) d8_isPartOf_59 rfl ?_
    exact g_zret rfl (by decide) d8_isPartOf_60 (⟨by rw [if_pos hq]; rfl, rfl⟩)
  | succ m ih =>
    intro n hm hn
    have hbf := hb (f + n)
    obtain ⟨e1, e2⟩ := scH_all i hi (a + n) (by omega)
    refine g_iload d8_isPartOf_20 rfl ?_
    refine g_iload_n d8_isPartOf_22 rfl ?_
    refine g_iload_n d8_isPartOf_23 rfl ?_
    refine g_isubN (by omega) d8_isPartOf_24 ?_
    refine g_ic_ge ((n : Nat) : Int) (((b - a) : Nat) : Int) 59 (nI_ti (by omega)) (nI_ti (by omega)) d8_isPartOf_25 rfl (fun c25 => absurd c25 (by omega)) (fun _ => ?_)
    refine g_sload_n d8_isPartOf_28 rfl ?_
    refine g_iload_n d8_isPartOf_29 rfl ?_
    refine g_iload d8_isPartOf_30 rfl ?_
    refine g_iaddN d8_isPartOf_32 ?_
    refine g_callT (as := [.int (nI (a + n))]) (kc := 0) (ks := 0) hi vmSt_charAt rfl ml8_54 (rSt_charAt i hi (a + n) (by omega) (Nat.le_refl 3)) (by omega) (Nat.le_of_ble_eq_true rfl) d8_isPartOf_33 (fun r h1 hq => ?_)
    obtain ⟨rfl, rfl⟩ := hq
    show GL l K m8_isPartOf d 0 0 36 _ (.int (nI (scH i (a + n))) :: []) _ _
    by_cases e : scH i (a + n) = tp (f + n)
    · skip
      refine g_aload_n d8_isPartOf_36 rfl ?_
      refine g_get fl8_9 d8_isPartOf_37 f_12_0 ?_
      refine g_aload_n d8_isPartOf_40 rfl ?_
      refine g_get fl8_25 d8_isPartOf_41 f_12_2 ?_
      refine g_topI (nI (f)) (k2) ?_
      refine g_iload d8_isPartOf_44 rfl ?_
      refine g_iaddN d8_isPartOf_46 ?_
      refine g_ialdN ((f + n)) d8_isPartOf_47 a_13 (rfl) (by omega) (by decide) ?_
      refine g_topI (nI (tp (f + n))) (h79 (f + n) (by omega)) ?_
      refine g_ic_eq (((scH i (a + n)) : Nat) : Int) ((tp (f + n) : Nat) : Int) 53 (nI_ti (by omega)) (nI_ti (by omega)) d8_isPartOf_48 rfl (fun _ => ?_) (fun c48 => absurd c48 (by omega))
      refine g_iincN d8_isPartOf_53 rfl (by decide) ?_
      refine g_goto 20 d8_isPartOf_56 rfl ?_
      refine g_lo [(0, .ref 12), (1, .retAddr (8 + i)), (2, .int (nI a)), (3, .int (nI b)), (4, .int (nI (n + 1)))] ⟨rfl, rfl, rfl, rfl, rfl, trivial⟩ ?_
      exact ih (n + 1) (by omega) (eqB_s hn e)
    · have hq : ¬ parB tp f (tE tp t f) i a b = true := by
        unfold parB
        rw [show b - a = n + 1 + (b - a - (n + 1)) by omega, eqB_n e, Bool.and_false]; decide
      refine g_aload_n d8_isPartOf_36 rfl ?_
      refine g_get fl8_9 d8_isPartOf_37 f_12_0 ?_
      refine g_aload_n d8_isPartOf_40 rfl ?_
      refine g_get fl8_25 d8_isPartOf_41 f_12_2 ?_
      refine g_topI (nI (f)) (k2) ?_
      refine g_iload d8_isPartOf_44 rfl ?_
      refine g_iaddN d8_isPartOf_46 ?_
      refine g_ialdN ((f + n)) d8_isPartOf_47 a_13 (rfl) (by omega) (by decide) ?_
      refine g_topI (nI (tp (f + n))) (h79 (f + n) (by omega)) ?_
      refine g_ic_eq (((scH i (a + n)) : Nat) : Int) ((tp (f + n) : Nat) : Int) 53 (nI_ti (by omega)) (nI_ti (by omega)) d8_isPartOf_48 rfl (fun c48 => absurd c48 (by omega)) (fun _ => ?_)
      refine g_iconstv (nI 0) d8_isPartOf_51 rfl ?_
      exact g_zret rfl (by decide) d8_isPartOf_52 (⟨by rw [if_neg hq]; rfl, rfl⟩)
set_option maxHeartbeats 200000 in
theorem r8_isPartOf {l : Launch} {K : cK} {d : Nat} {I : wI} {L : wL} {R : wR} {dy : cH} (tp : Nat → Nat) (t : Nat) (hTP : TPc I tp t) (f : Nat) (hK : TKc I tp t f) (i : Nat) (hi : i < 8) (a b : Nat) (hab : a ≤ b) (hbn : b ≤ scN i) (hd : 4 ≤ d) : CE l K m8_isPartOf d [.ref 12, .retAddr (8 + i), .int (nI a), .int (nI b)] (hp I L R dy) (.int (if parB tp f (tE tp t f) i a b = true then 1 else 0)) (hp I L R dy) := by
  obtain ⟨ht4, h8, h79, hb⟩ := id hTP
  obtain ⟨k1, k2, k3, k4, k5⟩ := id hK
  obtain ⟨z1, z2, z3⟩ := tE_le (tp := tp) k1
  have hN := scN_all i hi
  by_cases hlen : b - a = (tE tp t f) - f
  · refine CC.of ok8_isPartOf (Nat.le_of_ble_eq_true rfl) ?_
    refine g_iload_n d8_isPartOf_0 rfl ?_
    refine g_iload_n d8_isPartOf_1 rfl ?_
    refine g_isubN (by omega) d8_isPartOf_2 ?_
    refine g_aload_n d8_isPartOf_3 rfl ?_
    refine g_get fl8_19 d8_isPartOf_4 f_12_3 ?_
    refine g_topI (nI (tE tp t f)) (k3) ?_
    refine g_aload_n d8_isPartOf_7 rfl ?_
    refine g_get fl8_25 d8_isPartOf_8 f_12_2 ?_
    refine g_topI (nI (f)) (k2) ?_
    refine g_isubN (by omega) d8_isPartOf_11 ?_
    refine g_ic_eq (((b - a) : Nat) : Int) (((tE tp t f - f) : Nat) : Int) 17 (nI_ti (by omega)) (nI_ti (by omega)) d8_isPartOf_12 rfl (fun _ => ?_) (fun c12 => absurd c12 (by omega))
    refine g_iconstv (nI 0) d8_isPartOf_17 rfl ?_
    refine g_istore d8_isPartOf_18 (by decide) ?_
    refine g_lo [(0, .ref 12), (1, .retAddr (8 + i)), (2, .int (nI a)), (3, .int (nI b)), (4, .int (nI 0))] ⟨rfl, rfl, rfl, rfl, rfl, trivial⟩ ?_
    exact r8_ipL tp t hTP f hK i hi a b hab hbn hlen hd (b - a) 0 (by omega) rfl
  · have hq : ¬ parB tp f (tE tp t f) i a b = true := by unfold parB; rw [decide_eq_false hlen, Bool.false_and]; decide
    refine CC.of ok8_isPartOf (Nat.le_of_ble_eq_true rfl) ?_
    refine g_iload_n d8_isPartOf_0 rfl ?_
    refine g_iload_n d8_isPartOf_1 rfl ?_
    refine g_isubN (by omega) d8_isPartOf_2 ?_
    refine g_aload_n d8_isPartOf_3 rfl ?_
    refine g_get fl8_19 d8_isPartOf_4 f_12_3 ?_
    refine g_topI (nI (tE tp t f)) (k3) ?_
    refine g_aload_n d8_isPartOf_7 rfl ?_
    refine g_get fl8_25 d8_isPartOf_8 f_12_2 ?_
    refine g_topI (nI (f)) (k2) ?_
    refine g_isubN (by omega) d8_isPartOf_11 ?_
    refine g_ic_eq (((b - a) : Nat) : Int) (((tE tp t f - f) : Nat) : Int) 17 (nI_ti (by omega)) (nI_ti (by omega)) d8_isPartOf_12 rfl (fun c12 => absurd c12 (by omega)) (fun _ => ?_)
    refine g_iconstv (nI 0) d8_isPartOf_15 rfl ?_
    exact g_zret rfl (by decide) d8_isPartOf_16 (⟨by rw [if_neg hq]; rfl, rfl⟩)
set_option maxHeartbeats 400000 in
theorem r8_wiL {l : Launch} {K : cK} {d : Nat} {I : wI} {L : wL} {R : wR} {dy : cH} (tp : Nat → Nat) (t : Nat) (hTP : TPc I tp t) (f : Nat) (hK : TKc I tp t f) (i : Nat) (hi : i < 8) (hd : 5 ≤ d) : ∀ k a w fr, a + k = scN i + 1 → fr ≤ a → GL l K m8_wordIn d 0 0 17 [(0, .ref 12), (1, .retAddr (8 + i)), (2, .int (nI w)), (3, .int (nI fr)), (4, .int (nI a))] [] (hp I L R dy) (fun r h1 => r = some (.int (bI (fsT (parB tp f (tE tp t f) i) (wls i k a fr) w))) ∧ h1 = hp I L R dy) := by
  have hN := scN_all i hi
  intro k
  induction k with
  | zero =>
    intro a w fr hk hf
    refine g_iload d8_wordIn_17 rfl ?_
    refine g_sload_n d8_wordIn_19 rfl ?_
    refine g_callT (as := []) (kc := 0) (ks := 0) hi vmSt_length rfl ml8_49 (rSt_length i hi (Nat.le_refl 1)) (by omega) (Nat.le_of_ble_eq_true rfl) d8_wordIn_20 (fun r h1 hq => ?_)
    obtain ⟨rfl, rfl⟩ := hq
    show GL l K m8_wordIn d 0 0 23 _ (.int (nI (scN i)) :: [.int (nI a)]) _ _
    refine g_ic_gt ((a : Nat) : Int) (((scN i) : Nat) : Int) 73 (nI_ti (by omega)) (nI_ti (by omega)) d8_wordIn_23 rfl (fun _ => ?_) (fun c23 => absurd c23 (by omega))
    refine g_iconstv ((-1 : Int32)) d8_wordIn_73 rfl ?_
    exact g_iret rfl d8_wordIn_74 (⟨rfl, rfl⟩)
  | succ k ih =>
    intro a w fr hk hf
    refine g_iload d8_wordIn_17 rfl ?_
    refine g_sload_n d8_wordIn_19 rfl ?_
    refine g_callT (as := []) (kc := 0) (ks := 0) hi vmSt_length rfl ml8_49 (rSt_length i hi (Nat.le_refl 1)) (by omega) (Nat.le_of_ble_eq_true rfl) d8_wordIn_20 (fun r h1 hq => ?_)
    obtain ⟨rfl, rfl⟩ := hq
    show GL l K m8_wordIn d 0 0 23 _ (.int (nI (scN i)) :: [.int (nI a)]) _ _
    refine g_ic_gt ((a : Nat) : Int) (((scN i) : Nat) : Int) 73 (nI_ti (by omega)) (nI_ti (by omega)) d8_wordIn_23 rfl (fun c23 => absurd c23 (by omega)) (fun _ => ?_)
    refine g_iload d8_wordIn_26 rfl ?_
    refine g_sload_n d8_wordIn_28 rfl ?_
    refine g_callT (as := []) (kc := 0) (ks := 0) hi vmSt_length rfl ml8_49 (rSt_length i hi (Nat.le_refl 1)) (by omega) (Nat.le_of_ble_eq_true rfl) d8_wordIn_29 (fun r h1 hq => ?_)
    obtain ⟨rfl, rfl⟩ := hq
    show GL l K m8_wordIn d 0 0 32 _ (.int (nI (scN i)) :: [.int (nI a)]) _ _
    have hword : (a = scN i ∨ scH i a = 32) → GL l K m8_wordIn d 0 0 46 [(0, .ref 12), (1, .retAddr (8 + i)), (2, .int (nI w)), (3, .int (nI fr)), (4, .int (nI a))] [] (hp I L R dy) (fun r h1 => r = some (.int (bI (fsT (parB tp f (tE tp t f) i) (wls i (k + 1) a fr) w))) ∧ h1 = hp I L R dy) := fun hc => by
      have e0 : wls i (k + 1) a fr = (fr, a) :: wls i k (a + 1) (a + 1) := if_pos hc
      rw [e0]
      by_cases hp1 : parB tp f (tE tp t f) i fr a = true
      · have e1 : fsT (parB tp f (tE tp t f) i) ((fr, a) :: wls i k (a + 1) (a + 1)) w = some w := if_pos hp1
        rw [e1]
        refine g_aload_n d8_wordIn_46 rfl ?_
        refine g_sload_n d8_wordIn_47 rfl ?_
        refine g_iload_n d8_wordIn_48 rfl ?_
        refine g_iload d8_wordIn_49 rfl ?_
        refine g_EV3 vm8_isPartOf ml8_58 c_12 (r8_isPartOf tp t hTP f hK i hi fr a hf (by omega) (Nat.le_refl 4)) (by omega) (Nat.le_of_ble_eq_true rfl) d8_wordIn_51 ?_
        refine g_bz 59 d8_wordIn_54 rfl (fun c54 => absurd c54 (fun z => z hp1)) (fun _ => ?_)
        refine g_iload_n d8_wordIn_57 rfl ?_
        exact g_iret rfl d8_wordIn_58 (⟨rfl, rfl⟩)
      · have e1 : fsT (parB tp f (tE tp t f) i) ((fr, a) :: wls i k (a + 1) (a + 1)) w = fsT (parB tp f (tE tp t f) i) (wls i k (a + 1) (a + 1)) (w + 1) := if_neg hp1
        rw [e1]
        refine g_aload_n d8_wordIn_46 rfl ?_
        refine g_sload_n d8_wordIn_47 rfl ?_
        refine g_iload_n d8_wordIn_48 rfl ?_
        refine g_iload d8_wordIn_49 rfl ?_
        refine g_EV3 vm8_isPartOf ml8_58 c_12 (r8_isPartOf tp t hTP f hK i hi fr a hf (by omega) (Nat.le_refl 4)) (by omega) (Nat.le_of_ble_eq_true rfl) d8_wordIn_51 ?_
        refine g_bz 59 d8_wordIn_54 rfl (fun _ => ?_) (fun c54 => absurd c54 (hp1))
        refine g_iincN d8_wordIn_59 rfl (by decide) ?_
        refine g_iload d8_wordIn_62 rfl ?_
        refine g_iconstv (nI 1) d8_wordIn_64 rfl ?_
        refine g_iaddN d8_wordIn_65 ?_
        refine g_istore_n d8_wordIn_66 (by decide) ?_
        refine g_iincN d8_wordIn_67 rfl (by decide) ?_
        refine g_goto 17 d8_wordIn_70 rfl ?_
        refine g_lo [(0, .ref 12), (1, .retAddr (8 + i)), (2, .int (nI (w + 1))), (3, .int (nI (a + 1))), (4, .int (nI (a + 1)))] ⟨rfl, rfl, rfl, rfl, rfl, trivial⟩ ?_
        exact ih (a + 1) (w + 1) (a + 1) (by omega) (Nat.le_refl _)
    by_cases ea : a = scN i
    · skip
      refine g_ic_eq ((a : Nat) : Int) (((scN i) : Nat) : Int) 46 (nI_ti (by omega)) (nI_ti (by omega)) d8_wordIn_32 rfl (fun _ => ?_) (fun c32 => absurd c32 (by omega))
      refine g_lo [(0, .ref 12), (1, .retAddr (8 + i)), (2, .int (nI w)), (3, .int (nI fr)), (4, .int (nI a))] ⟨rfl, rfl, rfl, rfl, rfl, trivial⟩ ?_
      exact hword (Or.inl ea)
    · obtain ⟨q1, q2⟩ := scH_all i hi a (by omega)
      refine g_ic_eq ((a : Nat) : Int) (((scN i) : Nat) : Int) 46 (nI_ti (by omega)) (nI_ti (by omega)) d8_wordIn_32 rfl (fun c32 => absurd c32 (by omega)) (fun _ => ?_)
      refine g_sload_n d8_wordIn_35 rfl ?_
      refine g_iload d8_wordIn_36 rfl ?_
      refine g_callT (as := [.int (nI a)]) (kc := 0) (ks := 0) hi vmSt_charAt rfl ml8_54 (rSt_charAt i hi a (by omega) (Nat.le_refl 3)) (by omega) (Nat.le_of_ble_eq_true rfl) d8_wordIn_38 (fun r h1 hq => ?_)
      obtain ⟨rfl, rfl⟩ := hq
      show GL l K m8_wordIn d 0 0 41 _ (.int (nI (scH i a)) :: []) _ _
      by_cases es : scH i a = 32
      · skip
        refine g_bipushv (nI 32) d8_wordIn_41 rfl ?_
        refine g_ic_ne (((scH i a) : Nat) : Int) (32) 67 (nI_ti (by omega)) (by decide) d8_wordIn_43 rfl (fun c43 => absurd c43 (by omega)) (fun _ => ?_)
        refine g_lo [(0, .ref 12), (1, .retAddr (8 + i)), (2, .int (nI w)), (3, .int (nI fr)), (4, .int (nI a))] ⟨rfl, rfl, rfl, rfl, rfl, trivial⟩ ?_
        exact hword (Or.inr es)
      · have e0 : wls i (k + 1) a fr = wls i k (a + 1) fr := if_neg (fun z => z.elim ea es)
        rw [e0]
        refine g_bipushv (nI 32) d8_wordIn_41 rfl ?_
        refine g_ic_ne (((scH i a) : Nat) : Int) (32) 67 (nI_ti (by omega)) (by decide) d8_wordIn_43 rfl (fun _ => ?_) (fun c43 => absurd c43 (by omega))
        refine g_iincN d8_wordIn_67 rfl (by decide) ?_
        refine g_goto 17 d8_wordIn_70 rfl ?_
        refine g_lo [(0, .ref 12), (1, .retAddr (8 + i)), (2, .int (nI w)), (3, .int (nI fr)), (4, .int (nI (a + 1)))] ⟨rfl, rfl, rfl, rfl, rfl, trivial⟩ ?_
        exact ih (a + 1) w fr (by omega) (by omega)
/-- which of a String's words the token is -/
def wrd (tp : Nat → Nat) (t f i : Nat) : Option Nat := if kd tp t f = 1 then fsT (parB tp f (tE tp t f) i) (wls i (scN i + 1) 0 0) 0 else none
set_option maxHeartbeats 200000 in
theorem r8_wordIn {l : Launch} {K : cK} {d : Nat} {I : wI} {L : wL} {R : wR} {dy : cH} (tp : Nat → Nat) (t : Nat) (hTP : TPc I tp t) (f : Nat) (hK : TKc I tp t f) (i : Nat) (hi : i < 8) (hd : 5 ≤ d) : CE l K m8_wordIn d [.ref 12, .retAddr (8 + i)] (hp I L R dy) (.int (bI (wrd tp t f i))) (hp I L R dy) := by
  obtain ⟨ht4, h8, h79, hb⟩ := id hTP
  obtain ⟨k1, k2, k3, k4, k5⟩ := id hK
  obtain ⟨z1, z2, z3⟩ := tE_le (tp := tp) k1
  have hkl := kd_le tp t f
  by_cases hk : kd tp t f = 1
  · have e0 : wrd tp t f i = fsT (parB tp f (tE tp t f) i) (wls i (scN i + 1) 0 0) 0 := if_pos hk
    rw [e0]
    refine CC.of ok8_wordIn (Nat.le_of_ble_eq_true rfl) ?_
    refine g_aload_n d8_wordIn_0 rfl ?_
    refine g_get fl8_31 d8_wordIn_1 f_12_4 ?_
    refine g_topI (nI (kd tp t f)) (k4) ?_
    refine g_iconstv (nI 1) d8_wordIn_4 rfl ?_
    refine g_ic_eq ((kd tp t f : Nat) : Int) (1) 10 (nI_ti (by omega)) (by decide) d8_wordIn_5 rfl (fun _ => ?_) (fun c5 => absurd c5 (by omega))
    refine g_iconstv (nI 0) d8_wordIn_10 rfl ?_
    refine g_istore_n d8_wordIn_11 (by decide) ?_
    refine g_iconstv (nI 0) d8_wordIn_12 rfl ?_
    refine g_istore_n d8_wordIn_13 (by decide) ?_
    refine g_iconstv (nI 0) d8_wordIn_14 rfl ?_
    refine g_istore d8_wordIn_15 (by decide) ?_
    refine g_lo [(0, .ref 12), (1, .retAddr (8 + i)), (2, .int (nI 0)), (3, .int (nI 0)), (4, .int (nI 0))] ⟨rfl, rfl, rfl, rfl, rfl, trivial⟩ ?_
    exact r8_wiL tp t hTP f hK i hi hd (scN i + 1) 0 0 0 (by omega) (Nat.le_refl _)
  · have e0 : wrd tp t f i = none := if_neg hk
    rw [e0]
    refine CC.of ok8_wordIn (Nat.le_of_ble_eq_true rfl) ?_
    refine g_aload_n d8_wordIn_0 rfl ?_
    refine g_get fl8_31 d8_wordIn_1 f_12_4 ?_
    refine g_topI (nI (kd tp t f)) (k4) ?_
    refine g_iconstv (nI 1) d8_wordIn_4 rfl ?_
    refine g_ic_eq ((kd tp t f : Nat) : Int) (1) 10 (nI_ti (by omega)) (by decide) d8_wordIn_5 rfl (fun c5 => absurd c5 (by omega)) (fun _ => ?_)
    refine g_iconstv ((-1 : Int32)) d8_wordIn_8 rfl ?_
    exact g_iret rfl d8_wordIn_9 (⟨rfl, rfl⟩)
