theorem gcd_stp {a b : Nat} : Nat.gcd b (a % b) = Nat.gcd a b := by rw [Nat.gcd_comm b (a % b), ← Nat.gcd_rec b a, Nat.gcd_comm b a]
theorem gcd_hlf {a b k : Nat} (h0 : 0 < a % b) (hb : b < 2 ^ (k + 1)) (hb0 : 0 < b) : b % (a % b) < 2 ^ k := by
  have h1 := Nat.mod_lt a hb0
  have h2 := Nat.mod_lt b h0
  have h3 : b % (a % b) ≤ b - a % b := by
    rw [Nat.mod_eq_sub_mod (Nat.le_of_lt h1)]; exact Nat.mod_le _ _
  rw [Nat.pow_succ] at hb
  omega
theorem r2_reL {l : Launch} {K : cK} {d : Nat} {h : cH} {Q : Option Value → cH → Prop} : ∀ (k a b c : Nat), b < 2 ^ k → a < 2 ^ 62 → b < 2 ^ 62 → c + 2 * k + 1 ≤ 200 → GL l K m2_reduce d 0 0 43 [(0, .ref 51), (1, .long (lN (Nat.gcd a b)))] [] h Q → GL l K m2_reduce d 0 0 13 [(0, .ref 51), (1, .long (lN a)), (3, .long (lN b)), (5, .int (nI c))] [] h Q := by
  intro k
  induction k with
  | zero =>
    intro a b c hb ha hb2 hc kk
    obtain rfl : b = 0 := by omega
    refine g_iload d2_reduce_13 rfl ?_
    refine g_sipushv (nI 200) d2_reduce_15 rfl ?_
    refine g_ic_ge ((c : Nat) : Int) (200) 43 (nI_ti (by omega)) (by decide) d2_reduce_18 rfl (fun c18 => absurd c18 (by omega)) (fun _ => ?_)
    refine g_lload_n d2_reduce_21 rfl ?_
    refine g_lconstv (0) d2_reduce_22 rfl ?_
    refine g_lx_eq ((0 : Nat) : Int) (0) 43 (pk_lT (by omega)) (by decide) d2_reduce_23 d2_reduce_24 rfl (fun _ => ?_) (fun c23 => absurd c23 (by omega))
    refine g_lo [(0, .ref 51), (1, .long (lN (Nat.gcd a 0)))] ⟨rfl, by rw [Nat.gcd_zero_right]; rfl, trivial⟩ ?_
    exact kk
  | succ k ih =>
    intro a b c hb ha hb2 hc kk
    by_cases e : b = 0
    · subst e
      refine g_iload d2_reduce_13 rfl ?_
      refine g_sipushv (nI 200) d2_reduce_15 rfl ?_
      refine g_ic_ge ((c : Nat) : Int) (200) 43 (nI_ti (by omega)) (by decide) d2_reduce_18 rfl (fun c18 => absurd c18 (by omega)) (fun _ => ?_)
      refine g_lload_n d2_reduce_21 rfl ?_
      refine g_lconstv (0) d2_reduce_22 rfl ?_
      refine g_lx_eq ((0 : Nat) : Int) (0) 43 (pk_lT (by omega)) (by decide) d2_reduce_23 d2_reduce_24 rfl (fun _ => ?_) (fun c23 => absurd c23 (by omega))
      refine g_lo [(0, .ref 51), (1, .long (lN (Nat.gcd a 0)))] ⟨rfl, by rw [Nat.gcd_zero_right]; rfl, trivial⟩ ?_
      exact kk
    · have hlt := Nat.mod_lt a (show 0 < b by omega)
      rw [← gcd_stp] at kk
      refine g_iload d2_reduce_13 rfl ?_
      refine g_sipushv (nI 200) d2_reduce_15 rfl ?_
      refine g_ic_ge ((c : Nat) : Int) (200) 43 (nI_ti (by omega)) (by decide) d2_reduce_18 rfl (fun c18 => absurd c18 (by omega)) (fun _ => ?_)
      refine g_lload_n d2_reduce_21 rfl ?_
      refine g_lconstv (0) d2_reduce_22 rfl ?_
      refine g_lx_eq ((b : Nat) : Int) (0) 43 (pk_lT (by omega)) (by decide) d2_reduce_23 d2_reduce_24 rfl (fun c23 => absurd c23 (by omega)) (fun _ => ?_)
      refine g_lload_n d2_reduce_27 rfl ?_
      refine g_lload_n d2_reduce_28 rfl ?_
      refine g_lrem d2_reduce_29 (lN_ne (by omega) (by omega)) ?_
      refine g_topL (lN (a % b)) (pk_lRem (b := b) (by omega) (by omega) (by omega)) ?_
      refine g_lstore d2_reduce_30 (by decide) ?_
      refine g_lload_n d2_reduce_32 rfl ?_
      refine g_lstore_n d2_reduce_33 (by decide) ?_
      refine g_lload d2_reduce_34 rfl ?_
      refine g_lstore_n d2_reduce_36 (by decide) ?_
      refine g_iincN d2_reduce_37 rfl (by decide) ?_
      refine g_goto 13 d2_reduce_40 rfl ?_
      refine g_lo [(0, .ref 51), (1, .long (lN b)), (3, .long (lN (a % b))), (5, .int (nI (c + 1)))] ⟨rfl, rfl, rfl, rfl, trivial⟩ ?_
      by_cases e2 : a % b = 0
      · rw [e2] at kk ⊢
        refine g_iload d2_reduce_13 rfl ?_
        refine g_sipushv (nI 200) d2_reduce_15 rfl ?_
        refine g_ic_ge (((c + 1) : Nat) : Int) (200) 43 (nI_ti (by omega)) (by decide) d2_reduce_18 rfl (fun c18 => absurd c18 (by omega)) (fun _ => ?_)
        refine g_lload_n d2_reduce_21 rfl ?_
        refine g_lconstv (0) d2_reduce_22 rfl ?_
        refine g_lx_eq ((0 : Nat) : Int) (0) 43 (pk_lT (by omega)) (by decide) d2_reduce_23 d2_reduce_24 rfl (fun _ => ?_) (fun c23 => absurd c23 (by omega))
        refine g_lo [(0, .ref 51), (1, .long (lN (Nat.gcd b 0)))] ⟨rfl, by rw [Nat.gcd_zero_right]; rfl, trivial⟩ ?_
        exact kk
      · have hl2 := Nat.mod_lt b (show 0 < a % b by omega)
        rw [← gcd_stp] at kk
        refine g_iload d2_reduce_13 rfl ?_
        refine g_sipushv (nI 200) d2_reduce_15 rfl ?_
        refine g_ic_ge (((c + 1) : Nat) : Int) (200) 43 (nI_ti (by omega)) (by decide) d2_reduce_18 rfl (fun c18 => absurd c18 (by omega)) (fun _ => ?_)
        refine g_lload_n d2_reduce_21 rfl ?_
        refine g_lconstv (0) d2_reduce_22 rfl ?_
        refine g_lx_eq (((a % b) : Nat) : Int) (0) 43 (pk_lT (by omega)) (by decide) d2_reduce_23 d2_reduce_24 rfl (fun c23 => absurd c23 (by omega)) (fun _ => ?_)
        refine g_lload_n d2_reduce_27 rfl ?_
        refine g_lload_n d2_reduce_28 rfl ?_
        refine g_lrem d2_reduce_29 (lN_ne (by omega) (by omega)) ?_
        refine g_topL (lN (b % (a % b))) (pk_lRem (b := (a % b)) (by omega) (by omega) (by omega)) ?_
        refine g_lstore d2_reduce_30 (by decide) ?_
        refine g_lload_n d2_reduce_32 rfl ?_
        refine g_lstore_n d2_reduce_33 (by decide) ?_
        refine g_lload d2_reduce_34 rfl ?_
        refine g_lstore_n d2_reduce_36 (by decide) ?_
        refine g_iincN d2_reduce_37 rfl (by decide) ?_
        refine g_goto 13 d2_reduce_40 rfl ?_
        refine g_lo [(0, .ref 51), (1, .long (lN (a % b))), (3, .long (lN (b % (a % b)))), (5, .int (nI (c + 1 + 1)))] ⟨rfl, rfl, rfl, rfl, trivial⟩ ?_
        exact ih (a % b) (b % (a % b)) (c + 1 + 1) (gcd_hlf (by omega) hb (by omega)) (by omega) (by omega) (by omega) kk
set_option maxHeartbeats 200000 in
theorem r2_reduce {l : Launch} {K : cK} {d : Nat} {I : wI} {L : wL} {R : wR} {dy : cH} (a b : Nat) (ha : a < 2 ^ 62) (hb : b < 2 ^ 62) (hb0 : 0 < b) (hA : L 51 0 = lN a) (hB : L 51 1 = lN b) (hd : 0 ≤ d) : CV l K m2_reduce d [.ref 51] (hp I L R dy) (hp I (uL (uL L 51 0 (lN (a / Nat.gcd a b))) 51 1 (lN (b / Nat.gcd a b))) R dy) := by
  have hg : 0 < Nat.gcd a b := Nat.gcd_pos_of_pos_right a hb0
  have hg2 : Nat.gcd a b ≤ b := Nat.gcd_le_right a hb0
  refine CC.of ok2_reduce (Nat.le_of_ble_eq_true rfl) ?_
  refine g_aload_n d2_reduce_0 rfl ?_
  refine g_get fl2_33 d2_reduce_1 f_51_0 ?_
  refine g_topL (lN (a)) (hA) ?_
  refine g_lstore_n d2_reduce_4 (by decide) ?_
  refine g_aload_n d2_reduce_5 rfl ?_
  refine g_get fl2_29 d2_reduce_6 f_51_1 ?_
  refine g_topL (lN (b)) (hB) ?_
  refine g_lstore_n d2_reduce_9 (by decide) ?_
  refine g_iconstv (nI 0) d2_reduce_10 rfl ?_
  refine g_istore d2_reduce_11 (by decide) ?_
  refine g_lo [(0, .ref 51), (1, .long (lN a)), (3, .long (lN b)), (5, .int (nI (0)))] ⟨rfl, rfl, rfl, rfl, trivial⟩ ?_
  refine r2_reL 62 a b 0 hb ha hb (by omega) ?_
  refine g_lload_n d2_reduce_43 rfl ?_
  refine g_lconstv (0) d2_reduce_44 rfl ?_
  refine g_lx_le (((Nat.gcd a b) : Nat) : Int) (0) 69 (pk_lT (by omega)) (by decide) d2_reduce_45 d2_reduce_46 rfl (fun c45 => absurd c45 (by omega)) (fun _ => ?_)
  refine g_aload_n d2_reduce_49 rfl ?_
  refine g_dup d2_reduce_50 rfl ?_
  refine g_get fl2_33 d2_reduce_51 f_51_0 ?_
  refine g_topL (lN (a)) (hA) ?_
  refine g_lload_n d2_reduce_54 rfl ?_
  refine g_ldiv d2_reduce_55 (lN_ne hg (by omega)) ?_
  refine g_topL (lN (a / (Nat.gcd a b))) (pk_lDiv (by omega) hg (by omega)) ?_
  refine g_putLh _ fl2_33 d2_reduce_56 f_51_0 s_51_0 ?_
  refine g_aload_n d2_reduce_59 rfl ?_
  refine g_dup d2_reduce_60 rfl ?_
  refine g_get fl2_29 d2_reduce_61 f_51_1 ?_
  refine g_topL (lN (b)) (by rw [uL_sn (by decide)]; exact hB) ?_
  refine g_lload_n d2_reduce_64 rfl ?_
  refine g_ldiv d2_reduce_65 (lN_ne hg (by omega)) ?_
  refine g_topL (lN (b / (Nat.gcd a b))) (pk_lDiv (by omega) hg (by omega)) ?_
  refine g_putLh _ fl2_29 d2_reduce_66 f_51_1 s_51_1 ?_
  exact g_vret rfl d2_reduce_69 (⟨rfl, rfl⟩)
/-- the class's places -/
def PLc (I : wI) (n : Nat) (lo wi : Nat → Nat) : Prop := I 1 8 = nI n ∧ n ≤ 6 ∧ ∀ p, p < n → I 6 p = nI (lo p) ∧ I 7 p = nI (lo p + wi p) ∧ 1 ≤ wi p ∧ lo p + wi p ≤ 99
theorem PLc.of {I I2 : wI} {n : Nat} {lo wi : Nat → Nat} (h : PLc I n lo wi) (e1 : I2 1 = I 1) (e6 : I2 6 = I 6) (e7 : I2 7 = I 7) : PLc I2 n lo wi := by unfold PLc; rw [e1, e6, e7]; exact h
def bN (b : Bool) : Nat := if b = true then 1 else 0
/-- where one stands -/
def STD (I : wI) (n : Nat) (S : Nat → Bool) : Prop := ∀ p, p < n → I 52 p = nI (bN (S p))
set_option maxHeartbeats 400000 in
theorem r2_rv1 {l : Launch} {K : cK} {d : Nat} {I : wI} {L : wL} {R : wR} {dy : cH} {Q : Option Value → cH → Prop} (n : Nat) (lo wi : Nat → Nat) (hP : PLc I n lo wi) (S : Nat → Bool) (hS : STD I n S) (hd : 0 ≤ d)
    (kk : (n ≤ n) → GL l K m2_reckonValue d 0 0 53 [(0, .ref 51), (1, .ref 1), (2, .long (lN (gsP wi S (n))))] [] (hp I L R dy) Q) :
    ∀ (zn p : Nat) , p + zn = n → (p ≤ n) → GL l K m2_reckonValue d 0 0 5 [(0, .ref 51), (1, .ref 1), (2, .long (lN (gsP wi S (p)))), (4, .int (nI (p)))] [] (hp I L R dy) Q := by
  obtain ⟨hn, hn6, hq⟩ := id hP
  have hw9 : ∀ p, p < n → 1 ≤ wi p ∧ wi p ≤ 99 := fun p hp => by obtain ⟨a1, a2, a3, a4⟩ := hq p hp; exact ⟨a3, by omega⟩
  have hl9 : ∀ p, p < n → lo p ≤ 99 := fun p hp => by obtain ⟨a1, a2, a3, a4⟩ := hq p hp; omega
  intro zn
  induction zn with
  | zero =>
    intro p  hin hpn
    obtain rfl : n = p := by omega
    refine g_iload d2_reckonValue_5 rfl ?_
    refine g_aload_n d2_reckonValue_7 rfl ?_
    refine g_get fl2_19 d2_reckonValue_8 f_1_8 ?_
    refine g_topI (nI (n)) (hn) ?_
    refine g_ic_ge ((n : Nat) : Int) ((n : Nat) : Int) 53 (nI_ti (by omega)) (nI_ti (by omega)) d2_reckonValue_11 rfl (fun _ => ?_) (fun c11 => absurd c11 (by omega))
    refine g_lo [(0, .ref 51), (1, .ref 1), (2, .long (lN (gsP wi S (n))))] ⟨rfl, rfl, rfl, trivial⟩ ?_
    exact kk  hpn
  | succ zn ih =>
    intro p  hin hpn
    obtain ⟨a1, a2, a3, a4⟩ := hq p (by omega)
    have hSp := hS p (by omega)
    by_cases hc : S p = true
    · have hSy : I 52 p = nI 1 := by rw [hSp, hc]; rfl
      refine g_iload d2_reckonValue_5 rfl ?_
      refine g_aload_n d2_reckonValue_7 rfl ?_
      refine g_get fl2_19 d2_reckonValue_8 f_1_8 ?_
      refine g_topI (nI (n)) (hn) ?_
      refine g_ic_ge ((p : Nat) : Int) ((n : Nat) : Int) 53 (nI_ti (by omega)) (nI_ti (by omega)) d2_reckonValue_11 rfl (fun c11 => absurd c11 (by omega)) (fun _ => ?_)
      refine g_lload_n d2_reckonValue_14 rfl ?_
      refine g_aload_n d2_reckonValue_15 rfl ?_
      refine g_get fl2_9 d2_reckonValue_16 f_51_2 ?_
      refine g_iload d2_reckonValue_19 rfl ?_
      refine g_zaldN (p) d2_reckonValue_21 a_52 (rfl) (by omega) (by decide) ?_
      refine g_topI (nI (1)) (hSy) ?_
      refine g_iz_eq ((1 : Nat) : Int) 44 (nI_ti (by omega)) d2_reckonValue_22 rfl (fun c22 => absurd c22 (by omega)) (fun _ => ?_)
      refine g_aload_n d2_reckonValue_25 rfl ?_
      refine g_get fl2_39 d2_reckonValue_26 f_1_10 ?_
      refine g_iload d2_reckonValue_29 rfl ?_
      refine g_ialdN (p) d2_reckonValue_31 a_7 (rfl) (by omega) (by decide) ?_
      refine g_topI (nI (lo p + wi p)) (a2) ?_
      refine g_aload_n d2_reckonValue_32 rfl ?_
      refine g_get fl2_25 d2_reckonValue_33 f_1_9 ?_
      refine g_iload d2_reckonValue_36 rfl ?_
      refine g_ialdN (p) d2_reckonValue_38 a_6 (rfl) (by omega) (by decide) ?_
      refine g_topI (nI (lo p)) (a1) ?_
      refine g_isubN (by omega) d2_reckonValue_39 ?_
      refine g_topI (nI (wi p)) (by congr 1; omega) ?_
      refine g_i2lN (by omega) d2_reckonValue_40 ?_
      refine g_goto 45 d2_reckonValue_41 rfl ?_
      refine g_lmul d2_reckonValue_45 ?_
      refine g_topL (lN ((gsP wi S (p)) * wi p)) (lN_mul _ _) ?_
      refine g_lstore_n d2_reckonValue_46 (by decide) ?_
      refine g_iincN d2_reckonValue_47 rfl (by decide) ?_
      refine g_goto 5 d2_reckonValue_50 rfl ?_
      refine g_lo [(0, .ref 51), (1, .ref 1), (2, .long (lN (gsP wi S (p + 1)))), (4, .int (nI (p + 1)))] ⟨rfl, rfl, by show _ = some (Value.long (lN (_ * (if _ then _ else _)))); rw [if_pos hc]; rfl, rfl, trivial⟩ ?_
      exact ih (p + 1) (by omega) (by omega)
    · have hc2 : S p = false := by simpa using hc
      have hSy : I 52 p = nI 0 := by rw [hSp, hc2]; rfl
      refine g_iload d2_reckonValue_5 rfl ?_
      refine g_aload_n d2_reckonValue_7 rfl ?_
      refine g_get fl2_19 d2_reckonValue_8 f_1_8 ?_
      refine g_topI (nI (n)) (hn) ?_
      refine g_ic_ge ((p : Nat) : Int) ((n : Nat) : Int) 53 (nI_ti (by omega)) (nI_ti (by omega)) d2_reckonValue_11 rfl (fun c11 => absurd c11 (by omega)) (fun _ => ?_)
      refine g_lload_n d2_reckonValue_14 rfl ?_
      refine g_aload_n d2_reckonValue_15 rfl ?_
      refine g_get fl2_9 d2_reckonValue_16 f_51_2 ?_
      refine g_iload d2_reckonValue_19 rfl ?_
      refine g_zaldN (p) d2_reckonValue_21 a_52 (rfl) (by omega) (by decide) ?_
      refine g_topI (nI (0)) (hSy) ?_
      refine g_iz_eq ((0 : Nat) : Int) 44 (nI_ti (by omega)) d2_reckonValue_22 rfl (fun _ => ?_) (fun c22 => absurd c22 (by omega))
      refine g_lconstv (1) d2_reckonValue_44 rfl ?_
      refine g_lmul d2_reckonValue_45 ?_
      refine g_topL (lN ((gsP wi S (p)) * 1)) (lN_mul _ _) ?_
      refine g_lstore_n d2_reckonValue_46 (by decide) ?_
      refine g_iincN d2_reckonValue_47 rfl (by decide) ?_
      refine g_goto 5 d2_reckonValue_50 rfl ?_
      refine g_lo [(0, .ref 51), (1, .ref 1), (2, .long (lN (gsP wi S (p + 1)))), (4, .int (nI (p + 1)))] ⟨rfl, rfl, by show _ = some (Value.long (lN (_ * (if _ then _ else _)))); rw [if_neg hc]; rfl, rfl, trivial⟩ ?_
      exact ih (p + 1) (by omega) (by omega)
theorem uL_re {L : wL} {k a b : Nat} {u v u2 v2 : Int64} (h : a ≠ b) : uL (uL (uL (uL L k a u) k b v) k a u2) k b v2 = uL (uL L k a u2) k b v2 := by
  funext x y
  by_cases e : x = k
  · subst e
    by_cases e2 : y = b
    · subst e2; rw [uL_ss, uL_ss]
    · rw [uL_sn e2, uL_sn e2]
      by_cases e3 : y = a
      · subst e3; rw [uL_ss, uL_ss]
      · rw [uL_sn e3, uL_sn e3, uL_sn e2, uL_sn e3]
  · rw [uL_n e, uL_n e, uL_n e, uL_n e, uL_n e, uL_n e]
set_option maxHeartbeats 800000 in
theorem r2_rv2 {l : Launch} {K : cK} {d : Nat} {I : wI} {L : wL} {R : wR} {dy : cH} {Q : Option Value → cH → Prop} (n : Nat) (lo wi : Nat → Nat) (hP : PLc I n lo wi) (S : Nat → Bool) (hS : STD I n S) (hd : 0 ≤ d) (kk : GL l K m2_reckonValue d 0 0 150 [] [] (hp I (uL (uL L 51 0 (lN (cup lo wi S (gsP wi S n) (n)))) 51 1 (lN (cdn wi S (gsP wi S n) (n)))) R dy) Q) :
    ∀ m p, p + m = n → GL l K m2_reckonValue d 0 0 66 [(0, .ref 51), (1, .ref 1), (2, .long (lN (gsP wi S n))), (4, .int (nI p))] [] (hp I (uL (uL L 51 0 (lN (cup lo wi S (gsP wi S n) (p)))) 51 1 (lN (cdn wi S (gsP wi S n) (p)))) R dy) Q := by
  obtain ⟨hn, hn6, hq⟩ := id hP
  have hw9 : ∀ p, p < n → 1 ≤ wi p ∧ wi p ≤ 99 := fun p hp => by obtain ⟨a1, a2, a3, a4⟩ := hq p hp; exact ⟨a3, by omega⟩
  have hl9 : ∀ p, p < n → lo p ≤ 99 := fun p hp => by obtain ⟨a1, a2, a3, a4⟩ := hq p hp; omega
  have hall := gsP_lt (S := S) hn6 hw9 (Nat.le_refl n)
  intro m
  induction m with
  | zero =>
    intro p hpm
    obtain rfl : p = n := by omega
    refine g_iload d2_reckonValue_66 rfl ?_
    refine g_aload_n d2_reckonValue_68 rfl ?_
    refine g_get fl2_19 d2_reckonValue_69 f_1_8 ?_
    refine g_topI (nI (p)) (hn) ?_
    refine g_ic_ge ((p : Nat) : Int) ((p : Nat) : Int) 150 (nI_ti (by omega)) (nI_ti (by omega)) d2_reckonValue_72 rfl (fun _ => ?_) (fun c72 => absurd c72 (by omega))
    refine g_lo [] trivial ?_
    exact kk
  | succ m ih =>
    intro p hpm
    obtain ⟨a1, a2, a3, a4⟩ := hq p (by omega)
    have hSp := hS p (by omega)
    by_cases hc : S p = true
    · have hSy : I 52 p = nI 1 := by rw [hSp, hc]; rfl
      refine g_iload d2_reckonValue_66 rfl ?_
      refine g_aload_n d2_reckonValue_68 rfl ?_
      refine g_get fl2_19 d2_reckonValue_69 f_1_8 ?_
      refine g_topI (nI (n)) (hn) ?_
      refine g_ic_ge ((p : Nat) : Int) ((n : Nat) : Int) 150 (nI_ti (by omega)) (nI_ti (by omega)) d2_reckonValue_72 rfl (fun c72 => absurd c72 (by omega)) (fun _ => ?_)
      refine g_aload_n d2_reckonValue_75 rfl ?_
      refine g_get fl2_39 d2_reckonValue_76 f_1_10 ?_
      refine g_iload d2_reckonValue_79 rfl ?_
      refine g_ialdN (p) d2_reckonValue_81 a_7 (rfl) (by omega) (by decide) ?_
      refine g_topI (nI (lo p + wi p)) (a2) ?_
      refine g_aload_n d2_reckonValue_82 rfl ?_
      refine g_get fl2_25 d2_reckonValue_83 f_1_9 ?_
      refine g_iload d2_reckonValue_86 rfl ?_
      refine g_ialdN (p) d2_reckonValue_88 a_6 (rfl) (by omega) (by decide) ?_
      refine g_topI (nI (lo p)) (a1) ?_
      refine g_isubN (by omega) d2_reckonValue_89 ?_
      refine g_topI (nI (wi p)) (by congr 1; omega) ?_
      refine g_istore d2_reckonValue_90 (by decide) ?_
      refine g_aload_n d2_reckonValue_92 rfl ?_
      refine g_get fl2_9 d2_reckonValue_93 f_51_2 ?_
      refine g_iload d2_reckonValue_96 rfl ?_
      refine g_zaldN (p) d2_reckonValue_98 a_52 (rfl) (by omega) (by decide) ?_
      refine g_topI (nI (1)) (hSy) ?_
      refine g_iz_eq ((1 : Nat) : Int) 144 (nI_ti (by omega)) d2_reckonValue_99 rfl (fun c99 => absurd c99 (by omega)) (fun _ => ?_)
      refine g_iload d2_reckonValue_102 rfl ?_
      refine g_iz_le ((wi p : Nat) : Int) 144 (nI_ti (by omega)) d2_reckonValue_104 rfl (fun c104 => absurd c104 (by omega)) (fun _ => ?_)
      refine g_aload_n d2_reckonValue_107 rfl ?_
      refine g_dup d2_reckonValue_108 rfl ?_
      refine g_get fl2_33 d2_reckonValue_109 f_51_0 ?_
      refine g_topL (lN ((cup lo wi S (gsP wi S n) p))) (by rw [uL_sn (by decide), uL_ss]) ?_
      refine g_lload_n d2_reckonValue_112 rfl ?_
      refine g_iload d2_reckonValue_113 rfl ?_
      refine g_i2lN (by omega) d2_reckonValue_115 ?_
      refine g_ldiv d2_reckonValue_116 (lN_ne (by omega) (by omega)) ?_
      refine g_topL (lN ((gsP wi S n) / wi p)) (pk_lDiv (b := wi p) (by omega) (by omega) (by omega)) ?_
      refine g_aload_n d2_reckonValue_117 rfl ?_
      refine g_get fl2_25 d2_reckonValue_118 f_1_9 ?_
      refine g_iload d2_reckonValue_121 rfl ?_
      refine g_ialdN (p) d2_reckonValue_123 a_6 (rfl) (by omega) (by decide) ?_
      refine g_topI (nI (lo p)) (a1) ?_
      refine g_i2lN (by omega) d2_reckonValue_124 ?_
      refine g_lmul d2_reckonValue_125 ?_
      refine g_topL (lN (((gsP wi S n) / wi p) * lo p)) (lN_mul _ _) ?_
      refine g_ladd d2_reckonValue_126 ?_
      refine g_topL (lN ((cup lo wi S (gsP wi S n) p) + (((gsP wi S n) / wi p) * lo p))) (lN_add _ _) ?_
      refine g_putLh _ fl2_33 d2_reckonValue_127 f_51_0 s_51_0 ?_
      refine g_aload_n d2_reckonValue_130 rfl ?_
      refine g_dup d2_reckonValue_131 rfl ?_
      refine g_get fl2_29 d2_reckonValue_132 f_51_1 ?_
      refine g_topL (lN ((cdn wi S (gsP wi S n) p))) (by rw [uL_sn (by decide), uL_ss]) ?_
      refine g_lload_n d2_reckonValue_135 rfl ?_
      refine g_iload d2_reckonValue_136 rfl ?_
      refine g_i2lN (by omega) d2_reckonValue_138 ?_
      refine g_ldiv d2_reckonValue_139 (lN_ne (by omega) (by omega)) ?_
      refine g_topL (lN ((gsP wi S n) / wi p)) (pk_lDiv (b := wi p) (by omega) (by omega) (by omega)) ?_
      refine g_ladd d2_reckonValue_140 ?_
      refine g_topL (lN ((cdn wi S (gsP wi S n) p) + ((gsP wi S n) / wi p))) (lN_add _ _) ?_
      refine g_putLh _ fl2_29 d2_reckonValue_141 f_51_1 s_51_1 ?_
      refine g_iincN d2_reckonValue_144 rfl (by decide) ?_
      refine g_goto 66 d2_reckonValue_147 rfl ?_
      refine g_lo [(0, .ref 51), (1, .ref 1), (2, .long (lN (gsP wi S n))), (4, .int (nI (p + 1)))] ⟨rfl, rfl, rfl, rfl, trivial⟩ ?_
      rw [uL_re (by decide)]
      have h5 := ih (p + 1) (by omega)
      rw [show cup lo wi S (gsP wi S n) (p + 1) = (cup lo wi S (gsP wi S n) p) + (gsP wi S n) / wi p * lo p from congrArg (fun z => (cup lo wi S (gsP wi S n) p) + z) (if_pos hc), show cdn wi S (gsP wi S n) (p + 1) = (cdn wi S (gsP wi S n) p) + (gsP wi S n) / wi p from congrArg (fun z => (cdn wi S (gsP wi S n) p) + z) (if_pos hc)] at h5
      exact h5
    · have hc2 : S p = false := by simpa using hc
      have hSy : I 52 p = nI 0 := by rw [hSp, hc2]; rfl
      refine g_iload d2_reckonValue_66 rfl ?_
      refine g_aload_n d2_reckonValue_68 rfl ?_
      refine g_get fl2_19 d2_reckonValue_69 f_1_8 ?_
      refine g_topI (nI (n)) (hn) ?_
      refine g_ic_ge ((p : Nat) : Int) ((n : Nat) : Int) 150 (nI_ti (by omega)) (nI_ti (by omega)) d2_reckonValue_72 rfl (fun c72 => absurd c72 (by omega)) (fun _ => ?_)
      refine g_aload_n d2_reckonValue_75 rfl ?_
      refine g_get fl2_39 d2_reckonValue_76 f_1_10 ?_
      refine g_iload d2_reckonValue_79 rfl ?_
      refine g_ialdN (p) d2_reckonValue_81 a_7 (rfl) (by omega) (by decide) ?_
      refine g_topI (nI (lo p + wi p)) (a2) ?_
      refine g_aload_n d2_reckonValue_82 rfl ?_
      refine g_get fl2_25 d2_reckonValue_83 f_1_9 ?_
      refine g_iload d2_reckonValue_86 rfl ?_
      refine g_ialdN (p) d2_reckonValue_88 a_6 (rfl) (by omega) (by decide) ?_
      refine g_topI (nI (lo p)) (a1) ?_
      refine g_isubN (by omega) d2_reckonValue_89 ?_
      refine g_topI (nI (wi p)) (by congr 1; omega) ?_
      refine g_istore d2_reckonValue_90 (by decide) ?_
      refine g_aload_n d2_reckonValue_92 rfl ?_
      refine g_get fl2_9 d2_reckonValue_93 f_51_2 ?_
      refine g_iload d2_reckonValue_96 rfl ?_
      refine g_zaldN (p) d2_reckonValue_98 a_52 (rfl) (by omega) (by decide) ?_
      refine g_topI (nI (0)) (hSy) ?_
      refine g_iz_eq ((0 : Nat) : Int) 144 (nI_ti (by omega)) d2_reckonValue_99 rfl (fun _ => ?_) (fun c99 => absurd c99 (by omega))
      refine g_iincN d2_reckonValue_144 rfl (by decide) ?_
      refine g_goto 66 d2_reckonValue_147 rfl ?_
      refine g_lo [(0, .ref 51), (1, .ref 1), (2, .long (lN (gsP wi S n))), (4, .int (nI (p + 1)))] ⟨rfl, rfl, rfl, rfl, trivial⟩ ?_
      have h5 := ih (p + 1) (by omega)
      rw [show cup lo wi S (gsP wi S n) (p + 1) = (cup lo wi S (gsP wi S n) p) from congrArg (fun z => (cup lo wi S (gsP wi S n) p) + z) (if_neg hc), show cdn wi S (gsP wi S n) (p + 1) = (cdn wi S (gsP wi S n) p) from congrArg (fun z => (cdn wi S (gsP wi S n) p) + z) (if_neg hc)] at h5
      exact h5
set_option maxHeartbeats 200000 in
theorem r2_value {l : Launch} {K : cK} {d : Nat} {I : wI} {L : wL} {R : wR} {dy : cH} (n : Nat) (lo wi : Nat → Nat) (hP : PLc I n lo wi) (S : Nat → Bool) (hS : STD I n S) (hd : 0 ≤ d) : CV l K m2_reckonValue d [.ref 51, .ref 1] (hp I L R dy) (hp I (uL (uL L 51 0 (lN (gsU lo wi n S))) 51 1 (lN (gsD wi n S))) R dy) := by
  refine CC.of ok2_reckonValue (Nat.le_of_ble_eq_true rfl) ?_
  refine g_lconstv (1) d2_reckonValue_0 rfl ?_
  refine g_lstore_n d2_reckonValue_1 (by decide) ?_
  refine g_iconstv (nI 0) d2_reckonValue_2 rfl ?_
  refine g_istore d2_reckonValue_3 (by decide) ?_
  refine g_lo [(0, .ref 51), (1, .ref 1), (2, .long (lN (gsP wi S 0))), (4, .int (nI (0)))] ⟨rfl, rfl, rfl, rfl, trivial⟩ ?_
  refine r2_rv1 n lo wi hP S hS (by omega) (fun _ => ?_) n 0 (by omega) (by omega)
  refine g_aload_n d2_reckonValue_53 rfl ?_
  refine g_lload_n d2_reckonValue_54 rfl ?_
  refine g_putLh _ fl2_33 d2_reckonValue_55 f_51_0 s_51_0 ?_
  refine g_aload_n d2_reckonValue_58 rfl ?_
  refine g_lconstv (0) d2_reckonValue_59 rfl ?_
  refine g_putLh _ fl2_29 d2_reckonValue_60 f_51_1 s_51_1 ?_
  refine g_iconstv (nI 0) d2_reckonValue_63 rfl ?_
  refine g_istore d2_reckonValue_64 (by decide) ?_
  refine g_lo [(0, .ref 51), (1, .ref 1), (2, .long (lN (gsP wi S n))), (4, .int (nI (0)))] ⟨rfl, rfl, rfl, rfl, trivial⟩ ?_
  refine r2_rv2 n lo wi hP S hS (by omega) ?_ n 0 (by omega)
  exact g_vret rfl d2_reckonValue_150 ⟨rfl, rfl⟩
theorem gsU_le {lo wi : Nat → Nat} {n : Nat} {S : Nat → Bool} (hn6 : n ≤ 6) (hw9 : ∀ p, p < n → 1 ≤ wi p ∧ wi p ≤ 99) (hl9 : ∀ p, p < n → lo p ≤ 99) : gsU lo wi n S ≤ 1000000000000000 ∧ gsD wi n S ≤ 10000000000000 := by
  have hall := gsP_lt (S := S) hn6 hw9 (Nat.le_refl n)
  have hU := cup_le lo wi S (gsP wi S n) hl9 n (Nat.le_refl n)
  have hU2 : n * (gsP wi S n * 99) ≤ 6 * (941480149401 * 99) := Nat.mul_le_mul hn6 (Nat.mul_le_mul_right _ hall.2)
  have hD := cdn_le wi S (gsP wi S n) n
  have hD2 : n * gsP wi S n ≤ 6 * 941480149401 := Nat.mul_le_mul hn6 hall.2
  unfold gsU gsD
  exact ⟨by omega, by omega⟩
theorem cNx_y {lo wi : Nat → Nat} {n : Nat} {S : Nat → Bool} {q : Nat} (h : S q = true) (h2 : lo q * gsD wi n S < gsU lo wi n S) : cNx lo wi n S q = true := by unfold cNx; rw [h, decide_eq_true h2]; rfl
theorem cNx_n {lo wi : Nat → Nat} {n : Nat} {S : Nat → Bool} {q : Nat} (h2 : ¬ lo q * gsD wi n S < gsU lo wi n S) : cNx lo wi n S q = false := by unfold cNx; rw [decide_eq_false h2]; exact Bool.and_false _
theorem cNx_s {lo wi : Nat → Nat} {n : Nat} {S : Nat → Bool} {q : Nat} (h : S q = false) : cNx lo wi n S q = false := by unfold cNx; rw [h]; rfl
theorem cNx_l {lo wi : Nat → Nat} {n : Nat} {S : Nat → Bool} {q : Nat} (h : cNx lo wi n S q = true) : S q = true ∧ lo q * gsD wi n S < gsU lo wi n S := by
  unfold cNx at h
  rw [Bool.and_eq_true, decide_eq_true_eq] at h
  exact h
set_option maxHeartbeats 800000 in
theorem r2_se1 {l : Launch} {K : cK} {d : Nat} {I : wI} {L : wL} {R : wR} {dy : cH} {Q : Option Value → cH → Prop} (n : Nat) (lo wi : Nat → Nat) (hP : PLc I n lo wi) (S : Nat → Bool) (k : Nat) (hU : L 51 0 = lN (gsU lo wi n S)) (hD : L 51 1 = lN (gsD wi n S))
    (kk : ∀ (I3 : wI) (f : Int32), (∀ j, j ≠ 52 → I3 j = I j) → (∀ q, q < n → I3 52 q = nI (bN (if q < n then cNx lo wi n S q else S q))) → (f = 0 ∧ (∀ q, q < n → S q = true → cNx lo wi n S q = true) ∨ f = 1 ∧ ∃ q, q < n ∧ S q = true ∧ cNx lo wi n S q = false) → GL l K m2_settle d 0 0 101 [(0, .ref 51), (1, .ref 1), (2, .int f), (3, .int (nI k))] [] (hp I3 L R dy) Q) :
    ∀ (m p : Nat) (I2 : wI) (f : Int32), p + m = n → (∀ j, j ≠ 52 → I2 j = I j) → (∀ q, q < n → I2 52 q = nI (bN (if q < p then cNx lo wi n S q else S q))) → (f = 0 ∧ (∀ q, q < p → S q = true → cNx lo wi n S q = true) ∨ f = 1 ∧ ∃ q, q < p ∧ S q = true ∧ cNx lo wi n S q = false) → GL l K m2_settle d 0 0 45 [(0, .ref 51), (1, .ref 1), (2, .int f), (3, .int (nI k)), (4, .int (nI p))] [] (hp I2 L R dy) Q := by
  obtain ⟨hn, hn6, hq⟩ := id hP
  have hw9 : ∀ p, p < n → 1 ≤ wi p ∧ wi p ≤ 99 := fun p hp => by obtain ⟨a1, a2, a3, a4⟩ := hq p hp; exact ⟨a3, by omega⟩
  have hl9 : ∀ p, p < n → lo p ≤ 99 := fun p hp => by obtain ⟨a1, a2, a3, a4⟩ := hq p hp; omega
  obtain ⟨b1, b2⟩ := gsU_le (S := S) hn6 hw9 hl9
  intro m
  induction m with
  | zero =>
    intro p I2 f hpm hI hC hF
    obtain rfl : p = n := by omega
    have e18 : I2 1 8 = nI p := by rw [hI 1 (by decide)]; exact hn
    refine g_iload d2_settle_45 rfl ?_
    refine g_aload_n d2_settle_47 rfl ?_
    refine g_get fl2_19 d2_settle_48 f_1_8 ?_
    refine g_topI (nI (p)) (e18) ?_
    refine g_ic_ge ((p : Nat) : Int) ((p : Nat) : Int) 101 (nI_ti (by omega)) (nI_ti (by omega)) d2_settle_51 rfl (fun _ => ?_) (fun c51 => absurd c51 (by omega))
    refine g_lo [(0, .ref 51), (1, .ref 1), (2, .int f), (3, .int (nI k))] ⟨rfl, rfl, rfl, rfl, trivial⟩ ?_
    exact kk I2 f hI hC hF
  | succ m ih =>
    intro p I2 f hpm hI hC hF
    have e18 : I2 1 8 = nI n := by rw [hI 1 (by decide)]; exact hn
    obtain ⟨a1, a2, a3, a4⟩ := hq p (by omega)
    have e6 : I2 6 p = nI (lo p) := by rw [hI 6 (by decide)]; exact a1
    have hSp := hC p (by omega)
    rw [if_neg (by omega)] at hSp
    have hmul : lo p * gsD wi n S ≤ 99 * 10000000000000 := Nat.mul_le_mul (by omega) b2
    have hC1 : cNx lo wi n S p = S p → (∀ q, q < n → I2 52 q = nI (bN (if q < p + 1 then cNx lo wi n S q else S q))) := fun h q hq' => by
      rw [hC q hq']
      by_cases e : q = p
      · subst e; rw [if_neg (by omega), if_pos (by omega), h]
      · by_cases e2 : q < p
        · rw [if_pos e2, if_pos (by omega)]
        · rw [if_neg e2, if_neg (by omega)]
    have hF1 : (S p = true → cNx lo wi n S p = true) → (f = 0 ∧ (∀ q, q < p + 1 → S q = true → cNx lo wi n S q = true) ∨ f = 1 ∧ ∃ q, q < p + 1 ∧ S q = true ∧ cNx lo wi n S q = false) := fun h => by
      rcases hF with ⟨z, h1⟩ | ⟨z, q, h1, h2, h3⟩
      · exact Or.inl ⟨z, fun q hq' hs => by
          by_cases e : q = p
          · subst e; exact h hs
          · exact h1 q (by omega) hs⟩
      · exact Or.inr ⟨z, q, by omega, h2, h3⟩
    by_cases hc : S p = true
    · have hSy : I2 52 p = nI 1 := by rw [hSp, hc]; rfl
      by_cases hl : lo p * gsD wi n S < gsU lo wi n S
      · skip
        refine g_iload d2_settle_45 rfl ?_
        refine g_aload_n d2_settle_47 rfl ?_
        refine g_get fl2_19 d2_settle_48 f_1_8 ?_
        refine g_topI (nI (n)) (e18) ?_
        refine g_ic_ge ((p : Nat) : Int) ((n : Nat) : Int) 101 (nI_ti (by omega)) (nI_ti (by omega)) d2_settle_51 rfl (fun c51 => absurd c51 (by omega)) (fun _ => ?_)
        refine g_aload_n d2_settle_54 rfl ?_
        refine g_get fl2_9 d2_settle_55 f_51_2 ?_
        refine g_iload d2_settle_58 rfl ?_
        refine g_zaldN (p) d2_settle_60 a_52 (rfl) (by omega) (by decide) ?_
        refine g_topI (nI (1)) (hSy) ?_
        refine g_iz_eq ((1 : Nat) : Int) 95 (nI_ti (by omega)) d2_settle_61 rfl (fun c61 => absurd c61 (by omega)) (fun _ => ?_)
        refine g_aload_n d2_settle_64 rfl ?_
        refine g_get fl2_25 d2_settle_65 f_1_9 ?_
        refine g_iload d2_settle_68 rfl ?_
        refine g_ialdN (p) d2_settle_70 a_6 (rfl) (by omega) (by decide) ?_
        refine g_topI (nI (lo p)) (e6) ?_
        refine g_i2lN (by omega) d2_settle_71 ?_
        refine g_aload_n d2_settle_72 rfl ?_
        refine g_get fl2_29 d2_settle_73 f_51_1 ?_
        refine g_topL (lN ((gsD wi n S))) (hD) ?_
        refine g_lmul d2_settle_76 ?_
        refine g_topL (lN (lo p * (gsD wi n S))) (lN_mul _ _) ?_
        refine g_aload_n d2_settle_77 rfl ?_
        refine g_get fl2_33 d2_settle_78 f_51_0 ?_
        refine g_topL (lN ((gsU lo wi n S))) (hU) ?_
        refine g_lx_lt (((lo p * (gsD wi n S)) : Nat) : Int) (((gsU lo wi n S) : Nat) : Int) 95 (pk_lT (by omega)) (pk_lT (by omega)) d2_settle_81 d2_settle_82 rfl (fun _ => ?_) (fun c81 => absurd c81 (by omega))
        refine g_iincN d2_settle_95 rfl (by decide) ?_
        refine g_goto 45 d2_settle_98 rfl ?_
        refine g_lo [(0, .ref 51), (1, .ref 1), (2, .int f), (3, .int (nI k)), (4, .int (nI (p + 1)))] ⟨rfl, rfl, rfl, rfl, rfl, trivial⟩ ?_
        exact ih (p + 1) I2 f (by omega) hI (hC1 (by rw [cNx_y hc hl, hc])) (hF1 (fun _ => cNx_y hc hl))
      · skip
        refine g_iload d2_settle_45 rfl ?_
        refine g_aload_n d2_settle_47 rfl ?_
        refine g_get fl2_19 d2_settle_48 f_1_8 ?_
        refine g_topI (nI (n)) (e18) ?_
        refine g_ic_ge ((p : Nat) : Int) ((n : Nat) : Int) 101 (nI_ti (by omega)) (nI_ti (by omega)) d2_settle_51 rfl (fun c51 => absurd c51 (by omega)) (fun _ => ?_)
        refine g_aload_n d2_settle_54 rfl ?_
        refine g_get fl2_9 d2_settle_55 f_51_2 ?_
        refine g_iload d2_settle_58 rfl ?_
        refine g_zaldN (p) d2_settle_60 a_52 (rfl) (by omega) (by decide) ?_
        refine g_topI (nI (1)) (hSy) ?_
        refine g_iz_eq ((1 : Nat) : Int) 95 (nI_ti (by omega)) d2_settle_61 rfl (fun c61 => absurd c61 (by omega)) (fun _ => ?_)
        refine g_aload_n d2_settle_64 rfl ?_
        refine g_get fl2_25 d2_settle_65 f_1_9 ?_
        refine g_iload d2_settle_68 rfl ?_
        refine g_ialdN (p) d2_settle_70 a_6 (rfl) (by omega) (by decide) ?_
        refine g_topI (nI (lo p)) (e6) ?_
        refine g_i2lN (by omega) d2_settle_71 ?_
        refine g_aload_n d2_settle_72 rfl ?_
        refine g_get fl2_29 d2_settle_73 f_51_1 ?_
        refine g_topL (lN ((gsD wi n S))) (hD) ?_
        refine g_lmul d2_settle_76 ?_
        refine g_topL (lN (lo p * (gsD wi n S))) (lN_mul _ _) ?_
        refine g_aload_n d2_settle_77 rfl ?_
        refine g_get fl2_33 d2_settle_78 f_51_0 ?_
        refine g_topL (lN ((gsU lo wi n S))) (hU) ?_
        refine g_lx_lt (((lo p * (gsD wi n S)) : Nat) : Int) (((gsU lo wi n S) : Nat) : Int) 95 (pk_lT (by omega)) (pk_lT (by omega)) d2_settle_81 d2_settle_82 rfl (fun c81 => absurd c81 (by omega)) (fun _ => ?_)
        refine g_aload_n d2_settle_85 rfl ?_
        refine g_get fl2_9 d2_settle_86 f_51_2 ?_
        refine g_iload d2_settle_89 rfl ?_
        refine g_iconstv (nI 0) d2_settle_91 rfl ?_
        refine g_zastN (p) _ d2_settle_92 a_52 (rfl) (by omega) (by decide) (by decide) t_52 ?_
        refine g_iconstv (nI 1) d2_settle_93 rfl ?_
        refine g_istore_n d2_settle_94 (by decide) ?_
        refine g_iincN d2_settle_95 rfl (by decide) ?_
        refine g_goto 45 d2_settle_98 rfl ?_
        refine g_lo [(0, .ref 51), (1, .ref 1), (2, .int 1), (3, .int (nI k)), (4, .int (nI (p + 1)))] ⟨rfl, rfl, rfl, rfl, rfl, trivial⟩ ?_
        refine ih (p + 1) _ 1 (by omega) (fun j hj => by rw [uI_n hj]; exact hI j hj) (fun q hq' => ?_) (Or.inr ⟨rfl, p, by omega, hc, cNx_n hl⟩)
        by_cases e : q = p
        · subst e; rw [uI_ss, if_pos (by omega), cNx_n hl]; rfl
        · rw [uI_sn e, hC q hq']
          by_cases e2 : q < p
          · rw [if_pos e2, if_pos (by omega)]
          · rw [if_neg e2, if_neg (by omega)]
    · have hc2 : S p = false := by simpa using hc
      have hSy : I2 52 p = nI 0 := by rw [hSp, hc2]; rfl
      refine g_iload d2_settle_45 rfl ?_
      refine g_aload_n d2_settle_47 rfl ?_
      refine g_get fl2_19 d2_settle_48 f_1_8 ?_
      refine g_topI (nI (n)) (e18) ?_
      refine g_ic_ge ((p : Nat) : Int) ((n : Nat) : Int) 101 (nI_ti (by omega)) (nI_ti (by omega)) d2_settle_51 rfl (fun c51 => absurd c51 (by omega)) (fun _ => ?_)
      refine g_aload_n d2_settle_54 rfl ?_
      refine g_get fl2_9 d2_settle_55 f_51_2 ?_
      refine g_iload d2_settle_58 rfl ?_
      refine g_zaldN (p) d2_settle_60 a_52 (rfl) (by omega) (by decide) ?_
      refine g_topI (nI (0)) (hSy) ?_
      refine g_iz_eq ((0 : Nat) : Int) 95 (nI_ti (by omega)) d2_settle_61 rfl (fun _ => ?_) (fun c61 => absurd c61 (by omega))
      refine g_iincN d2_settle_95 rfl (by decide) ?_
      refine g_goto 45 d2_settle_98 rfl ?_
      refine g_lo [(0, .ref 51), (1, .ref 1), (2, .int f), (3, .int (nI k)), (4, .int (nI (p + 1)))] ⟨rfl, rfl, rfl, rfl, rfl, trivial⟩ ?_
      exact ih (p + 1) I2 f (by omega) hI (hC1 (by rw [cNx_s hc2, hc2])) (hF1 (fun z => absurd z hc))
set_option maxHeartbeats 800000 in
theorem r2_se2 {l : Launch} {K : cK} {d : Nat} {I : wI} {L : wL} {R : wR} {dy : cH} {Q : Option Value → cH → Prop} (n : Nat) (lo wi : Nat → Nat) (hP : PLc I n lo wi) (hn0 : 0 < n) (hd : 1 ≤ d)
    (kk : ∀ (S : Nat → Bool) (I3 : wI) (L3 : wL), FK [52] [51] I L I3 L3 → cIn lo wi n S → STD I3 n S → (∀ p, p < n → S p = true → lo p * gsD wi n S < gsU lo wi n S) ∧ L3 51 0 = lN (gsU lo wi n S) ∧ L3 51 1 = lN (gsD wi n S) → GL l K m2_settle d 0 0 107 [(0, .ref 51)] [] (hp I3 L3 R dy) Q) :
    ∀ (m k : Nat) (S : Nat → Bool) (f : Int32) (I2 : wI) (L2 : wL), k + m = 6 → FK [52] [51] I L I2 L2 → cIn lo wi n S → STD I2 n S → (f = 1 ∧ cCt S n + k ≤ n ∨ f = 0 ∧ (∀ p, p < n → S p = true → lo p * gsD wi n S < gsU lo wi n S) ∧ L2 51 0 = lN (gsU lo wi n S) ∧ L2 51 1 = lN (gsD wi n S)) → GL l K m2_settle d 0 0 25 [(0, .ref 51), (1, .ref 1), (2, .int f), (3, .int (nI k))] [] (hp I2 L2 R dy) Q := by
  obtain ⟨hn, hn6, hq⟩ := id hP
  have hw9 : ∀ p, p < n → 1 ≤ wi p ∧ wi p ≤ 99 := fun p hp => by obtain ⟨a1, a2, a3, a4⟩ := hq p hp; exact ⟨a3, by omega⟩
  have hl9 : ∀ p, p < n → lo p ≤ 99 := fun p hp => by obtain ⟨a1, a2, a3, a4⟩ := hq p hp; omega
  intro m
  induction m with
  | zero =>
    intro k S f I2 L2 hkm hFK hin hS hf
    obtain rfl : k = 6 := by omega
    rcases hf with ⟨_, hct⟩ | ⟨rfl, he⟩
    · exfalso
      obtain ⟨p, hp', hmin⟩ := g_min_at lo n hn0
      have := cCt_pos (hin.2 p hp' (gG_least hw9 hmin)) n hp'
      omega
    refine g_iload_n d2_settle_25 rfl ?_
    refine g_bipushv (nI 6) d2_settle_26 rfl ?_
    refine g_ic_ge (6) (6) 107 (by decide) (by decide) d2_settle_28 rfl (fun _ => ?_) (fun c28 => absurd c28 (by decide))
    refine g_lo [(0, .ref 51)] ⟨rfl, trivial⟩ ?_
    exact kk S I2 L2 hFK hin hS he
  | succ m ih =>
    intro k S f I2 L2 hkm hFK hin hS hf
    rcases hf with ⟨rfl, hct⟩ | ⟨rfl, he⟩
    · skip
      refine g_iload_n d2_settle_25 rfl ?_
      refine g_bipushv (nI 6) d2_settle_26 rfl ?_
      refine g_ic_ge ((k : Nat) : Int) (6) 107 (nI_ti (by omega)) (by decide) d2_settle_28 rfl (fun c28 => absurd c28 (by omega)) (fun _ => ?_)
      refine g_iload_n d2_settle_31 rfl ?_
      refine g_iz_eq (1) 107 (by decide) d2_settle_32 rfl (fun c32 => absurd c32 (by decide)) (fun _ => ?_)
      refine g_aload_n d2_settle_35 rfl ?_
      refine g_aload_n d2_settle_36 rfl ?_
      refine g_VV1 vm2_reckonValue ml2_15 c_51 (r2_value (I := I2) (L := L2) n lo wi (hP.of (hFK.1 1 (by decide)) (hFK.1 6 (by decide)) (hFK.1 7 (by decide))) S hS (Nat.le_refl 0)) (by omega) (Nat.le_of_ble_eq_true rfl) d2_settle_37 ?_
      refine g_iconstv (nI 0) d2_settle_40 rfl ?_
      refine g_istore_n d2_settle_41 (by decide) ?_
      refine g_iconstv (nI 0) d2_settle_42 rfl ?_
      refine g_istore d2_settle_43 (by decide) ?_
      refine g_lo [(0, .ref 51), (1, .ref 1), (2, .int 0), (3, .int (nI k)), (4, .int (nI 0))] ⟨rfl, rfl, rfl, rfl, rfl, trivial⟩ ?_
      refine r2_se1 (I := I2) n lo wi (hP.of (hFK.1 1 (by decide)) (hFK.1 6 (by decide)) (hFK.1 7 (by decide))) S k (by rw [uL_sn (by decide), uL_ss]) uL_ss (fun I3 f hI hC hF => ?_) n 0 I2 0 (by omega) (fun _ _ => rfl) (fun q hq' => by rw [if_neg (by omega)]; exact hS q hq') (Or.inl ⟨rfl, fun q hq' => absurd hq' (by omega)⟩)
      have hFK3 : FK [52] [51] I L I3 (uL (uL L2 51 0 (lN (gsU lo wi n S))) 51 1 (lN (gsD wi n S))) := ⟨fun j hj => by rw [hI j (fun z => hj (by rw [z]; decide))]; exact hFK.1 j hj, fun j hj => by
        have hj2 : j ≠ 51 := fun z => hj (by rw [z]; decide)
        rw [uL_n hj2, uL_n hj2]; exact hFK.2 j hj⟩
      refine g_iincN d2_settle_101 rfl (by decide) ?_
      refine g_goto 25 d2_settle_104 rfl ?_
      refine g_lo [(0, .ref 51), (1, .ref 1), (2, .int f), (3, .int (nI (k + 1)))] ⟨rfl, rfl, rfl, rfl, trivial⟩ ?_
      rcases hF with ⟨rfl, h1⟩ | ⟨rfl, q, h1, h2, h3⟩
      · refine ih (k + 1) S 0 I3 _ (by omega) hFK3 hin (fun q hq' => ?_) (Or.inr ⟨rfl, fun q hq' hs => (cNx_l (h1 q hq' hs)).2, by rw [uL_sn (by decide), uL_ss], uL_ss⟩)
        rw [hC q hq', if_pos hq']
        by_cases hs : S q = true
        · rw [h1 q hq' hs, hs]
        · have hs2 : S q = false := by simpa using hs
          rw [cNx_s hs2, hs2]
      · have hlt := cCt_lt (S := S) (T := cNx lo wi n S) (n := n) (fun p _ hp2 => (cNx_l hp2).1) h2 h3 n (Nat.le_refl n) h1
        exact ih (k + 1) (cNx lo wi n S) 1 I3 _ (by omega) hFK3 (cIn_nx hw9 hin) (fun q hq' => by rw [hC q hq', if_pos hq']) (Or.inl ⟨rfl, by omega⟩)
    · skip
      refine g_iload_n d2_settle_25 rfl ?_
      refine g_bipushv (nI 6) d2_settle_26 rfl ?_
      refine g_ic_ge ((k : Nat) : Int) (6) 107 (nI_ti (by omega)) (by decide) d2_settle_28 rfl (fun c28 => absurd c28 (by omega)) (fun _ => ?_)
      refine g_iload_n d2_settle_31 rfl ?_
      refine g_iz_eq (0) 107 (by decide) d2_settle_32 rfl (fun _ => ?_) (fun c32 => absurd c32 (by decide))
      refine g_lo [(0, .ref 51)] ⟨rfl, trivial⟩ ?_
      exact kk S I2 L2 hFK hin hS he
set_option maxHeartbeats 400000 in
theorem r2_se0 {l : Launch} {K : cK} {d : Nat} {I : wI} {L : wL} {R : wR} {dy : cH} {Q : Option Value → cH → Prop} 
    (kk : ∀ (I3 : wI), (FK [52] [51] I L I3 L ∧ ∀ q, q < 6 → I3 52 q = nI 1) → GL l K m2_settle d 0 0 21 [(0, .ref 51), (1, .ref 1)] [] (hp I3 L R dy) Q) :
    ∀ (zn p : Nat) (I2 : wI), p + zn = 6 → (FK [52] [51] I L I2 L ∧ ∀ q, q < p → I2 52 q = nI 1) → GL l K m2_settle d 0 0 2 [(0, .ref 51), (1, .ref 1), (2, .int (nI (p)))] [] (hp I2 L R dy) Q := by
  intro zn
  induction zn with
  | zero =>
    intro p I2 hin hI
    obtain rfl : 6 = p := by omega
    refine g_iload_n d2_settle_2 rfl ?_
    refine g_bipushv (nI 6) d2_settle_3 rfl ?_
    refine g_ic_ge ((6 : Nat) : Int) (6) 21 (nI_ti (by omega)) (by decide) d2_settle_5 rfl (fun _ => ?_) (fun c5 => absurd c5 (by omega))
    refine g_lo [(0, .ref 51), (1, .ref 1)] ⟨rfl, rfl, trivial⟩ ?_
    exact kk I2 hI
  | succ zn ih =>
    intro p I2 hin hI
    refine g_iload_n d2_settle_2 rfl ?_
    refine g_bipushv (nI 6) d2_settle_3 rfl ?_
    refine g_ic_ge ((p : Nat) : Int) (6) 21 (nI_ti (by omega)) (by decide) d2_settle_5 rfl (fun c5 => absurd c5 (by omega)) (fun _ => ?_)
    refine g_aload_n d2_settle_8 rfl ?_
    refine g_get fl2_9 d2_settle_9 f_51_2 ?_
    refine g_iload_n d2_settle_12 rfl ?_
    refine g_iconstv (nI 1) d2_settle_13 rfl ?_
    refine g_zastN (p) _ d2_settle_14 a_52 (rfl) (by omega) (by decide) (by decide) t_52 ?_
    refine g_iincN d2_settle_15 rfl (by decide) ?_
    refine g_goto 2 d2_settle_18 rfl ?_
    refine g_lo [(0, .ref 51), (1, .ref 1), (2, .int (nI (p + 1)))] ⟨rfl, rfl, rfl, trivial⟩ ?_
    refine ih (p + 1) _ (by omega) ⟨hI.1.ui (by decide), fun q hq => ?_⟩
    by_cases e : q = p
    · subst e; rw [uI_ss]
    · rw [uI_sn e]; exact hI.2 q (by omega)
set_option maxHeartbeats 400000 in
theorem r2_settle {l : Launch} {K : cK} {d : Nat} {I : wI} {L : wL} {R : wR} {dy : cH} (n : Nat) (lo wi : Nat → Nat) (hP : PLc I n lo wi) (hn0 : 0 < n) (hd : 1 ≤ d) : CW l K m2_settle d [.ref 51, .ref 1] (hp I L R dy) (α := (Nat → Bool) × wI × wL) (fun x => FK [52] [51] I L x.2.1 x.2.2 ∧ STD x.2.1 n x.1 ∧ (∀ p, p < n → (x.1 p = true ↔ lo p ≤ (gfi lo wi n 100 (gmi lo n)))) ∧ 0 < (gd lo wi n (gfi lo wi n 100 (gmi lo n))) ∧ x.2.2 51 0 = lN (gu lo wi n (gfi lo wi n 100 (gmi lo n))) ∧ x.2.2 51 1 = lN (gd lo wi n (gfi lo wi n 100 (gmi lo n))) ∧ ∀ p, p < n → (x.1 p = true ↔ lo p * (gd lo wi n (gfi lo wi n 100 (gmi lo n))) < (gu lo wi n (gfi lo wi n 100 (gmi lo n))))) (fun x => hp x.2.1 x.2.2 R dy) := by
  obtain ⟨hn, hn6, hq⟩ := id hP
  have hw9 : ∀ p, p < n → 1 ≤ wi p ∧ wi p ≤ 99 := fun p hp => by obtain ⟨a1, a2, a3, a4⟩ := hq p hp; exact ⟨a3, by omega⟩
  have hl9 : ∀ p, p < n → lo p ≤ 99 := fun p hp => by obtain ⟨a1, a2, a3, a4⟩ := hq p hp; omega
  refine CC.of ok2_settle (Nat.le_of_ble_eq_true rfl) ?_
  refine g_iconstv (nI 0) d2_settle_0 rfl ?_
  refine g_istore_n d2_settle_1 (by decide) ?_
  refine g_lo [(0, .ref 51), (1, .ref 1), (2, .int (nI (0)))] ⟨rfl, rfl, rfl, trivial⟩ ?_
  refine r2_se0 (I := I) (fun I3 hI3 => ?_) 6 0 I (by omega) ⟨FK.rf, fun q hq => absurd hq (by omega)⟩
  refine g_iconstv (nI 1) d2_settle_21 rfl ?_
  refine g_istore_n d2_settle_22 (by decide) ?_
  refine g_iconstv (nI 0) d2_settle_23 rfl ?_
  refine g_istore_n d2_settle_24 (by decide) ?_
  refine g_lo [(0, .ref 51), (1, .ref 1), (2, .int 1), (3, .int (nI 0))] ⟨rfl, rfl, rfl, rfl, trivial⟩ ?_
  refine r2_se2 (I := I) (L := L) n lo wi hP hn0 (by omega) (fun S I4 L4 g1 g2 g3 g4 => ?_) 6 0 (fun _ => true) 1 I3 L (by omega) hI3.1 cIn_0 (fun q hq => by rw [hI3.2 q (by omega)]; rfl) (Or.inl ⟨rfl, cCt_n _ n⟩)
  obtain ⟨s1, s2, s3⟩ := g4
  have key : ∀ p, p < n → (S p = true ↔ lo p ≤ (gfi lo wi n 100 (gmi lo n))) := fun p hp => (cIn_end hw9 g2 s1 p hp).trans (gfi_end hn0 hw9 (fun r hr => by obtain ⟨a1, a2, a3, a4⟩ := hq r hr; omega) p hp).symm
  obtain ⟨e1, e2⟩ := gsU_g key
  obtain ⟨q, hq1, hq2⟩ := gmi_at lo n (fun r hr => by obtain ⟨a1, a2, a3, a4⟩ := hq r hr; omega) hn0
  obtain ⟨pm, hpm, hmin⟩ := g_min_at lo n hn0
  have hpS : S pm = true := g2.2 pm hpm (gG_least hw9 hmin)
  have hD0 := gD_pos hw9 hpm ((key pm hpm).1 hpS)
  obtain ⟨b1, b2⟩ := gsU_le (S := S) hn6 hw9 hl9
  rw [e1] at b1 s2
  rw [e2] at b2 s3
  refine g_aload_n d2_settle_107 rfl ?_
  refine g_VV0 vm2_reduce ml2_36 c_51 (r2_reduce (I := I4) (L := L4) (gU lo wi n (gfi lo wi n 100 (gmi lo n))) (gD lo wi n (gfi lo wi n 100 (gmi lo n))) (by omega) (by omega) hD0 s2 s3 (Nat.le_refl 0)) (by omega) (Nat.le_of_ble_eq_true rfl) d2_settle_108 ?_
  exact g_vret rfl d2_settle_111 (⟨(S, I4, uL (uL L4 51 0 (lN (gu lo wi n (gfi lo wi n 100 (gmi lo n))))) 51 1 (lN (gd lo wi n (gfi lo wi n 100 (gmi lo n))))), ⟨(g1.ul (by decide)).ul (by decide), g3, key, Nat.div_pos (Nat.gcd_le_right _ hD0) (Nat.gcd_pos_of_pos_right _ hD0), by dsimp only; rw [uL_sn (by decide), uL_ss], by dsimp only; rw [uL_ss], fun p hp => (show _ ↔ _ from ⟨fun h => (g_red hD0).2 (by rw [← e1, ← e2]; exact s1 p hp h), fun h => (key p hp).2 (Nat.le_of_not_lt (fun z => absurd h (Nat.not_lt.2 (gfi_stop (fun r hr => by obtain ⟨a1, a2, a3, a4⟩ := hq r hr; omega) 100 _ (by omega) p hp z))))⟩)⟩, rfl, rfl⟩)
