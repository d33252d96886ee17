theorem r12_comL {l : Launch} {K : cK} {d : Nat} {h : cH} {Q : Option Value → cH → Prop} : ∀ (n a b : Nat), b ≤ n → a < 2 ^ 62 → b < 2 ^ 62 → GL l K m12_common d 0 0 31 [(4, .long (lN (Nat.gcd a b)))] [] h Q → GL l K m12_common d 0 0 6 [(4, .long (lN a)), (6, .long (lN b))] [] h Q := by
  intro n
  induction n with
  | zero =>
    intro a b hb ha hb2 kk
    obtain rfl : b = 0 := by omega
    refine g_lload d12_common_6 rfl ?_
    refine g_lconstv (0) d12_common_8 rfl ?_
    refine g_lx_eq ((0 : Nat) : Int) (0) 31 (pk_lT (by omega)) (by decide) d12_common_9 d12_common_10 rfl (fun _ => ?_) (fun c9 => absurd c9 (by omega))
    refine g_lo [(4, .long (lN (Nat.gcd a 0)))] ⟨by rw [Nat.gcd_zero_right]; rfl, trivial⟩ ?_
    exact kk
  | succ n ih =>
    intro a b hb ha hb2 kk
    by_cases e : b = 0
    · subst e
      refine g_lload d12_common_6 rfl ?_
      refine g_lconstv (0) d12_common_8 rfl ?_
      refine g_lx_eq ((0 : Nat) : Int) (0) 31 (pk_lT (by omega)) (by decide) d12_common_9 d12_common_10 rfl (fun _ => ?_) (fun c9 => absurd c9 (by omega))
      refine g_lo [(4, .long (lN (Nat.gcd a 0)))] ⟨by rw [Nat.gcd_zero_right]; rfl, trivial⟩ ?_
      exact kk
    · have hlt := Nat.mod_lt a (show 0 < b by omega)
      refine g_lload d12_common_6 rfl ?_
      refine g_lconstv (0) d12_common_8 rfl ?_
      refine g_lx_eq ((b : Nat) : Int) (0) 31 (pk_lT (by omega)) (by decide) d12_common_9 d12_common_10 rfl (fun c9 => absurd c9 (by omega)) (fun _ => ?_)
      refine g_lload d12_common_13 rfl ?_
      refine g_lload d12_common_15 rfl ?_
      refine g_lrem d12_common_17 (lN_ne (by omega) (by omega)) ?_
      refine g_topL (lN (a % b)) (pk_lRem (b := b) (by omega) (by omega) (by omega)) ?_
      refine g_lstore d12_common_18 (by decide) ?_
      refine g_lload d12_common_20 rfl ?_
      refine g_lstore d12_common_22 (by decide) ?_
      refine g_lload d12_common_24 rfl ?_
      refine g_lstore d12_common_26 (by decide) ?_
      refine g_goto 6 d12_common_28 rfl ?_
      refine g_lo [(4, .long (lN b)), (6, .long (lN (a % b)))] ⟨rfl, rfl, trivial⟩ ?_
      exact ih b (a % b) (by omega) hb2 (by omega) (by rw [Nat.gcd_comm b (a % b), ← Nat.gcd_rec b a, Nat.gcd_comm b a]; exact kk)
set_option maxHeartbeats 200000 in
theorem r12_common {l : Launch} {K : cK} {d : Nat} {h : cH} (a b : Nat) (ha : a < 2 ^ 62) (hb : b < 2 ^ 62) (hd : 0 ≤ d) : CE l K m12_common d [.long (lN a), .long (lN b)] h (.long (lN (Nat.gcd a b))) h := by
  refine CC.of ok12_common (Nat.le_of_ble_eq_true rfl) ?_
  refine g_lload_n d12_common_0 rfl ?_
  refine g_lstore d12_common_1 (by decide) ?_
  refine g_lload_n d12_common_3 rfl ?_
  refine g_lstore d12_common_4 (by decide) ?_
  refine g_lo [(4, .long (lN a)), (6, .long (lN b))] ⟨rfl, rfl, trivial⟩ ?_
  refine r12_comL b a b (Nat.le_refl _) ha hb ?_
  refine g_lload d12_common_31 rfl ?_
  exact g_lret rfl d12_common_33 (⟨rfl, rfl⟩)
set_option maxHeartbeats 200000 in
theorem r12_shorten {l : Launch} {K : cK} {d : Nat} {I : wI} {L : wL} {R : wR} {dy : cH} (a b : Nat) (ha : a < 2 ^ 62) (hb : b < 2 ^ 62) (hb0 : 0 < b) (hd : 1 ≤ d) : CV l K m12_shorten d [.ref 74, .long (lN a), .long (lN b)] (hp I L R dy) (hp I (uL (uL L 74 51 (lN (a / Nat.gcd a b))) 74 52 (lN (b / Nat.gcd a b))) R dy) := by
  have hg : 0 < Nat.gcd a b := Nat.gcd_pos_of_pos_right a hb0
  have hg2 : Nat.gcd a b ≤ b := Nat.gcd_le_right a hb0
  refine CC.of ok12_shorten (Nat.le_of_ble_eq_true rfl) ?_
  refine g_lload_n d12_shorten_0 rfl ?_
  refine g_lload_n d12_shorten_1 rfl ?_
  refine g_ES2 sm12_common ml12_503 (r12_common a b ha hb (Nat.le_refl 0)) (by omega) (Nat.le_of_ble_eq_true rfl) d12_shorten_2 ?_
  refine g_lstore d12_shorten_5 (by decide) ?_
  refine g_aload_n d12_shorten_7 rfl ?_
  refine g_lload_n d12_shorten_8 rfl ?_
  refine g_lload d12_shorten_9 rfl ?_
  refine g_ldiv d12_shorten_11 (lN_ne hg (by omega)) ?_
  refine g_topL (lN (a / (Nat.gcd a b))) (pk_lDiv (by omega) hg (by omega)) ?_
  refine g_putLh _ fl12_507 d12_shorten_12 f_74_51 s_74_51 ?_
  refine g_aload_n d12_shorten_15 rfl ?_
  refine g_lload_n d12_shorten_16 rfl ?_
  refine g_lload d12_shorten_17 rfl ?_
  refine g_ldiv d12_shorten_19 (lN_ne hg (by omega)) ?_
  refine g_topL (lN (b / (Nat.gcd a b))) (pk_lDiv (by omega) hg (by omega)) ?_
  refine g_putLh _ fl12_510 d12_shorten_20 f_74_52 s_74_52 ?_
  exact g_vret rfl d12_shorten_23 (⟨rfl, rfl⟩)
/-- the places -/
def PL (I : wI) (n : Nat) (lo wi : Nat → Nat) : Prop := I 76 3 = nI n ∧ n ≤ 6 ∧ ∀ p, p < n → I 76 (38 + 2 * p) = nI (lo p) ∧ I 76 (38 + 2 * p + 1) = nI (lo p + wi p) ∧ 1 ≤ wi p ∧ lo p + wi p ≤ 99
def gpr (lo wi : Nat → Nat) (mo : Nat) : Nat → Nat
  | 0 => 1
  | p + 1 => gpr lo wi mo p * (if lo p ≤ mo then wi p else 1)
def gup (lo wi : Nat → Nat) (mo a : Nat) : Nat → Nat
  | 0 => a
  | p + 1 => gup lo wi mo a p + (if lo p ≤ mo then a / wi p * lo p else 0)
def gdn (lo wi : Nat → Nat) (mo a : Nat) : Nat → Nat
  | 0 => 0
  | p + 1 => gdn lo wi mo a p + (if lo p ≤ mo then a / wi p else 0)
theorem gpr_le {lo wi : Nat → Nat} {mo n : Nat} (h : ∀ p, p < n → 1 ≤ wi p ∧ wi p ≤ 99) : ∀ p, p ≤ n → 1 ≤ gpr lo wi mo p ∧ gpr lo wi mo p ≤ 99 ^ p
  | 0, _ => ⟨Nat.le_refl _, Nat.le_refl _⟩
  | p + 1, hp => by
    obtain ⟨a, b⟩ := gpr_le h p (by omega)
    obtain ⟨c, e⟩ := h p (by omega)
    show 1 ≤ gpr lo wi mo p * _ ∧ gpr lo wi mo p * _ ≤ 99 ^ p * 99
    split
    · exact ⟨Nat.mul_pos a c, Nat.mul_le_mul b e⟩
    · exact ⟨Nat.mul_pos a (by decide), Nat.mul_le_mul b (by decide)⟩
theorem gpr_lt {lo wi : Nat → Nat} {mo n : Nat} (hn : n ≤ 6) (h : ∀ p, p < n → 1 ≤ wi p ∧ wi p ≤ 99) {p : Nat} (hp : p ≤ n) : 1 ≤ gpr lo wi mo p ∧ gpr lo wi mo p ≤ 941480149401 := by
  obtain ⟨a, b⟩ := gpr_le (mo := mo) h p hp
  exact ⟨a, Nat.le_trans b (Nat.le_trans (Nat.pow_le_pow_right (by decide) (show p ≤ 6 by omega)) (by decide))⟩
theorem gup_le (lo wi : Nat → Nat) (mo a : Nat) {n : Nat} (h : ∀ p, p < n → lo p ≤ 99) : ∀ p, p ≤ n → gup lo wi mo a p ≤ a + p * (a * 99)
  | 0, _ => by show a ≤ _; omega
  | p + 1, hp => by
    have ih := gup_le lo wi mo a h p (by omega)
    have b : a / wi p * lo p ≤ a * 99 := Nat.mul_le_mul (Nat.div_le_self _ _) (h p (by omega))
    show gup lo wi mo a p + _ ≤ _
    rw [Nat.succ_mul]
    split <;> omega
theorem gdn_le (lo wi : Nat → Nat) (mo a : Nat) : ∀ p, gdn lo wi mo a p ≤ p * a
  | 0 => Nat.zero_le _
  | p + 1 => by
    have ih := gdn_le lo wi mo a p
    have b : a / wi p ≤ a := Nat.div_le_self _ _
    show gdn lo wi mo a p + _ ≤ _
    rw [Nat.succ_mul]
    split <;> omega
theorem gpr_div (lo wi : Nat → Nat) (mo : Nat) {q : Nat} (hq : lo q ≤ mo) : ∀ p, q < p → wi q ∣ gpr lo wi mo p
  | 0, h => by omega
  | p + 1, h => by
    show wi q ∣ gpr lo wi mo p * _
    by_cases e : q = p
    · subst e; rw [if_pos hq]; exact Nat.dvd_mul_left _ _
    · exact Nat.dvd_mul_right_of_dvd (gpr_div lo wi mo hq p (by omega)) _
theorem gdn_pos {lo wi : Nat → Nat} {mo a : Nat} {q : Nat} (hq : lo q ≤ mo) (h1 : 1 ≤ wi q) (h2 : wi q ≤ a) : ∀ p, q < p → 0 < gdn lo wi mo a p
  | 0, h => by omega
  | p + 1, h => by
    show 0 < gdn lo wi mo a p + _
    by_cases e : q = p
    · subst e; rw [if_pos hq]; have := Nat.div_pos h2 h1; omega
    · have := gdn_pos hq h1 h2 p (by omega); omega
def gU (lo wi : Nat → Nat) (n mo : Nat) : Nat := gup lo wi mo (gpr lo wi mo n) n
def gD (lo wi : Nat → Nat) (n mo : Nat) : Nat := gdn lo wi mo (gpr lo wi mo n) n
def gu (lo wi : Nat → Nat) (n mo : Nat) : Nat := gU lo wi n mo / Nat.gcd (gU lo wi n mo) (gD lo wi n mo)
def gd (lo wi : Nat → Nat) (n mo : Nat) : Nat := gD lo wi n mo / Nat.gcd (gU lo wi n mo) (gD lo wi n mo)
set_option maxHeartbeats 200000 in
theorem r12_loss {l : Launch} {K : cK} {d : Nat} {I : wI} {L : wL} {R : wR} {dy : cH} (n : Nat) (lo wi : Nat → Nat) (hP : PL I n lo wi) (p : Nat) (hpp : p < n) (hd : 0 ≤ d) : CE l K m12_loss d [.ref 74, .int (nI p)] (hp I L R dy) (.int (nI (lo p))) (hp I L R dy) := by
  obtain ⟨hn, hn6, hq⟩ := hP
  obtain ⟨a1, a2, a3, a4⟩ := hq p hpp
  refine CC.of ok12_loss (Nat.le_of_ble_eq_true rfl) ?_
  refine g_aload_n d12_loss_0 rfl ?_
  refine g_get fl12_13 d12_loss_1 f_74_3 ?_
  refine g_bipushv (nI 38) d12_loss_4 rfl ?_
  refine g_iconstv (nI 2) d12_loss_6 rfl ?_
  refine g_iload_n d12_loss_7 rfl ?_
  refine g_imulN d12_loss_8 ?_
  refine g_iaddN d12_loss_9 ?_
  refine g_ialdN ((38 + (2 * p))) d12_loss_10 a_76 (rfl) (by omega) (by decide) ?_
  refine g_topI (nI (lo p)) (a1) ?_
  exact g_iret rfl d12_loss_11 (⟨rfl, rfl⟩)
set_option maxHeartbeats 200000 in
theorem r12_wide {l : Launch} {K : cK} {d : Nat} {I : wI} {L : wL} {R : wR} {dy : cH} (n : Nat) (lo wi : Nat → Nat) (hP : PL I n lo wi) (p : Nat) (hpp : p < n) (hd : 1 ≤ d) : CE l K m12_wide d [.ref 74, .int (nI p)] (hp I L R dy) (.int (nI (wi p))) (hp I L R dy) := by
  obtain ⟨hn, hn6, hq⟩ := id hP
  obtain ⟨a1, a2, a3, a4⟩ := hq p hpp
  refine CC.of ok12_wide (Nat.le_of_ble_eq_true rfl) ?_
  refine g_aload_n d12_wide_0 rfl ?_
  refine g_get fl12_13 d12_wide_1 f_74_3 ?_
  refine g_bipushv (nI 38) d12_wide_4 rfl ?_
  refine g_iconstv (nI 2) d12_wide_6 rfl ?_
  refine g_iload_n d12_wide_7 rfl ?_
  refine g_imulN d12_wide_8 ?_
  refine g_iaddN d12_wide_9 ?_
  refine g_iconstv (nI 1) d12_wide_10 rfl ?_
  refine g_iaddN d12_wide_11 ?_
  refine g_ialdN (((38 + (2 * p)) + 1)) d12_wide_12 a_76 (rfl) (by omega) (by decide) ?_
  refine g_topI (nI (lo p + wi p)) (a2) ?_
  refine g_aload_n d12_wide_13 rfl ?_
  refine g_iload_n d12_wide_14 rfl ?_
  refine g_EV1 vm12_loss ml12_513 c_74 (r12_loss n lo wi hP p hpp (Nat.le_refl 0)) (by omega) (Nat.le_of_ble_eq_true rfl) d12_wide_15 ?_
  refine g_isubN (by omega) d12_wide_18 ?_
  refine g_topI (nI (wi p)) (by congr 1; omega) ?_
  exact g_iret rfl d12_wide_19 (⟨rfl, rfl⟩)
set_option maxHeartbeats 400000 in
theorem r12_vb1 {l : Launch} {K : cK} {d : Nat} {I : wI} {L : wL} {R : wR} {dy : cH} {Q : Option Value → cH → Prop} (n : Nat) (lo wi : Nat → Nat) (hP : PL I n lo wi) (mo : Nat) (hmo : mo ≤ 100) (hd : 2 ≤ d)
    (kk : (n ≤ n) → GL l K m12_valueBy d 0 0 46 [(0, .ref 74), (1, .int (nI (mo))), (2, .long (lN (gpr lo wi mo (n))))] [] (hp I L R dy) Q) :
    ∀ (zn p : Nat) , p + zn = n → (p ≤ n) → GL l K m12_valueBy d 0 0 5 [(0, .ref 74), (1, .int (nI (mo))), (2, .long (lN (gpr lo wi mo (p)))), (4, .int (nI (p)))] [] (hp I L R dy) Q := by
  obtain ⟨hn, hn6, hq⟩ := id hP
  have hw9 : ∀ p, p < n → 1 ≤ wi p ∧ wi p ≤ 99 := fun p hp => by obtain ⟨a1, a2, a3, a4⟩ := hq p hp; exact ⟨a3, by omega⟩
  have hl9 : ∀ p, p < n → lo p ≤ 99 := fun p hp => by obtain ⟨a1, a2, a3, a4⟩ := hq p hp; omega
  intro zn
  induction zn with
  | zero =>
    intro p  hin hpn
    obtain rfl : n = p := by omega
    refine g_iload d12_valueBy_5 rfl ?_
    refine g_aload_n d12_valueBy_7 rfl ?_
    refine g_get fl12_13 d12_valueBy_8 f_74_3 ?_
    refine g_iconstv (nI 3) d12_valueBy_11 rfl ?_
    refine g_ialdN (3) d12_valueBy_12 a_76 (rfl) (by omega) (by decide) ?_
    refine g_topI (nI (n)) (hn) ?_
    refine g_ic_ge ((n : Nat) : Int) ((n : Nat) : Int) 46 (nI_ti (by omega)) (nI_ti (by omega)) d12_valueBy_13 rfl (fun _ => ?_) (fun c13 => absurd c13 (by omega))
    refine g_lo [(0, .ref 74), (1, .int (nI (mo))), (2, .long (lN (gpr lo wi mo (n))))] ⟨rfl, rfl, rfl, trivial⟩ ?_
    exact kk  hpn
  | succ zn ih =>
    intro p  hin hpn
    obtain ⟨a1, a2, a3, a4⟩ := hq p (by omega)
    by_cases hc : lo p ≤ mo
    · skip
      refine g_iload d12_valueBy_5 rfl ?_
      refine g_aload_n d12_valueBy_7 rfl ?_
      refine g_get fl12_13 d12_valueBy_8 f_74_3 ?_
      refine g_iconstv (nI 3) d12_valueBy_11 rfl ?_
      refine g_ialdN (3) d12_valueBy_12 a_76 (rfl) (by omega) (by decide) ?_
      refine g_topI (nI (n)) (hn) ?_
      refine g_ic_ge ((p : Nat) : Int) ((n : Nat) : Int) 46 (nI_ti (by omega)) (nI_ti (by omega)) d12_valueBy_13 rfl (fun c13 => absurd c13 (by omega)) (fun _ => ?_)
      refine g_lload_n d12_valueBy_16 rfl ?_
      refine g_aload_n d12_valueBy_17 rfl ?_
      refine g_iload d12_valueBy_18 rfl ?_
      refine g_EV1 vm12_loss ml12_513 c_74 (r12_loss n lo wi (by exact hP) (p) (by omega) (Nat.le_refl 0)) (by omega) (Nat.le_of_ble_eq_true rfl) d12_valueBy_20 ?_
      refine g_iload_n d12_valueBy_23 rfl ?_
      refine g_ic_gt (((lo p) : Nat) : Int) ((mo : Nat) : Int) 37 (nI_ti (by omega)) (nI_ti (by omega)) d12_valueBy_24 rfl (fun c24 => absurd c24 (by omega)) (fun _ => ?_)
      refine g_aload_n d12_valueBy_27 rfl ?_
      refine g_iload d12_valueBy_28 rfl ?_
      refine g_EV1 vm12_wide ml12_516 c_74 (r12_wide n lo wi (by exact hP) (p) (by omega) (Nat.le_refl 1)) (by omega) (Nat.le_of_ble_eq_true rfl) d12_valueBy_30 ?_
      refine g_i2lN (by omega) d12_valueBy_33 ?_
      refine g_goto 38 d12_valueBy_34 rfl ?_
      refine g_lmul d12_valueBy_38 ?_
      refine g_topL (lN ((gpr lo wi mo (p)) * (wi p))) (lN_mul _ _) ?_
      refine g_lstore_n d12_valueBy_39 (by decide) ?_
      refine g_iincN d12_valueBy_40 rfl (by decide) ?_
      refine g_goto 5 d12_valueBy_43 rfl ?_
      refine g_lo [(0, .ref 74), (1, .int (nI (mo))), (2, .long (lN (gpr lo wi mo (p + 1)))), (4, .int (nI (p + 1)))] ⟨rfl, rfl, by show _ = some (Value.long (lN (_ * (if _ then _ else _)))); rw [if_pos hc]; rfl, rfl, trivial⟩ ?_
      exact ih (p + 1) (by omega) (by omega)
    · skip
      refine g_iload d12_valueBy_5 rfl ?_
      refine g_aload_n d12_valueBy_7 rfl ?_
      refine g_get fl12_13 d12_valueBy_8 f_74_3 ?_
      refine g_iconstv (nI 3) d12_valueBy_11 rfl ?_
      refine g_ialdN (3) d12_valueBy_12 a_76 (rfl) (by omega) (by decide) ?_
      refine g_topI (nI (n)) (hn) ?_
      refine g_ic_ge ((p : Nat) : Int) ((n : Nat) : Int) 46 (nI_ti (by omega)) (nI_ti (by omega)) d12_valueBy_13 rfl (fun c13 => absurd c13 (by omega)) (fun _ => ?_)
      refine g_lload_n d12_valueBy_16 rfl ?_
      refine g_aload_n d12_valueBy_17 rfl ?_
      refine g_iload d12_valueBy_18 rfl ?_
      refine g_EV1 vm12_loss ml12_513 c_74 (r12_loss n lo wi (by exact hP) (p) (by omega) (Nat.le_refl 0)) (by omega) (Nat.le_of_ble_eq_true rfl) d12_valueBy_20 ?_
      refine g_iload_n d12_valueBy_23 rfl ?_
      refine g_ic_gt (((lo p) : Nat) : Int) ((mo : Nat) : Int) 37 (nI_ti (by omega)) (nI_ti (by omega)) d12_valueBy_24 rfl (fun _ => ?_) (fun c24 => absurd c24 (by omega))
      refine g_lconstv (1) d12_valueBy_37 rfl ?_
      refine g_lmul d12_valueBy_38 ?_
      refine g_topL (lN ((gpr lo wi mo (p)) * 1)) (lN_mul _ _) ?_
      refine g_lstore_n d12_valueBy_39 (by decide) ?_
      refine g_iincN d12_valueBy_40 rfl (by decide) ?_
      refine g_goto 5 d12_valueBy_43 rfl ?_
      refine g_lo [(0, .ref 74), (1, .int (nI (mo))), (2, .long (lN (gpr lo wi mo (p + 1)))), (4, .int (nI (p + 1)))] ⟨rfl, rfl, by show _ = some (Value.long (lN (_ * (if _ then _ else _)))); rw [if_neg hc]; rfl, rfl, trivial⟩ ?_
      exact ih (p + 1) (by omega) (by omega)
set_option maxHeartbeats 800000 in
theorem r12_vb2 {l : Launch} {K : cK} {d : Nat} {I : wI} {L : wL} {R : wR} {dy : cH} {Q : Option Value → cH → Prop} (n : Nat) (lo wi : Nat → Nat) (hP : PL I n lo wi) (mo : Nat) (hmo : mo ≤ 100) (hd : 2 ≤ d)
    (kk : (n ≤ n) → GL l K m12_valueBy d 0 0 118 [(0, .ref 74), (1, .int (nI (mo))), (2, .long (lN (gpr lo wi mo n))), (4, .long (lN (gup lo wi mo (gpr lo wi mo n) (n)))), (6, .long (lN (gdn lo wi mo (gpr lo wi mo n) (n))))] [] (hp I L R dy) Q) :
    ∀ (zn p : Nat) , p + zn = n → (p ≤ n) → GL l K m12_valueBy d 0 0 55 [(0, .ref 74), (1, .int (nI (mo))), (2, .long (lN (gpr lo wi mo n))), (4, .long (lN (gup lo wi mo (gpr lo wi mo n) (p)))), (6, .long (lN (gdn lo wi mo (gpr lo wi mo n) (p)))), (8, .int (nI (p)))] [] (hp I L R dy) Q := by
  obtain ⟨hn, hn6, hq⟩ := id hP
  have hw9 : ∀ p, p < n → 1 ≤ wi p ∧ wi p ≤ 99 := fun p hp => by obtain ⟨a1, a2, a3, a4⟩ := hq p hp; exact ⟨a3, by omega⟩
  have hl9 : ∀ p, p < n → lo p ≤ 99 := fun p hp => by obtain ⟨a1, a2, a3, a4⟩ := hq p hp; omega
  have hall := gpr_lt (lo := lo) (mo := mo) hn6 hw9 (Nat.le_refl n)
  intro zn
  induction zn with
  | zero =>
    intro p  hin hpn
    obtain rfl : n = p := by omega
    refine g_iload d12_valueBy_55 rfl ?_
    refine g_aload_n d12_valueBy_57 rfl ?_
    refine g_get fl12_13 d12_valueBy_58 f_74_3 ?_
    refine g_iconstv (nI 3) d12_valueBy_61 rfl ?_
    refine g_ialdN (3) d12_valueBy_62 a_76 (rfl) (by omega) (by decide) ?_
    refine g_topI (nI (n)) (hn) ?_
    refine g_ic_ge ((n : Nat) : Int) ((n : Nat) : Int) 118 (nI_ti (by omega)) (nI_ti (by omega)) d12_valueBy_63 rfl (fun _ => ?_) (fun c63 => absurd c63 (by omega))
    refine g_lo [(0, .ref 74), (1, .int (nI (mo))), (2, .long (lN (gpr lo wi mo n))), (4, .long (lN (gup lo wi mo (gpr lo wi mo n) (n)))), (6, .long (lN (gdn lo wi mo (gpr lo wi mo n) (n))))] ⟨rfl, rfl, rfl, rfl, rfl, trivial⟩ ?_
    exact kk  hpn
  | succ zn ih =>
    intro p  hin hpn
    obtain ⟨a1, a2, a3, a4⟩ := hq p (by omega)
    by_cases hc : lo p ≤ mo
    · skip
      refine g_iload d12_valueBy_55 rfl ?_
      refine g_aload_n d12_valueBy_57 rfl ?_
      refine g_get fl12_13 d12_valueBy_58 f_74_3 ?_
      refine g_iconstv (nI 3) d12_valueBy_61 rfl ?_
      refine g_ialdN (3) d12_valueBy_62 a_76 (rfl) (by omega) (by decide) ?_
      refine g_topI (nI (n)) (hn) ?_
      refine g_ic_ge ((p : Nat) : Int) ((n : Nat) : Int) 118 (nI_ti (by omega)) (nI_ti (by omega)) d12_valueBy_63 rfl (fun c63 => absurd c63 (by omega)) (fun _ => ?_)
      refine g_aload_n d12_valueBy_66 rfl ?_
      refine g_iload d12_valueBy_67 rfl ?_
      refine g_EV1 vm12_loss ml12_513 c_74 (r12_loss n lo wi (by exact hP) (p) (by omega) (Nat.le_refl 0)) (by omega) (Nat.le_of_ble_eq_true rfl) d12_valueBy_69 ?_
      refine g_iload_n d12_valueBy_72 rfl ?_
      refine g_ic_gt (((lo p) : Nat) : Int) ((mo : Nat) : Int) 112 (nI_ti (by omega)) (nI_ti (by omega)) d12_valueBy_73 rfl (fun c73 => absurd c73 (by omega)) (fun _ => ?_)
      refine g_lload d12_valueBy_76 rfl ?_
      refine g_lload_n d12_valueBy_78 rfl ?_
      refine g_aload_n d12_valueBy_79 rfl ?_
      refine g_iload d12_valueBy_80 rfl ?_
      refine g_EV1 vm12_wide ml12_516 c_74 (r12_wide n lo wi (by exact hP) (p) (by omega) (Nat.le_refl 1)) (by omega) (Nat.le_of_ble_eq_true rfl) d12_valueBy_82 ?_
      refine g_i2lN (by omega) d12_valueBy_85 ?_
      refine g_ldiv d12_valueBy_86 (lN_ne (by omega) (by omega)) ?_
      refine g_topL (lN ((gpr lo wi mo n) / (wi p))) (pk_lDiv (b := (wi p)) (by omega) (by omega) (by omega)) ?_
      refine g_aload_n d12_valueBy_87 rfl ?_
      refine g_iload d12_valueBy_88 rfl ?_
      refine g_EV1 vm12_loss ml12_513 c_74 (r12_loss n lo wi (by exact hP) (p) (by omega) (Nat.le_refl 0)) (by omega) (Nat.le_of_ble_eq_true rfl) d12_valueBy_90 ?_
      refine g_i2lN (by omega) d12_valueBy_93 ?_
      refine g_lmul d12_valueBy_94 ?_
      refine g_topL (lN (((gpr lo wi mo n) / (wi p)) * (lo p))) (lN_mul _ _) ?_
      refine g_ladd d12_valueBy_95 ?_
      refine g_topL (lN ((gup lo wi mo (gpr lo wi mo n) (p)) + (((gpr lo wi mo n) / (wi p)) * (lo p)))) (lN_add _ _) ?_
      refine g_lstore d12_valueBy_96 (by decide) ?_
      refine g_lload d12_valueBy_98 rfl ?_
      refine g_lload_n d12_valueBy_100 rfl ?_
      refine g_aload_n d12_valueBy_101 rfl ?_
      refine g_iload d12_valueBy_102 rfl ?_
      refine g_EV1 vm12_wide ml12_516 c_74 (r12_wide n lo wi (by exact hP) (p) (by omega) (Nat.le_refl 1)) (by omega) (Nat.le_of_ble_eq_true rfl) d12_valueBy_104 ?_
      refine g_i2lN (by omega) d12_valueBy_107 ?_
      refine g_ldiv d12_valueBy_108 (lN_ne (by omega) (by omega)) ?_
      refine g_topL (lN ((gpr lo wi mo n) / (wi p))) (pk_lDiv (b := (wi p)) (by omega) (by omega) (by omega)) ?_
      refine g_ladd d12_valueBy_109 ?_
      refine g_topL (lN ((gdn lo wi mo (gpr lo wi mo n) (p)) + ((gpr lo wi mo n) / (wi p)))) (lN_add _ _) ?_
      refine g_lstore d12_valueBy_110 (by decide) ?_
      refine g_iincN d12_valueBy_112 rfl (by decide) ?_
      refine g_goto 55 d12_valueBy_115 rfl ?_
      refine g_lo [(0, .ref 74), (1, .int (nI (mo))), (2, .long (lN (gpr lo wi mo n))), (4, .long (lN (gup lo wi mo (gpr lo wi mo n) (p + 1)))), (6, .long (lN (gdn lo wi mo (gpr lo wi mo n) (p + 1)))), (8, .int (nI (p + 1)))] ⟨rfl, rfl, rfl, by show _ = some (Value.long (lN (_ + (if _ then _ else _)))); rw [if_pos hc]; rfl, by show _ = some (Value.long (lN (_ + (if _ then _ else _)))); rw [if_pos hc]; rfl, rfl, trivial⟩ ?_
      exact ih (p + 1) (by omega) (by omega)
    · skip
      refine g_iload d12_valueBy_55 rfl ?_
      refine g_aload_n d12_valueBy_57 rfl ?_
      refine g_get fl12_13 d12_valueBy_58 f_74_3 ?_
      refine g_iconstv (nI 3) d12_valueBy_61 rfl ?_
      refine g_ialdN (3) d12_valueBy_62 a_76 (rfl) (by omega) (by decide) ?_
      refine g_topI (nI (n)) (hn) ?_
      refine g_ic_ge ((p : Nat) : Int) ((n : Nat) : Int) 118 (nI_ti (by omega)) (nI_ti (by omega)) d12_valueBy_63 rfl (fun c63 => absurd c63 (by omega)) (fun _ => ?_)
      refine g_aload_n d12_valueBy_66 rfl ?_
      refine g_iload d12_valueBy_67 rfl ?_
      refine g_EV1 vm12_loss ml12_513 c_74 (r12_loss n lo wi (by exact hP) (p) (by omega) (Nat.le_refl 0)) (by omega) (Nat.le_of_ble_eq_true rfl) d12_valueBy_69 ?_
      refine g_iload_n d12_valueBy_72 rfl ?_
      refine g_ic_gt (((lo p) : Nat) : Int) ((mo : Nat) : Int) 112 (nI_ti (by omega)) (nI_ti (by omega)) d12_valueBy_73 rfl (fun _ => ?_) (fun c73 => absurd c73 (by omega))
      refine g_iincN d12_valueBy_112 rfl (by decide) ?_
      refine g_goto 55 d12_valueBy_115 rfl ?_
      refine g_lo [(0, .ref 74), (1, .int (nI (mo))), (2, .long (lN (gpr lo wi mo n))), (4, .long (lN (gup lo wi mo (gpr lo wi mo n) (p + 1)))), (6, .long (lN (gdn lo wi mo (gpr lo wi mo n) (p + 1)))), (8, .int (nI (p + 1)))] ⟨rfl, rfl, rfl, by show _ = some (Value.long (lN (_ + (if _ then _ else _)))); rw [if_neg hc]; rfl, by show _ = some (Value.long (lN (_ + (if _ then _ else _)))); rw [if_neg hc]; rfl, rfl, trivial⟩ ?_
      exact ih (p + 1) (by omega) (by omega)
set_option maxHeartbeats 200000 in
theorem r12_valueBy {l : Launch} {K : cK} {d : Nat} {I : wI} {L : wL} {R : wR} {dy : cH} (n : Nat) (lo wi : Nat → Nat) (hP : PL I n lo wi) (mo : Nat) (hmo : mo ≤ 100) (q : Nat) (hqn : q < n) (hqm : lo q ≤ mo) (hd : 2 ≤ d) : CV l K m12_valueBy d [.ref 74, .int (nI mo)] (hp I L R dy) (hp I (uL (uL L 74 51 (lN (gu lo wi n mo))) 74 52 (lN (gd lo wi n mo))) R dy) := by
  obtain ⟨hn, hn6, hq⟩ := id hP
  have hw9 : ∀ p, p < n → 1 ≤ wi p ∧ wi p ≤ 99 := fun p hp => by obtain ⟨a1, a2, a3, a4⟩ := hq p hp; exact ⟨a3, by omega⟩
  have hl9 : ∀ p, p < n → lo p ≤ 99 := fun p hp => by obtain ⟨a1, a2, a3, a4⟩ := hq p hp; omega
  have hall := gpr_lt (lo := lo) (mo := mo) hn6 hw9 (Nat.le_refl n)
  refine CC.of ok12_valueBy (Nat.le_of_ble_eq_true rfl) ?_
  refine g_lconstv (1) d12_valueBy_0 rfl ?_
  refine g_lstore_n d12_valueBy_1 (by decide) ?_
  refine g_iconstv (nI 0) d12_valueBy_2 rfl ?_
  refine g_istore d12_valueBy_3 (by decide) ?_
  refine g_lo [(0, .ref 74), (1, .int (nI (mo))), (2, .long (lN (gpr lo wi mo 0))), (4, .int (nI (0)))] ⟨rfl, rfl, rfl, rfl, trivial⟩ ?_
  refine r12_vb1 n lo wi hP mo hmo (by omega) (fun _ => ?_) n 0 (by omega) (by omega)
  refine g_lload_n d12_valueBy_46 rfl ?_
  refine g_lstore d12_valueBy_47 (by decide) ?_
  refine g_lconstv (0) d12_valueBy_49 rfl ?_
  refine g_lstore d12_valueBy_50 (by decide) ?_
  refine g_iconstv (nI 0) d12_valueBy_52 rfl ?_
  refine g_istore d12_valueBy_53 (by decide) ?_
  refine g_lo [(0, .ref 74), (1, .int (nI (mo))), (2, .long (lN (gpr lo wi mo n))), (4, .long (lN (gup lo wi mo (gpr lo wi mo n) 0))), (6, .long (lN (gdn lo wi mo (gpr lo wi mo n) 0))), (8, .int (nI (0)))] ⟨rfl, rfl, rfl, rfl, rfl, rfl, trivial⟩ ?_
  refine r12_vb2 n lo wi hP mo hmo (by omega) (fun _ => ?_) n 0 (by omega) (by omega)
  have hU := gup_le lo wi mo (gpr lo wi mo n) hl9 n (Nat.le_refl n)
  have hU2 : n * ((gpr lo wi mo n) * 99) ≤ 6 * (941480149401 * 99) := Nat.mul_le_mul hn6 (Nat.mul_le_mul_right _ hall.2)
  have hD := gdn_le lo wi mo (gpr lo wi mo n) n
  have hD2 : n * (gpr lo wi mo n) ≤ 6 * 941480149401 := Nat.mul_le_mul hn6 hall.2
  have hD0 : 0 < gdn lo wi mo (gpr lo wi mo n) n := gdn_pos hqm (hw9 q hqn).1 (Nat.le_of_dvd hall.1 (gpr_div lo wi mo hqm n hqn)) n hqn
  refine g_aload_n d12_valueBy_118 rfl ?_
  refine g_lload d12_valueBy_119 rfl ?_
  refine g_lload d12_valueBy_121 rfl ?_
  refine g_VV2 vm12_shorten ml12_519 c_74 (r12_shorten (gup lo wi mo (gpr lo wi mo n) n) (gdn lo wi mo (gpr lo wi mo n) n) (by omega) (by omega) hD0 (Nat.le_refl 1)) (by omega) (Nat.le_of_ble_eq_true rfl) d12_valueBy_123 ?_
  exact g_vret rfl d12_valueBy_126 (⟨rfl, rfl⟩)
def gmi (lo : Nat → Nat) : Nat → Nat
  | 0 => 99
  | p + 1 => if lo p < gmi lo p then lo p else gmi lo p
def gnx (lo : Nat → Nat) (mo : Nat) : Nat → Nat
  | 0 => 100
  | p + 1 => if mo < lo p ∧ lo p < gnx lo mo p then lo p else gnx lo mo p
def gfi (lo wi : Nat → Nat) (n : Nat) : Nat → Nat → Nat
  | 0, mo => mo
  | f + 1, mo => if gnx lo mo n < 100 ∧ gnx lo mo n * gd lo wi n mo < gu lo wi n mo then gfi lo wi n f (gnx lo mo n) else mo
theorem gmi_le (lo : Nat → Nat) : ∀ n, gmi lo n ≤ 99
  | 0 => Nat.le_refl _
  | p + 1 => by have := gmi_le lo p; show (if _ then _ else _) ≤ _; split <;> omega
theorem gmi_at (lo : Nat → Nat) : ∀ n, (∀ p, p < n → lo p < 99) → 0 < n → ∃ q, q < n ∧ lo q ≤ gmi lo n
  | 0, _, h => by omega
  | p + 1, h, _ => by
    by_cases e : lo p < gmi lo p
    · exact ⟨p, Nat.lt_succ_self p, by show _ ≤ (if _ then _ else _); rw [if_pos e]; exact Nat.le_refl _⟩
    · by_cases e0 : p = 0
      · subst e0; exact absurd (h 0 (by omega)) (by unfold gmi at e; omega)
      · obtain ⟨q, a, b⟩ := gmi_at lo p (fun q hq => h q (by omega)) (by omega)
        exact ⟨q, by omega, by show _ ≤ (if _ then _ else _); rw [if_neg e]; exact b⟩
theorem gnx_le (lo : Nat → Nat) (mo : Nat) : ∀ n, gnx lo mo n ≤ 100
  | 0 => Nat.le_refl _
  | p + 1 => by have := gnx_le lo mo p; show (if _ then _ else _) ≤ _; split <;> omega
theorem gnx_at (lo : Nat → Nat) (mo : Nat) : ∀ n, gnx lo mo n < 100 → mo < gnx lo mo n ∧ ∃ q, q < n ∧ lo q = gnx lo mo n
  | 0, h => by unfold gnx at h; omega
  | p + 1, h => by
    by_cases e : mo < lo p ∧ lo p < gnx lo mo p
    · have e2 : gnx lo mo (p + 1) = lo p := if_pos e
      rw [e2]; exact ⟨e.1, p, by omega, rfl⟩
    · have e2 : gnx lo mo (p + 1) = gnx lo mo p := if_neg e
      rw [e2] at h ⊢
      obtain ⟨a, q, b, c⟩ := gnx_at lo mo p h
      exact ⟨a, q, by omega, c⟩
theorem gu_le {lo wi : Nat → Nat} {n mo : Nat} (hn6 : n ≤ 6) (hw9 : ∀ p, p < n → 1 ≤ wi p ∧ wi p ≤ 99) (hl9 : ∀ p, p < n → lo p ≤ 99) : gu lo wi n mo ≤ 1000000000000000 ∧ gd lo wi n mo ≤ 10000000000000 := by
  have hall := gpr_lt (lo := lo) (mo := mo) hn6 hw9 (Nat.le_refl n)
  have hU := gup_le lo wi mo (gpr lo wi mo n) hl9 n (Nat.le_refl n)
  have hU2 : n * (gpr lo wi mo n * 99) ≤ 6 * (941480149401 * 99) := Nat.mul_le_mul hn6 (Nat.mul_le_mul_right _ hall.2)
  have hD := gdn_le lo wi mo (gpr lo wi mo n) n
  have hD2 : n * gpr lo wi mo n ≤ 6 * 941480149401 := Nat.mul_le_mul hn6 hall.2
  refine ⟨Nat.le_trans (Nat.div_le_self _ _) ?_, Nat.le_trans (Nat.div_le_self _ _) ?_⟩
  · unfold gU; omega
  · unfold gD; omega
theorem lsub_ti {a b : Nat} (ha : a < 2 ^ 62) (hb : b < 2 ^ 62) : (lN a - lN b).toInt = (a : Int) - b := by
  rw [Int64.toInt_sub, pk_lT (by omega), pk_lT (by omega)]
  exact Int.bmod_eq_of_le (by omega) (by omega)
set_option maxHeartbeats 400000 in
theorem r12_fv1 {l : Launch} {K : cK} {d : Nat} {I : wI} {L : wL} {R : wR} {dy : cH} {Q : Option Value → cH → Prop} (n : Nat) (lo wi : Nat → Nat) (hP : PL I n lo wi) (hd : 1 ≤ d)
    (kk : (n ≤ n) → GL l K m12_findValue d 0 0 40 [(0, .ref 74), (1, .int (nI (gmi lo (n))))] [] (hp I L R dy) Q) :
    ∀ (zn p : Nat) , p + zn = n → (p ≤ n) → GL l K m12_findValue d 0 0 5 [(0, .ref 74), (1, .int (nI (gmi lo (p)))), (2, .int (nI (p)))] [] (hp I L R dy) Q := by
  obtain ⟨hn, hn6, hq⟩ := id hP
  have hw9 : ∀ p, p < n → 1 ≤ wi p ∧ wi p ≤ 99 := fun p hp => by obtain ⟨a1, a2, a3, a4⟩ := hq p hp; exact ⟨a3, by omega⟩
  have hl9 : ∀ p, p < n → lo p ≤ 99 := fun p hp => by obtain ⟨a1, a2, a3, a4⟩ := hq p hp; omega
  intro zn
  induction zn with
  | zero =>
    intro p  hin hpn
    obtain rfl : n = p := by omega
    refine g_iload_n d12_findValue_5 rfl ?_
    refine g_aload_n d12_findValue_6 rfl ?_
    refine g_get fl12_13 d12_findValue_7 f_74_3 ?_
    refine g_iconstv (nI 3) d12_findValue_10 rfl ?_
    refine g_ialdN (3) d12_findValue_11 a_76 (rfl) (by omega) (by decide) ?_
    refine g_topI (nI (n)) (hn) ?_
    refine g_ic_ge ((n : Nat) : Int) ((n : Nat) : Int) 40 (nI_ti (by omega)) (nI_ti (by omega)) d12_findValue_12 rfl (fun _ => ?_) (fun c12 => absurd c12 (by omega))
    refine g_lo [(0, .ref 74), (1, .int (nI (gmi lo (n))))] ⟨rfl, rfl, trivial⟩ ?_
    exact kk  hpn
  | succ zn ih =>
    intro p  hin hpn
    obtain ⟨a1, a2, a3, a4⟩ := hq p (by omega)
    have hg := gmi_le lo p
    by_cases hc : lo p < gmi lo p
    · skip
      refine g_iload_n d12_findValue_5 rfl ?_
      refine g_aload_n d12_findValue_6 rfl ?_
      refine g_get fl12_13 d12_findValue_7 f_74_3 ?_
      refine g_iconstv (nI 3) d12_findValue_10 rfl ?_
      refine g_ialdN (3) d12_findValue_11 a_76 (rfl) (by omega) (by decide) ?_
      refine g_topI (nI (n)) (hn) ?_
      refine g_ic_ge ((p : Nat) : Int) ((n : Nat) : Int) 40 (nI_ti (by omega)) (nI_ti (by omega)) d12_findValue_12 rfl (fun c12 => absurd c12 (by omega)) (fun _ => ?_)
      refine g_aload_n d12_findValue_15 rfl ?_
      refine g_iload_n d12_findValue_16 rfl ?_
      refine g_EV1 vm12_loss ml12_513 c_74 (r12_loss n lo wi (by exact hP) (p) (by omega) (Nat.le_refl 0)) (by omega) (Nat.le_of_ble_eq_true rfl) d12_findValue_17 ?_
      refine g_iload_n d12_findValue_20 rfl ?_
      refine g_ic_ge (((lo p) : Nat) : Int) (((gmi lo (p)) : Nat) : Int) 32 (nI_ti (by omega)) (nI_ti (by omega)) d12_findValue_21 rfl (fun c21 => absurd c21 (by omega)) (fun _ => ?_)
      refine g_aload_n d12_findValue_24 rfl ?_
      refine g_iload_n d12_findValue_25 rfl ?_
      refine g_EV1 vm12_loss ml12_513 c_74 (r12_loss n lo wi (by exact hP) (p) (by omega) (Nat.le_refl 0)) (by omega) (Nat.le_of_ble_eq_true rfl) d12_findValue_26 ?_
      refine g_goto 33 d12_findValue_29 rfl ?_
      refine g_istore_n d12_findValue_33 (by decide) ?_
      refine g_iincN d12_findValue_34 rfl (by decide) ?_
      refine g_goto 5 d12_findValue_37 rfl ?_
      refine g_lo [(0, .ref 74), (1, .int (nI (gmi lo (p + 1)))), (2, .int (nI (p + 1)))] ⟨rfl, by show _ = some (Value.int (nI (if _ then _ else _))); rw [if_pos hc]; rfl, rfl, trivial⟩ ?_
      exact ih (p + 1) (by omega) (by omega)
    · skip
      refine g_iload_n d12_findValue_5 rfl ?_
      refine g_aload_n d12_findValue_6 rfl ?_
      refine g_get fl12_13 d12_findValue_7 f_74_3 ?_
      refine g_iconstv (nI 3) d12_findValue_10 rfl ?_
      refine g_ialdN (3) d12_findValue_11 a_76 (rfl) (by omega) (by decide) ?_
      refine g_topI (nI (n)) (hn) ?_
      refine g_ic_ge ((p : Nat) : Int) ((n : Nat) : Int) 40 (nI_ti (by omega)) (nI_ti (by omega)) d12_findValue_12 rfl (fun c12 => absurd c12 (by omega)) (fun _ => ?_)
      refine g_aload_n d12_findValue_15 rfl ?_
      refine g_iload_n d12_findValue_16 rfl ?_
      refine g_EV1 vm12_loss ml12_513 c_74 (r12_loss n lo wi (by exact hP) (p) (by omega) (Nat.le_refl 0)) (by omega) (Nat.le_of_ble_eq_true rfl) d12_findValue_17 ?_
      refine g_iload_n d12_findValue_20 rfl ?_
      refine g_ic_ge (((lo p) : Nat) : Int) (((gmi lo (p)) : Nat) : Int) 32 (nI_ti (by omega)) (nI_ti (by omega)) d12_findValue_21 rfl (fun _ => ?_) (fun c21 => absurd c21 (by omega))
      refine g_iload_n d12_findValue_32 rfl ?_
      refine g_istore_n d12_findValue_33 (by decide) ?_
      refine g_iincN d12_findValue_34 rfl (by decide) ?_
      refine g_goto 5 d12_findValue_37 rfl ?_
      refine g_lo [(0, .ref 74), (1, .int (nI (gmi lo (p + 1)))), (2, .int (nI (p + 1)))] ⟨rfl, by show _ = some (Value.int (nI (if _ then _ else _))); rw [if_neg hc]; rfl, rfl, trivial⟩ ?_
      exact ih (p + 1) (by omega) (by omega)
set_option maxHeartbeats 400000 in
theorem r12_fv2 {l : Launch} {K : cK} {d : Nat} {I : wI} {L : wL} {R : wR} {dy : cH} {Q : Option Value → cH → Prop} (n : Nat) (lo wi : Nat → Nat) (hP : PL I n lo wi) (mo : Nat) (hmo : mo ≤ 100) (hd : 1 ≤ d)
    (kk : (n ≤ n) → GL l K m12_findValue d 0 0 105 [(0, .ref 74), (1, .int (nI (mo))), (3, .int (nI (gnx lo mo (n))))] [] (hp I L R dy) Q) :
    ∀ (zn p : Nat) , p + zn = n → (p ≤ n) → GL l K m12_findValue d 0 0 57 [(0, .ref 74), (1, .int (nI (mo))), (3, .int (nI (gnx lo mo (p)))), (4, .int (nI (p)))] [] (hp I L R dy) Q := by
  obtain ⟨hn, hn6, hq⟩ := id hP
  have hw9 : ∀ p, p < n → 1 ≤ wi p ∧ wi p ≤ 99 := fun p hp => by obtain ⟨a1, a2, a3, a4⟩ := hq p hp; exact ⟨a3, by omega⟩
  have hl9 : ∀ p, p < n → lo p ≤ 99 := fun p hp => by obtain ⟨a1, a2, a3, a4⟩ := hq p hp; omega
  intro zn
  induction zn with
  | zero =>
    intro p  hin hpn
    obtain rfl : n = p := by omega
    refine g_iload d12_findValue_57 rfl ?_
    refine g_aload_n d12_findValue_59 rfl ?_
    refine g_get fl12_13 d12_findValue_60 f_74_3 ?_
    refine g_iconstv (nI 3) d12_findValue_63 rfl ?_
    refine g_ialdN (3) d12_findValue_64 a_76 (rfl) (by omega) (by decide) ?_
    refine g_topI (nI (n)) (hn) ?_
    refine g_ic_ge ((n : Nat) : Int) ((n : Nat) : Int) 105 (nI_ti (by omega)) (nI_ti (by omega)) d12_findValue_65 rfl (fun _ => ?_) (fun c65 => absurd c65 (by omega))
    refine g_lo [(0, .ref 74), (1, .int (nI (mo))), (3, .int (nI (gnx lo mo (n))))] ⟨rfl, rfl, rfl, trivial⟩ ?_
    exact kk  hpn
  | succ zn ih =>
    intro p  hin hpn
    obtain ⟨a1, a2, a3, a4⟩ := hq p (by omega)
    have hg := gnx_le lo mo p
    rcases (by omega : (mo < lo p ∧ lo p < gnx lo mo p) ∨ (¬ mo < lo p) ∨ (mo < lo p ∧ ¬ lo p < gnx lo mo p)) with hc | hc | hc
    · skip
      refine g_iload d12_findValue_57 rfl ?_
      refine g_aload_n d12_findValue_59 rfl ?_
      refine g_get fl12_13 d12_findValue_60 f_74_3 ?_
      refine g_iconstv (nI 3) d12_findValue_63 rfl ?_
      refine g_ialdN (3) d12_findValue_64 a_76 (rfl) (by omega) (by decide) ?_
      refine g_topI (nI (n)) (hn) ?_
      refine g_ic_ge ((p : Nat) : Int) ((n : Nat) : Int) 105 (nI_ti (by omega)) (nI_ti (by omega)) d12_findValue_65 rfl (fun c65 => absurd c65 (by omega)) (fun _ => ?_)
      refine g_aload_n d12_findValue_68 rfl ?_
      refine g_iload d12_findValue_69 rfl ?_
      refine g_EV1 vm12_loss ml12_513 c_74 (r12_loss n lo wi (by exact hP) (p) (by omega) (Nat.le_refl 0)) (by omega) (Nat.le_of_ble_eq_true rfl) d12_findValue_71 ?_
      refine g_iload_n d12_findValue_74 rfl ?_
      refine g_ic_le (((lo p) : Nat) : Int) ((mo : Nat) : Int) 97 (nI_ti (by omega)) (nI_ti (by omega)) d12_findValue_75 rfl (fun c75 => absurd c75 (by omega)) (fun _ => ?_)
      refine g_aload_n d12_findValue_78 rfl ?_
      refine g_iload d12_findValue_79 rfl ?_
      refine g_EV1 vm12_loss ml12_513 c_74 (r12_loss n lo wi (by exact hP) (p) (by omega) (Nat.le_refl 0)) (by omega) (Nat.le_of_ble_eq_true rfl) d12_findValue_81 ?_
      refine g_iload_n d12_findValue_84 rfl ?_
      refine g_ic_ge (((lo p) : Nat) : Int) (((gnx lo mo (p)) : Nat) : Int) 97 (nI_ti (by omega)) (nI_ti (by omega)) d12_findValue_85 rfl (fun c85 => absurd c85 (by omega)) (fun _ => ?_)
      refine g_aload_n d12_findValue_88 rfl ?_
      refine g_iload d12_findValue_89 rfl ?_
      refine g_EV1 vm12_loss ml12_513 c_74 (r12_loss n lo wi (by exact hP) (p) (by omega) (Nat.le_refl 0)) (by omega) (Nat.le_of_ble_eq_true rfl) d12_findValue_91 ?_
      refine g_goto 98 d12_findValue_94 rfl ?_
      refine g_istore_n d12_findValue_98 (by decide) ?_
      refine g_iincN d12_findValue_99 rfl (by decide) ?_
      refine g_goto 57 d12_findValue_102 rfl ?_
      refine g_lo [(0, .ref 74), (1, .int (nI (mo))), (3, .int (nI (gnx lo mo (p + 1)))), (4, .int (nI (p + 1)))] ⟨rfl, rfl, by show _ = some (Value.int (nI (if _ then _ else _))); rw [if_pos hc]; rfl, rfl, trivial⟩ ?_
      exact ih (p + 1) (by omega) (by omega)
    · skip
      refine g_iload d12_findValue_57 rfl ?_
      refine g_aload_n d12_findValue_59 rfl ?_
      refine g_get fl12_13 d12_findValue_60 f_74_3 ?_
      refine g_iconstv (nI 3) d12_findValue_63 rfl ?_
      refine g_ialdN (3) d12_findValue_64 a_76 (rfl) (by omega) (by decide) ?_
      refine g_topI (nI (n)) (hn) ?_
      refine g_ic_ge ((p : Nat) : Int) ((n : Nat) : Int) 105 (nI_ti (by omega)) (nI_ti (by omega)) d12_findValue_65 rfl (fun c65 => absurd c65 (by omega)) (fun _ => ?_)
      refine g_aload_n d12_findValue_68 rfl ?_
      refine g_iload d12_findValue_69 rfl ?_
      refine g_EV1 vm12_loss ml12_513 c_74 (r12_loss n lo wi (by exact hP) (p) (by omega) (Nat.le_refl 0)) (by omega) (Nat.le_of_ble_eq_true rfl) d12_findValue_71 ?_
      refine g_iload_n d12_findValue_74 rfl ?_
      refine g_ic_le (((lo p) : Nat) : Int) ((mo : Nat) : Int) 97 (nI_ti (by omega)) (nI_ti (by omega)) d12_findValue_75 rfl (fun _ => ?_) (fun c75 => absurd c75 (by omega))
      refine g_iload_n d12_findValue_97 rfl ?_
      refine g_istore_n d12_findValue_98 (by decide) ?_
      refine g_iincN d12_findValue_99 rfl (by decide) ?_
      refine g_goto 57 d12_findValue_102 rfl ?_
      refine g_lo [(0, .ref 74), (1, .int (nI (mo))), (3, .int (nI (gnx lo mo (p + 1)))), (4, .int (nI (p + 1)))] ⟨rfl, rfl, by show _ = some (Value.int (nI (if _ then _ else _))); rw [if_neg (by omega)]; rfl, rfl, trivial⟩ ?_
      exact ih (p + 1) (by omega) (by omega)
    · skip
      refine g_iload d12_findValue_57 rfl ?_
      refine g_aload_n d12_findValue_59 rfl ?_
      refine g_get fl12_13 d12_findValue_60 f_74_3 ?_
      refine g_iconstv (nI 3) d12_findValue_63 rfl ?_
      refine g_ialdN (3) d12_findValue_64 a_76 (rfl) (by omega) (by decide) ?_
      refine g_topI (nI (n)) (hn) ?_
      refine g_ic_ge ((p : Nat) : Int) ((n : Nat) : Int) 105 (nI_ti (by omega)) (nI_ti (by omega)) d12_findValue_65 rfl (fun c65 => absurd c65 (by omega)) (fun _ => ?_)
      refine g_aload_n d12_findValue_68 rfl ?_
      refine g_iload d12_findValue_69 rfl ?_
      refine g_EV1 vm12_loss ml12_513 c_74 (r12_loss n lo wi (by exact hP) (p) (by omega) (Nat.le_refl 0)) (by omega) (Nat.le_of_ble_eq_true rfl) d12_findValue_71 ?_
      refine g_iload_n d12_findValue_74 rfl ?_
      refine g_ic_le (((lo p) : Nat) : Int) ((mo : Nat) : Int) 97 (nI_ti (by omega)) (nI_ti (by omega)) d12_findValue_75 rfl (fun c75 => absurd c75 (by omega)) (fun _ => ?_)
      refine g_aload_n d12_findValue_78 rfl ?_
      refine g_iload d12_findValue_79 rfl ?_
      refine g_EV1 vm12_loss ml12_513 c_74 (r12_loss n lo wi (by exact hP) (p) (by omega) (Nat.le_refl 0)) (by omega) (Nat.le_of_ble_eq_true rfl) d12_findValue_81 ?_
      refine g_iload_n d12_findValue_84 rfl ?_
      refine g_ic_ge (((lo p) : Nat) : Int) (((gnx lo mo (p)) : Nat) : Int) 97 (nI_ti (by omega)) (nI_ti (by omega)) d12_findValue_85 rfl (fun _ => ?_) (fun c85 => absurd c85 (by omega))
      refine g_iload_n d12_findValue_97 rfl ?_
      refine g_istore_n d12_findValue_98 (by decide) ?_
      refine g_iincN d12_findValue_99 rfl (by decide) ?_
      refine g_goto 57 d12_findValue_102 rfl ?_
      refine g_lo [(0, .ref 74), (1, .int (nI (mo))), (3, .int (nI (gnx lo mo (p + 1)))), (4, .int (nI (p + 1)))] ⟨rfl, rfl, by show _ = some (Value.int (nI (if _ then _ else _))); rw [if_neg (by omega)]; rfl, rfl, trivial⟩ ?_
      exact ih (p + 1) (by omega) (by omega)
set_option maxHeartbeats 800000 in
theorem r12_fv3 {l : Launch} {K : cK} {d : Nat} {I : wI} {L : wL} {R : wR} {dy : cH} {Q : Option Value → cH → Prop} (n : Nat) (lo wi : Nat → Nat) (hP : PL I n lo wi) (hd : 3 ≤ d)
    (mf : Nat) (kk : ∀ (L3 : wL), FR [] [] [] [51, 52] I L I L3 → L3 74 51 = lN (gu lo wi n mf) → L3 74 52 = lN (gd lo wi n mf) → GL l K m12_findValue d 0 0 145 [] [] (hp I L3 R dy) Q) :
    ∀ (zn mo : Nat) (L2 : wL), 100 ≤ mo + zn → mo ≤ 100 → (∃ q, q < n ∧ lo q ≤ mo) → gfi lo wi n zn mo = mf → FR [] [] [] [51, 52] I L I L2 → GL l K m12_findValue d 0 0 46 [(0, .ref 74), (1, .int (nI mo))] [] (hp I L2 R dy) Q := by
  obtain ⟨hn, hn6, hq⟩ := id hP
  have hw9 : ∀ p, p < n → 1 ≤ wi p ∧ wi p ≤ 99 := fun p hp => by obtain ⟨a1, a2, a3, a4⟩ := hq p hp; exact ⟨a3, by omega⟩
  have hl9 : ∀ p, p < n → lo p ≤ 99 := fun p hp => by obtain ⟨a1, a2, a3, a4⟩ := hq p hp; omega
  intro zn
  induction zn with
  | zero =>
    intro mo L2 h100 hmo hex hmf hF
    have hmf0 : mo = mf := hmf
    subst hmf0
    obtain ⟨q, hqn, hqm⟩ := hex
    have hb := gu_le (mo := mo) hn6 hw9 hl9
    have hg := gnx_le lo mo n
    have hL4 : FR [] [] [] [51, 52] I L I (uL (uL L2 74 51 (lN (gu lo wi n mo))) 74 52 (lN (gd lo wi n mo))) := (hF.ug (by decide)).ug (by decide)
    refine g_aload_n d12_findValue_46 rfl ?_
    refine g_iload_n d12_findValue_47 rfl ?_
    refine g_VV1 vm12_valueBy ml12_523 c_74 (r12_valueBy n lo wi hP mo hmo q hqn hqm (Nat.le_refl 2)) (by omega) (Nat.le_of_ble_eq_true rfl) d12_findValue_48 ?_
    refine g_bipushv (nI 100) d12_findValue_51 rfl ?_
    refine g_istore_n d12_findValue_53 (by decide) ?_
    refine g_iconstv (nI 0) d12_findValue_54 rfl ?_
    refine g_istore d12_findValue_55 (by decide) ?_
    refine g_lo [(0, .ref 74), (1, .int (nI (mo))), (3, .int (nI (gnx lo mo 0))), (4, .int (nI (0)))] ⟨rfl, rfl, rfl, rfl, trivial⟩ ?_
    refine r12_fv2 (L := uL (uL L2 74 51 (lN (gu lo wi n mo))) 74 52 (lN (gd lo wi n mo))) n lo wi hP mo hmo (by omega) (fun _ => ?_) n 0 (by omega) (by omega)
    have hg9 : ¬ gnx lo mo n < 100 := fun h => by have := (gnx_at lo mo n h).1; omega
    refine g_iload_n d12_findValue_105 rfl ?_
    refine g_bipushv (nI 100) d12_findValue_106 rfl ?_
    refine g_ic_ge (((gnx lo mo n) : Nat) : Int) (100) 130 (nI_ti (by omega)) (by decide) d12_findValue_108 rfl (fun _ => ?_) (fun c108 => absurd c108 (by omega))
    refine g_iconstv (nI 0) d12_findValue_130 rfl ?_
    refine g_istore_n d12_findValue_131 (by decide) ?_
    refine g_iload_n d12_findValue_132 rfl ?_
    refine g_iz_eq (0) 140 (by decide) d12_findValue_133 rfl (fun _ => ?_) (fun c133 => absurd c133 (by decide))
    refine g_iload_n d12_findValue_140 rfl ?_
    refine g_istore_n d12_findValue_141 (by decide) ?_
    refine g_goto 42 d12_findValue_142 rfl ?_
    refine g_iload_n d12_findValue_42 rfl ?_
    refine g_iz_eq (0) 145 (by decide) d12_findValue_43 rfl (fun _ => ?_) (fun c43 => absurd c43 (by decide))
    refine g_lo [] trivial ?_
    exact kk _ hL4 (by rw [uL_sn (by decide), uL_ss]) (by rw [uL_ss])
  | succ zn ih =>
    intro mo L2 h100 hmo hex hmf hF
    obtain ⟨q, hqn, hqm⟩ := hex
    have hb := gu_le (mo := mo) hn6 hw9 hl9
    have hg := gnx_le lo mo n
    have hL4 : FR [] [] [] [51, 52] I L I (uL (uL L2 74 51 (lN (gu lo wi n mo))) 74 52 (lN (gd lo wi n mo))) := (hF.ug (by decide)).ug (by decide)
    refine g_aload_n d12_findValue_46 rfl ?_
    refine g_iload_n d12_findValue_47 rfl ?_
    refine g_VV1 vm12_valueBy ml12_523 c_74 (r12_valueBy n lo wi hP mo hmo q hqn hqm (Nat.le_refl 2)) (by omega) (Nat.le_of_ble_eq_true rfl) d12_findValue_48 ?_
    refine g_bipushv (nI 100) d12_findValue_51 rfl ?_
    refine g_istore_n d12_findValue_53 (by decide) ?_
    refine g_iconstv (nI 0) d12_findValue_54 rfl ?_
    refine g_istore d12_findValue_55 (by decide) ?_
    refine g_lo [(0, .ref 74), (1, .int (nI (mo))), (3, .int (nI (gnx lo mo 0))), (4, .int (nI (0)))] ⟨rfl, rfl, rfl, rfl, trivial⟩ ?_
    refine r12_fv2 (L := uL (uL L2 74 51 (lN (gu lo wi n mo))) 74 52 (lN (gd lo wi n mo))) n lo wi hP mo hmo (by omega) (fun _ => ?_) n 0 (by omega) (by omega)
    rcases (by omega : (gnx lo mo n < 100 ∧ gnx lo mo n * gd lo wi n mo < gu lo wi n mo) ∨ ¬ gnx lo mo n < 100 ∨ (gnx lo mo n < 100 ∧ ¬ gnx lo mo n * gd lo wi n mo < gu lo wi n mo)) with hc | hc | hc
    · have hmf2 : gfi lo wi n zn (gnx lo mo n) = mf := by rw [← hmf]; exact (if_pos hc).symm
      obtain ⟨hgt, q2, hq2, he2⟩ := gnx_at lo mo n hc.1
      have hmul : gnx lo mo n * gd lo wi n mo ≤ 100 * 10000000000000 := Nat.mul_le_mul hg hb.2
      refine g_iload_n d12_findValue_105 rfl ?_
      refine g_bipushv (nI 100) d12_findValue_106 rfl ?_
      refine g_ic_ge (((gnx lo mo n) : Nat) : Int) (100) 130 (nI_ti (by omega)) (by decide) d12_findValue_108 rfl (fun c108 => absurd c108 (by omega)) (fun _ => ?_)
      refine g_iload_n d12_findValue_111 rfl ?_
      refine g_i2lN (by omega) d12_findValue_112 ?_
      refine g_aload_n d12_findValue_113 rfl ?_
      refine g_get fl12_510 d12_findValue_114 f_74_52 ?_
      refine g_topL (lN (gd lo wi n mo)) (uL_ss) ?_
      refine g_lmul d12_findValue_117 ?_
      refine g_topL (lN ((gnx lo mo n) * gd lo wi n mo)) (lN_mul _ _) ?_
      refine g_aload_n d12_findValue_118 rfl ?_
      refine g_get fl12_507 d12_findValue_119 f_74_51 ?_
      refine g_topL (lN (gu lo wi n mo)) (by rw [uL_sn (by decide), uL_ss]) ?_
      refine g_lx_ge ((((gnx lo mo n) * gd lo wi n mo) : Nat) : Int) ((gu lo wi n mo : Nat) : Int) 130 (pk_lT (by omega)) (pk_lT (by omega)) d12_findValue_122 d12_findValue_123 rfl (fun c122 => absurd c122 (by omega)) (fun _ => ?_)
      refine g_iconstv (nI 1) d12_findValue_126 rfl ?_
      refine g_goto 131 d12_findValue_127 rfl ?_
      refine g_istore_n d12_findValue_131 (by decide) ?_
      refine g_iload_n d12_findValue_132 rfl ?_
      refine g_iz_eq (1) 140 (by decide) d12_findValue_133 rfl (fun c133 => absurd c133 (by decide)) (fun _ => ?_)
      refine g_iload_n d12_findValue_136 rfl ?_
      refine g_goto 141 d12_findValue_137 rfl ?_
      refine g_istore_n d12_findValue_141 (by decide) ?_
      refine g_goto 42 d12_findValue_142 rfl ?_
      refine g_iload_n d12_findValue_42 rfl ?_
      refine g_iz_eq (1) 145 (by decide) d12_findValue_43 rfl (fun c43 => absurd c43 (by decide)) (fun _ => ?_)
      refine g_lo [(0, .ref 74), (1, .int (nI (gnx lo mo n)))] ⟨rfl, rfl, trivial⟩ ?_
      exact ih (gnx lo mo n) _ (by omega) hg ⟨q2, hq2, Nat.le_of_eq he2⟩ hmf2 hL4
    · have hmf2 : mo = mf := by rw [← hmf]; exact (if_neg (by omega)).symm
      subst hmf2
      refine g_iload_n d12_findValue_105 rfl ?_
      refine g_bipushv (nI 100) d12_findValue_106 rfl ?_
      refine g_ic_ge (((gnx lo mo n) : Nat) : Int) (100) 130 (nI_ti (by omega)) (by decide) d12_findValue_108 rfl (fun _ => ?_) (fun c108 => absurd c108 (by omega))
      refine g_iconstv (nI 0) d12_findValue_130 rfl ?_
      refine g_istore_n d12_findValue_131 (by decide) ?_
      refine g_iload_n d12_findValue_132 rfl ?_
      refine g_iz_eq (0) 140 (by decide) d12_findValue_133 rfl (fun _ => ?_) (fun c133 => absurd c133 (by decide))
      refine g_iload_n d12_findValue_140 rfl ?_
      refine g_istore_n d12_findValue_141 (by decide) ?_
      refine g_goto 42 d12_findValue_142 rfl ?_
      refine g_iload_n d12_findValue_42 rfl ?_
      refine g_iz_eq (0) 145 (by decide) d12_findValue_43 rfl (fun _ => ?_) (fun c43 => absurd c43 (by decide))
      refine g_lo [] trivial ?_
      exact kk _ hL4 (by rw [uL_sn (by decide), uL_ss]) (by rw [uL_ss])
    · have hmf2 : mo = mf := by rw [← hmf]; exact (if_neg (by omega)).symm
      subst hmf2
      have hmul : gnx lo mo n * gd lo wi n mo ≤ 100 * 10000000000000 := Nat.mul_le_mul hg hb.2
      refine g_iload_n d12_findValue_105 rfl ?_
      refine g_bipushv (nI 100) d12_findValue_106 rfl ?_
      refine g_ic_ge (((gnx lo mo n) : Nat) : Int) (100) 130 (nI_ti (by omega)) (by decide) d12_findValue_108 rfl (fun c108 => absurd c108 (by omega)) (fun _ => ?_)
      refine g_iload_n d12_findValue_111 rfl ?_
      refine g_i2lN (by omega) d12_findValue_112 ?_
      refine g_aload_n d12_findValue_113 rfl ?_
      refine g_get fl12_510 d12_findValue_114 f_74_52 ?_
      refine g_topL (lN (gd lo wi n mo)) (uL_ss) ?_
      refine g_lmul d12_findValue_117 ?_
      refine g_topL (lN ((gnx lo mo n) * gd lo wi n mo)) (lN_mul _ _) ?_
      refine g_aload_n d12_findValue_118 rfl ?_
      refine g_get fl12_507 d12_findValue_119 f_74_51 ?_
      refine g_topL (lN (gu lo wi n mo)) (by rw [uL_sn (by decide), uL_ss]) ?_
      refine g_lx_ge ((((gnx lo mo n) * gd lo wi n mo) : Nat) : Int) ((gu lo wi n mo : Nat) : Int) 130 (pk_lT (by omega)) (pk_lT (by omega)) d12_findValue_122 d12_findValue_123 rfl (fun _ => ?_) (fun c122 => absurd c122 (by omega))
      refine g_iconstv (nI 0) d12_findValue_130 rfl ?_
      refine g_istore_n d12_findValue_131 (by decide) ?_
      refine g_iload_n d12_findValue_132 rfl ?_
      refine g_iz_eq (0) 140 (by decide) d12_findValue_133 rfl (fun _ => ?_) (fun c133 => absurd c133 (by decide))
      refine g_iload_n d12_findValue_140 rfl ?_
      refine g_istore_n d12_findValue_141 (by decide) ?_
      refine g_goto 42 d12_findValue_142 rfl ?_
      refine g_iload_n d12_findValue_42 rfl ?_
      refine g_iz_eq (0) 145 (by decide) d12_findValue_43 rfl (fun _ => ?_) (fun c43 => absurd c43 (by decide))
      refine g_lo [] trivial ?_
      exact kk _ hL4 (by rw [uL_sn (by decide), uL_ss]) (by rw [uL_ss])
set_option maxHeartbeats 400000 in
theorem r12_findValue {l : Launch} {K : cK} {d : Nat} {I : wI} {L : wL} {R : wR} {dy : cH} (n : Nat) (lo wi : Nat → Nat) (hP : PL I n lo wi) (hn0 : 0 < n) (hd : 3 ≤ d) : CW l K m12_findValue d [.ref 74] (hp I L R dy) (α := wL) (fun x => FR [] [] [] [51, 52] I L I x ∧ x 74 51 = lN (gu lo wi n (gfi lo wi n 100 (gmi lo n))) ∧ x 74 52 = lN (gd lo wi n (gfi lo wi n 100 (gmi lo n)))) (fun x => hp I x R dy) := by
  obtain ⟨hn, hn6, hq⟩ := id hP
  have hw9 : ∀ p, p < n → 1 ≤ wi p ∧ wi p ≤ 99 := fun p hp => by obtain ⟨a1, a2, a3, a4⟩ := hq p hp; exact ⟨a3, by omega⟩
  have hl9 : ∀ p, p < n → lo p ≤ 99 := fun p hp => by obtain ⟨a1, a2, a3, a4⟩ := hq p hp; omega
  refine CC.of ok12_findValue (Nat.le_of_ble_eq_true rfl) ?_
  refine g_bipushv (nI 99) d12_findValue_0 rfl ?_
  refine g_istore_n d12_findValue_2 (by decide) ?_
  refine g_iconstv (nI 0) d12_findValue_3 rfl ?_
  refine g_istore_n d12_findValue_4 (by decide) ?_
  refine g_lo [(0, .ref 74), (1, .int (nI (gmi lo 0))), (2, .int (nI (0)))] ⟨rfl, rfl, rfl, trivial⟩ ?_
  refine r12_fv1 n lo wi hP (by omega) (fun _ => ?_) n 0 (by omega) (by omega)
  have hg := gmi_le lo n
  have hex := gmi_at lo n (fun p h => by obtain ⟨a1, a2, a3, a4⟩ := hq p h; omega) hn0
  refine g_iconstv (nI 1) d12_findValue_40 rfl ?_
  refine g_istore_n d12_findValue_41 (by decide) ?_
  refine g_iload_n d12_findValue_42 rfl ?_
  refine g_iz_eq (1) 145 (by decide) d12_findValue_43 rfl (fun c43 => absurd c43 (by decide)) (fun _ => ?_)
  refine g_lo [(0, .ref 74), (1, .int (nI (gmi lo n)))] ⟨rfl, rfl, trivial⟩ ?_
  refine r12_fv3 n lo wi hP hd (gfi lo wi n 100 (gmi lo n)) (fun L3 h1 h2 h3 => ?_) 100 (gmi lo n) L (by omega) (by omega) hex rfl FR.rf
  exact g_vret rfl d12_findValue_145 (⟨L3, ⟨h1, h2, h3⟩, rfl, rfl⟩)
