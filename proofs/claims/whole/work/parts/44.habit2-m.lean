/-- what is paid in state k of slot s -/
def hpd (per : Nat) (co : Nat → Nat → Nat → Nat) (s k : Nat) : Nat := pdb per (k % 13) (co s (k / 13) (k % 13))
def hxs (per : Nat) (cm : Nat → Nat → Nat) (co : Nat → Nat → Nat → Nat) (S : Nat → Nat) (s : Nat) : Nat → Nat → Nat
  | 0, _ => 0
  | j + 1, q => hxs per cm co S s j q + (if q = 13 + les (hpd per co s (13 + j)) then S (13 + j) / 10 * cm s ((13 + j) / 13) else 0) + (if q = 13 * lat ((13 + j) / 13) + les (hpd per co s (13 + j)) then S (13 + j) / 10 * (10 - cm s ((13 + j) / 13)) else 0)
def hvs (coin per fr fl : Nat) (cm fn : Nat → Nat → Nat) (co : Nat → Nat → Nat → Nat) (S : Nat → Nat) (s : Nat) : Nat → Nat
  | 0 => 0
  | j + 1 => hvs coin per fr fl cm fn co S s j + (S (13 + j) * prc coin fr fl s (co s ((13 + j) / 13) ((13 + j) % 13)) + (if 0 < hpd per co s (13 + j) then 0 else S (13 + j) / 10 * cm s ((13 + j) / 13) * fn s ((13 + j) / 13)))
def hS (per fr : Nat) (cm : Nat → Nat → Nat) (co : Nat → Nat → Nat → Nat) (P : Nat → Nat) : Nat → Nat → Nat
  | 0, k => if k % 13 = 0 ∧ 0 < k then P (k / 13) else 0
  | m + 1, q => hxs per cm co (hS per fr cm co P m) (fr + m) 156 q
def hV (coin per fr fl : Nat) (cm fn : Nat → Nat → Nat) (co : Nat → Nat → Nat → Nat) (P : Nat → Nat) : Nat → Nat
  | 0 => 0
  | m + 1 => hV coin per fr fl cm fn co P m + hvs coin per fr fl cm fn co (hS per fr cm co P m) (fr + m) 156
theorem hpd_le (per : Nat) (co : Nat → Nat → Nat → Nat) (s k : Nat) : hpd per co s k ≤ 12 := by unfold hpd pdb; omega
theorem sm_zero (n : Nat) : sm (fun _ => 0) n = 0 := by
  induction n with
  | zero => rfl
  | succ n ih => show sm _ n + 0 = 0; rw [ih]
theorem hxs_sum (per : Nat) (cm : Nat → Nat → Nat) (co : Nat → Nat → Nat → Nat) (S : Nat → Nat) (s : Nat) (hcm : ∀ s k, cm s k ≤ 10) : ∀ j, j ≤ 156 → sm (hxs per cm co S s j) 168 ≤ sm S (12 + j)
  | 0, _ => by rw [show hxs per cm co S s 0 = fun _ => 0 from rfl, sm_zero]; exact Nat.zero_le _
  | j + 1, hj => by
    have ih := hxs_sum per cm co S s hcm j (by omega)
    have e : hxs per cm co S s (j + 1) = fun q => (hxs per cm co S s j q + (if q = 13 + les (hpd per co s (13 + j)) then S (13 + j) / 10 * cm s ((13 + j) / 13) else 0)) + (if q = 13 * lat ((13 + j) / 13) + les (hpd per co s (13 + j)) then S (13 + j) / 10 * (10 - cm s ((13 + j) / 13)) else 0) := rfl
    rw [e, sm_add, sm_add, sm_one, sm_one]
    have a1 := hcm s ((13 + j) / 13)
    have a2 : S (13 + j) / 10 * cm s ((13 + j) / 13) + S (13 + j) / 10 * (10 - cm s ((13 + j) / 13)) = S (13 + j) / 10 * 10 := by rw [← Nat.mul_add]; congr 1; omega
    have a3 := Nat.div_mul_le_self (S (13 + j)) 10
    have a4 : sm S (12 + (j + 1)) = sm S (12 + j) + S (13 + j) := by show sm S (12 + j) + S (12 + j + 1) = _; rw [show 12 + j + 1 = 13 + j by omega]
    rw [a4]
    split <;> split <;> omega
theorem hS_sum (per fr : Nat) (cm : Nat → Nat → Nat) (co : Nat → Nat → Nat → Nat) (P : Nat → Nat) (hcm : ∀ s k, cm s k ≤ 10) : ∀ m, sm (hS per fr cm co P m) 168 ≤ sm (hS per fr cm co P 0) 168
  | 0 => Nat.le_refl _
  | m + 1 => Nat.le_trans (hxs_sum per cm co (hS per fr cm co P m) (fr + m) hcm 156 (Nat.le_refl _)) (hS_sum per fr cm co P hcm m)
theorem hS0_sum (per fr : Nat) (cm : Nat → Nat → Nat) (co : Nat → Nat → Nat → Nat) (P : Nat → Nat) : sm (hS per fr cm co P 0) 168 = sm P 12 := by
  have key : ∀ n, sm (hS per fr cm co P 0) (13 * n + 12) = sm P n := by
    intro n
    have f0 : ∀ m k, 13 * m < k → k < 13 * m + 13 → hS per fr cm co P 0 k = 0 := fun m k a b => if_neg (by omega)
    induction n with
    | zero =>
      have z : ∀ j, j ≤ 12 → sm (hS per fr cm co P 0) j = 0 := by
        intro j
        induction j with
        | zero => intro _; rfl
        | succ j ihj => intro hj; show sm _ j + _ = 0; rw [ihj (by omega), f0 0 _ (by omega) (by omega)]
      exact z 12 (Nat.le_refl _)
    | succ n ih =>
      have z : ∀ j, j ≤ 12 → sm (hS per fr cm co P 0) (13 * n + 13 + j) = sm P (n + 1) := by
        intro j
        induction j with
        | zero =>
          intro _
          show sm _ (13 * n + 12) + hS per fr cm co P 0 (13 * n + 12 + 1) = sm P n + P (n + 1)
          rw [ih]; congr 1
          show (if _ then _ else _) = _
          rw [if_pos (by omega), show (13 * n + 12 + 1) / 13 = n + 1 by omega]
        | succ j ihj => intro hj; show sm _ (13 * n + 13 + j) + hS per fr cm co P 0 (13 * n + 13 + j + 1) = _; rw [ihj (by omega), f0 (n + 1) _ (by omega) (by omega)]; rfl
      exact z 12 (Nat.le_refl _)
  exact key 12
theorem hvs_le (coin per fr fl : Nat) (cm fn : Nat → Nat → Nat) (co : Nat → Nat → Nat → Nat) (S : Nat → Nat) (s : Nat) (hcm : ∀ s k, cm s k ≤ 10) (hfn : ∀ s k, fn s k ≤ 99) (h1 : coin ≤ 9) (h2 : fl ≤ 9) (hco : ∀ a b c, co a b c ≤ 12) : ∀ j, hvs coin per fr fl cm fn co S s j ≤ sm S (12 + j) * 216
  | 0 => Nat.zero_le _
  | j + 1 => by
    have ih := hvs_le coin per fr fl cm fn co S s hcm hfn h1 h2 hco j
    have a4 : sm S (12 + (j + 1)) = sm S (12 + j) + S (13 + j) := by show sm S (12 + j) + S (12 + j + 1) = _; rw [show 12 + j + 1 = 13 + j by omega]
    have b1 := Nat.mul_le_mul_left (S (13 + j)) (prc_le (fr := fr) (s := s) h1 h2 (hco s ((13 + j) / 13) ((13 + j) % 13)))
    have b2 : S (13 + j) / 10 * cm s ((13 + j) / 13) ≤ S (13 + j) := by
      have := Nat.mul_le_mul_left (S (13 + j) / 10) (hcm s ((13 + j) / 13))
      have := Nat.div_mul_le_self (S (13 + j)) 10
      omega
    have b3 := Nat.mul_le_mul b2 (hfn s ((13 + j) / 13))
    rw [a4]
    show hvs coin per fr fl cm fn co S s j + _ ≤ _
    split <;> omega
theorem hV_le (coin per fr fl : Nat) (cm fn : Nat → Nat → Nat) (co : Nat → Nat → Nat → Nat) (P : Nat → Nat) (hcm : ∀ s k, cm s k ≤ 10) (hfn : ∀ s k, fn s k ≤ 99) (h1 : coin ≤ 9) (h2 : fl ≤ 9) (hco : ∀ a b c, co a b c ≤ 12) (hP : sm P 12 ≤ 1000000000000) : ∀ m, hV coin per fr fl cm fn co P m ≤ m * 216000000000000
  | 0 => Nat.zero_le _
  | m + 1 => by
    have ih := hV_le coin per fr fl cm fn co P hcm hfn h1 h2 hco hP m
    have a := hvs_le coin per fr fl cm fn co (hS per fr cm co P m) (fr + m) hcm hfn h1 h2 hco 156
    have b := hS_sum per fr cm co P hcm m
    rw [hS0_sum] at b
    show hV coin per fr fl cm fn co P m + _ ≤ _
    have c : sm (hS per fr cm co P m) (12 + 156) * 216 ≤ 1000000000000 * 216 := Nat.mul_le_mul_right _ (Nat.le_trans b hP)
    rw [Nat.succ_mul]; omega
theorem hS_le (per fr : Nat) (cm : Nat → Nat → Nat) (co : Nat → Nat → Nat → Nat) (P : Nat → Nat) (hcm : ∀ s k, cm s k ≤ 10) (hP : sm P 12 ≤ 1000000000000) (m : Nat) {k : Nat} (h1 : 1 ≤ k) (h2 : k ≤ 168) : hS per fr cm co P m k ≤ 1000000000000 :=
  Nat.le_trans (sm_le_at _ h1 h2) (Nat.le_trans (hS_sum per fr cm co P hcm m) (by rw [hS0_sum]; exact hP))
set_option maxHeartbeats 400000 in
theorem r12_hc0 {l : Launch} {K : cK} {d : Nat} {I : wI} {L : wL} {R : wR} {dy : cH} {Q : Option Value → cH → Prop} (per c h fr : Nat) (hfr : fr ≤ 11) (cm : Nat → Nat → Nat) (co : Nat → Nat → Nat → Nat) (P : Nat → Nat) (hP : ∀ k, 1 ≤ k → k ≤ 12 → L 91 (13 * fr + k) = lN (P k))
    (kk : ∀ (L3 : wL), (FR [] [28, 32] [88, 89, 99, 100] [33, 34] I L I L3) → (∀ q, q < 169 → L3 99 q = lN (hS per fr cm co P 0 q)) → GL l K m12_habitCost d 0 0 67 [(0, .ref 74), (1, .int (nI (c))), (2, .int (nI (h))), (3, .long (lN 0)), (5, .int (nI (fr)))] [] (hp I L3 R dy) Q) :
    ∀ (n k : Nat) (L2 : wL), k + n = 169 → (FR [] [28, 32] [88, 89, 99, 100] [33, 34] I L I L2) → (∀ q, q < k → L2 99 q = lN (hS per fr cm co P 0 q)) → GL l K m12_habitCost d 0 0 13 [(0, .ref 74), (1, .int (nI (c))), (2, .int (nI (h))), (3, .long (lN 0)), (5, .int (nI (fr))), (6, .int (nI (k)))] [] (hp I L2 R dy) Q := by
  intro n
  induction n with
  | zero =>
    intro k L2 hin hF hz
    obtain rfl : k = 169 := by omega
    refine g_iload d12_habitCost_13 rfl ?_
    refine g_sipushv (nI 169) d12_habitCost_15 rfl ?_
    refine g_ic_ge ((169 : Nat) : Int) (169) 67 (nI_ti (by omega)) (by decide) d12_habitCost_18 rfl (fun _ => ?_) (fun c18 => absurd c18 (by decide))
    refine g_lo [(0, .ref 74), (1, .int (nI (c))), (2, .int (nI (h))), (3, .long (lN 0)), (5, .int (nI (fr)))] ⟨rfl, rfl, rfl, rfl, rfl, trivial⟩ ?_
    exact kk L2 hF hz
  | succ n ih =>
    intro k L2 hin hF hz
    rcases (by omega : (k % 13 = 0 ∧ 0 < k) ∨ (k % 13 = 0 ∧ k = 0) ∨ ¬ k % 13 = 0) with ⟨e1, e2⟩ | ⟨e1, e2⟩ | e1
    · skip
      refine g_iload d12_habitCost_13 rfl ?_
      refine g_sipushv (nI 169) d12_habitCost_15 rfl ?_
      refine g_ic_ge ((k : Nat) : Int) (169) 67 (nI_ti (by omega)) (by decide) d12_habitCost_18 rfl (fun c18 => absurd c18 (by omega)) (fun _ => ?_)
      refine g_aload_n d12_habitCost_21 rfl ?_
      refine g_get fl12_110 d12_habitCost_22 f_74_49 ?_
      refine g_iload d12_habitCost_25 rfl ?_
      refine g_iload d12_habitCost_27 rfl ?_
      refine g_bipushv (nI 13) d12_habitCost_29 rfl ?_
      refine g_irem d12_habitCost_31 (by decide) ?_
      refine g_topI (nI (k % 13)) (pk_rem (d := 13) (by omega) (by omega) (by omega)) ?_
      refine g_iz_ne (((k % 13) : Nat) : Int) 59 (nI_ti (by omega)) d12_habitCost_32 rfl (fun c32 => absurd c32 (by omega)) (fun _ => ?_)
      refine g_iload d12_habitCost_35 rfl ?_
      refine g_iz_le ((k : Nat) : Int) 59 (nI_ti (by omega)) d12_habitCost_37 rfl (fun c37 => absurd c37 (by omega)) (fun _ => ?_)
      refine g_aload_n d12_habitCost_40 rfl ?_
      refine g_get fl12_86 d12_habitCost_41 f_74_38 ?_
      refine g_bipushv (nI 13) d12_habitCost_44 rfl ?_
      refine g_iload d12_habitCost_46 rfl ?_
      refine g_imulN d12_habitCost_48 ?_
      refine g_iload d12_habitCost_49 rfl ?_
      refine g_bipushv (nI 13) d12_habitCost_51 rfl ?_
      refine g_idiv d12_habitCost_53 (by decide) ?_
      refine g_topI (nI (k / 13)) (pk_div (d := 13) (by omega) (by omega) (by omega)) ?_
      refine g_iaddN d12_habitCost_54 ?_
      refine g_laldN (((13 * fr) + (k / 13))) d12_habitCost_55 a_91 (rfl) (by omega) (by decide) ?_
      refine g_topL (lN (P (k / 13))) ((congrFun (hF.2.2.1 91 (by decide) (by decide)) _).trans (hP _ (by omega) (by omega))) ?_
      refine g_goto 60 d12_habitCost_56 rfl ?_
      refine g_lastN (k) _ d12_habitCost_60 a_99 (rfl) (by omega) (by decide) t_99 ?_
      refine g_iincN d12_habitCost_61 rfl (by decide) ?_
      refine g_goto 13 d12_habitCost_64 rfl ?_
      refine g_lo [(0, .ref 74), (1, .int (nI (c))), (2, .int (nI (h))), (3, .long (lN 0)), (5, .int (nI (fr))), (6, .int (nI (k + 1)))] ⟨rfl, rfl, rfl, rfl, rfl, rfl, trivial⟩ ?_
      refine ih (k + 1) _ (by omega) (hF.ul (by decide) (by decide)) (fun q hq => ?_)
      by_cases e : q = k
      · subst e; rw [uL_ss]; show _ = lN (if _ then _ else _); rw [if_pos ⟨e1, e2⟩]
      · rw [uL_sn e]; exact hz q (by omega)
    · skip
      refine g_iload d12_habitCost_13 rfl ?_
      refine g_sipushv (nI 169) d12_habitCost_15 rfl ?_
      refine g_ic_ge ((k : Nat) : Int) (169) 67 (nI_ti (by omega)) (by decide) d12_habitCost_18 rfl (fun c18 => absurd c18 (by omega)) (fun _ => ?_)
      refine g_aload_n d12_habitCost_21 rfl ?_
      refine g_get fl12_110 d12_habitCost_22 f_74_49 ?_
      refine g_iload d12_habitCost_25 rfl ?_
      refine g_iload d12_habitCost_27 rfl ?_
      refine g_bipushv (nI 13) d12_habitCost_29 rfl ?_
      refine g_irem d12_habitCost_31 (by decide) ?_
      refine g_topI (nI (k % 13)) (pk_rem (d := 13) (by omega) (by omega) (by omega)) ?_
      refine g_iz_ne (((k % 13) : Nat) : Int) 59 (nI_ti (by omega)) d12_habitCost_32 rfl (fun c32 => absurd c32 (by omega)) (fun _ => ?_)
      refine g_iload d12_habitCost_35 rfl ?_
      refine g_iz_le ((k : Nat) : Int) 59 (nI_ti (by omega)) d12_habitCost_37 rfl (fun _ => ?_) (fun c37 => absurd c37 (by omega))
      refine g_lconstv (0) d12_habitCost_59 rfl ?_
      refine g_lastN (k) _ d12_habitCost_60 a_99 (rfl) (by omega) (by decide) t_99 ?_
      refine g_iincN d12_habitCost_61 rfl (by decide) ?_
      refine g_goto 13 d12_habitCost_64 rfl ?_
      refine g_lo [(0, .ref 74), (1, .int (nI (c))), (2, .int (nI (h))), (3, .long (lN 0)), (5, .int (nI (fr))), (6, .int (nI (k + 1)))] ⟨rfl, rfl, rfl, rfl, rfl, rfl, trivial⟩ ?_
      refine ih (k + 1) _ (by omega) (hF.ul (by decide) (by decide)) (fun q hq => ?_)
      by_cases e : q = k
      · subst e; rw [uL_ss]; show _ = lN (if _ then _ else _); rw [if_neg (by omega)]; rfl
      · rw [uL_sn e]; exact hz q (by omega)
    · skip
      refine g_iload d12_habitCost_13 rfl ?_
      refine g_sipushv (nI 169) d12_habitCost_15 rfl ?_
      refine g_ic_ge ((k : Nat) : Int) (169) 67 (nI_ti (by omega)) (by decide) d12_habitCost_18 rfl (fun c18 => absurd c18 (by omega)) (fun _ => ?_)
      refine g_aload_n d12_habitCost_21 rfl ?_
      refine g_get fl12_110 d12_habitCost_22 f_74_49 ?_
      refine g_iload d12_habitCost_25 rfl ?_
      refine g_iload d12_habitCost_27 rfl ?_
      refine g_bipushv (nI 13) d12_habitCost_29 rfl ?_
      refine g_irem d12_habitCost_31 (by decide) ?_
      refine g_topI (nI (k % 13)) (pk_rem (d := 13) (by omega) (by omega) (by omega)) ?_
      refine g_iz_ne (((k % 13) : Nat) : Int) 59 (nI_ti (by omega)) d12_habitCost_32 rfl (fun _ => ?_) (fun c32 => absurd c32 (by omega))
      refine g_lconstv (0) d12_habitCost_59 rfl ?_
      refine g_lastN (k) _ d12_habitCost_60 a_99 (rfl) (by omega) (by decide) t_99 ?_
      refine g_iincN d12_habitCost_61 rfl (by decide) ?_
      refine g_goto 13 d12_habitCost_64 rfl ?_
      refine g_lo [(0, .ref 74), (1, .int (nI (c))), (2, .int (nI (h))), (3, .long (lN 0)), (5, .int (nI (fr))), (6, .int (nI (k + 1)))] ⟨rfl, rfl, rfl, rfl, rfl, rfl, trivial⟩ ?_
      refine ih (k + 1) _ (by omega) (hF.ul (by decide) (by decide)) (fun q hq => ?_)
      by_cases e : q = k
      · subst e; rw [uL_ss]; show _ = lN (if _ then _ else _); rw [if_neg (by omega)]; rfl
      · rw [uL_sn e]; exact hz q (by omega)
set_option maxHeartbeats 400000 in
theorem r12_hc1 {l : Launch} {K : cK} {d : Nat} {I : wI} {L : wL} {R : wR} {dy : cH} {Q : Option Value → cH → Prop} (c h fr s v : Nat)
    (kk : ∀ (L3 : wL), (∀ q, q ≠ 100 → L3 q = L q) → (∀ q, q < 169 → L3 100 q = lN 0) → GL l K m12_habitCost d 0 0 107 [(0, .ref 74), (1, .int (nI (c))), (2, .int (nI (h))), (3, .long (lN v)), (5, .int (nI (fr))), (6, .int (nI (s)))] [] (hp I L3 R dy) Q) :
    ∀ (n k : Nat) (L2 : wL), k + n = 169 → (∀ q, q ≠ 100 → L2 q = L q) → (∀ q, q < k → L2 100 q = lN 0) → GL l K m12_habitCost d 0 0 85 [(0, .ref 74), (1, .int (nI (c))), (2, .int (nI (h))), (3, .long (lN v)), (5, .int (nI (fr))), (6, .int (nI (s))), (7, .int (nI (k)))] [] (hp I L2 R dy) Q := by
  intro n
  induction n with
  | zero =>
    intro k L2 hin hL hz
    obtain rfl : k = 169 := by omega
    refine g_iload d12_habitCost_85 rfl ?_
    refine g_sipushv (nI 169) d12_habitCost_87 rfl ?_
    refine g_ic_ge ((169 : Nat) : Int) (169) 107 (nI_ti (by omega)) (by decide) d12_habitCost_90 rfl (fun _ => ?_) (fun c90 => absurd c90 (by decide))
    refine g_lo [(0, .ref 74), (1, .int (nI (c))), (2, .int (nI (h))), (3, .long (lN v)), (5, .int (nI (fr))), (6, .int (nI (s)))] ⟨rfl, rfl, rfl, rfl, rfl, rfl, trivial⟩ ?_
    exact kk L2 hL hz
  | succ n ih =>
    intro k L2 hin hL hz
    refine g_iload d12_habitCost_85 rfl ?_
    refine g_sipushv (nI 169) d12_habitCost_87 rfl ?_
    refine g_ic_ge ((k : Nat) : Int) (169) 107 (nI_ti (by omega)) (by decide) d12_habitCost_90 rfl (fun c90 => absurd c90 (by omega)) (fun _ => ?_)
    refine g_aload_n d12_habitCost_93 rfl ?_
    refine g_get fl12_113 d12_habitCost_94 f_74_50 ?_
    refine g_iload d12_habitCost_97 rfl ?_
    refine g_lconstv (0) d12_habitCost_99 rfl ?_
    refine g_lastN (k) _ d12_habitCost_100 a_100 (rfl) (by omega) (by decide) t_100 ?_
    refine g_iincN d12_habitCost_101 rfl (by decide) ?_
    refine g_goto 85 d12_habitCost_104 rfl ?_
    refine g_lo [(0, .ref 74), (1, .int (nI (c))), (2, .int (nI (h))), (3, .long (lN v)), (5, .int (nI (fr))), (6, .int (nI (s))), (7, .int (nI (k + 1)))] ⟨rfl, rfl, rfl, rfl, rfl, rfl, rfl, trivial⟩ ?_
    refine ih (k + 1) _ (by omega) (fun q hq => (uL_n hq).trans (hL q hq)) (fun q hq => ?_)
    by_cases e : q = k
    · subst e; exact uL_ss
    · rw [uL_sn e]; exact hz q (by omega)
set_option maxHeartbeats 400000 in
theorem r12_hc3 {l : Launch} {K : cK} {d : Nat} {I : wI} {L : wL} {R : wR} {dy : cH} {Q : Option Value → cH → Prop} (c h fr s v : Nat)
    (kk : ∀ (L3 : wL), (∀ q, q ≠ 99 → L3 q = L q) → (∀ q, q < 169 → L3 99 q = L 100 q) → GL l K m12_habitCost d 0 0 338 [(0, .ref 74), (1, .int (nI (c))), (2, .int (nI (h))), (3, .long (lN v)), (5, .int (nI (fr))), (6, .int (nI (s)))] [] (hp I L3 R dy) Q) :
    ∀ (n k : Nat) (L2 : wL), k + n = 169 → (∀ q, q ≠ 99 → L2 q = L q) → (∀ q, q < k → L2 99 q = L 100 q) → GL l K m12_habitCost d 0 0 310 [(0, .ref 74), (1, .int (nI (c))), (2, .int (nI (h))), (3, .long (lN v)), (5, .int (nI (fr))), (6, .int (nI (s))), (7, .int (nI (k)))] [] (hp I L2 R dy) Q := by
  intro n
  induction n with
  | zero =>
    intro k L2 hin hL hz
    obtain rfl : k = 169 := by omega
    refine g_iload d12_habitCost_310 rfl ?_
    refine g_sipushv (nI 169) d12_habitCost_312 rfl ?_
    refine g_ic_ge ((169 : Nat) : Int) (169) 338 (nI_ti (by omega)) (by decide) d12_habitCost_315 rfl (fun _ => ?_) (fun c315 => absurd c315 (by decide))
    refine g_lo [(0, .ref 74), (1, .int (nI (c))), (2, .int (nI (h))), (3, .long (lN v)), (5, .int (nI (fr))), (6, .int (nI (s)))] ⟨rfl, rfl, rfl, rfl, rfl, rfl, trivial⟩ ?_
    exact kk L2 hL hz
  | succ n ih =>
    intro k L2 hin hL hz
    refine g_iload d12_habitCost_310 rfl ?_
    refine g_sipushv (nI 169) d12_habitCost_312 rfl ?_
    refine g_ic_ge ((k : Nat) : Int) (169) 338 (nI_ti (by omega)) (by decide) d12_habitCost_315 rfl (fun c315 => absurd c315 (by omega)) (fun _ => ?_)
    refine g_aload_n d12_habitCost_318 rfl ?_
    refine g_get fl12_110 d12_habitCost_319 f_74_49 ?_
    refine g_iload d12_habitCost_322 rfl ?_
    refine g_aload_n d12_habitCost_324 rfl ?_
    refine g_get fl12_113 d12_habitCost_325 f_74_50 ?_
    refine g_iload d12_habitCost_328 rfl ?_
    refine g_laldN (k) d12_habitCost_330 a_100 (rfl) (by omega) (by decide) ?_
    refine g_topL (L 100 k) (congrFun (hL 100 (by decide)) k) ?_
    refine g_lastN (k) _ d12_habitCost_331 a_99 (rfl) (by omega) (by decide) t_99 ?_
    refine g_iincN d12_habitCost_332 rfl (by decide) ?_
    refine g_goto 310 d12_habitCost_335 rfl ?_
    refine g_lo [(0, .ref 74), (1, .int (nI (c))), (2, .int (nI (h))), (3, .long (lN v)), (5, .int (nI (fr))), (6, .int (nI (s))), (7, .int (nI (k + 1)))] ⟨rfl, rfl, rfl, rfl, rfl, rfl, rfl, trivial⟩ ?_
    refine ih (k + 1) _ (by omega) (fun q hq => (uL_n hq).trans (hL q hq)) (fun q hq => ?_)
    by_cases e : q = k
    · subst e; exact uL_ss
    · rw [uL_sn e]; exact hz q (by omega)
set_option maxHeartbeats 1600000 in
theorem r12_hc2 {l : Launch} {K : cK} {d : Nat} {I : wI} {L : wL} {R : wR} {dy : cH} {Q : Option Value → cH → Prop} (h : Nat) (F : hbF) (hB : HB (I 76) h F) (coin per c fr ti se fl : Nat) (hC : CF I c fr ti se fl) (hco : I 76 6 = nI coin) (hc9 : coin ≤ 9) (hpe : I 76 7 = nI per) (hp4 : per ≤ 4) (ho : I 74 15 = 0) (cm fn : Nat → Nat → Nat) (hcm : ∀ s k, cm s k ≤ 10) (hfn : ∀ s k, fn s k ≤ 99) (hcs : ∀ s, fr ≤ s → s < ti + 1 → ∀ k, 1 ≤ k → k ≤ 12 → I 90 (13 * s + k) = nI (cm s k) ∧ I 92 (13 * s + k) = nI (fn s k)) (s v : Nat) (hs1 : fr ≤ s) (hs2 : s ≤ ti) (S : Nat → Nat) (hSl : ∀ k, 1 ≤ k → k ≤ 168 → S k ≤ 1000000000000) (M : wL) (hS : ∀ k, k ≤ 168 → M 99 k = lN (S k)) (hd : 5 ≤ d)
    (kk : ∀ (I3 : wI) (L3 : wL), FR [] [28, 32] [88, 89, 99, 100] [33, 34] I L I3 L3 → (∀ q, q ≤ 168 → L3 100 q = lN (hxs per cm (thr F coin per fr ti se) S s 156 q)) → GL l K m12_habitCost d 0 0 307 [(0, .ref 74), (1, .int (nI (c))), (2, .int (nI (h))), (5, .int (nI (fr))), (6, .int (nI (s))), (3, .long (lN (v + hvs coin per fr fl cm fn (thr F coin per fr ti se) S s 156)))] [] (hp I3 L3 R dy) Q) :
    ∀ (n j : Nat) (I2 : wI) (L2 : wL), j + n = 156 → j ≤ 156 → FR [] [28, 32] [88, 89, 99, 100] [33, 34] I L I2 L2 → L2 99 = M 99 → (∀ q, q ≤ 168 → L2 100 q = lN (hxs per cm (thr F coin per fr ti se) S s j q)) → GL l K m12_habitCost d 0 0 111 [(0, .ref 74), (1, .int (nI (c))), (2, .int (nI (h))), (5, .int (nI (fr))), (6, .int (nI (s))), (3, .long (lN (v + hvs coin per fr fl cm fn (thr F coin per fr ti se) S s j))), (7, .int (nI (13 + j)))] [] (hp I2 L2 R dy) Q := by
  obtain ⟨hc6, q0, q1, q2, q3, hft, ht11, hse, hfl⟩ := id hC
  intro n
  induction n with
  | zero =>
    intro j I2 L2 hin hj hF hM hz
    obtain rfl : j = 156 := by omega
    refine g_iload d12_habitCost_111 rfl ?_
    refine g_sipushv (nI 169) d12_habitCost_113 rfl ?_
    refine g_ic_ge (((13 + 156) : Nat) : Int) (169) 307 (nI_ti (by omega)) (by decide) d12_habitCost_116 rfl (fun _ => ?_) (fun c116 => absurd c116 (by decide))
    refine g_lo [(0, .ref 74), (1, .int (nI (c))), (2, .int (nI (h))), (5, .int (nI (fr))), (6, .int (nI (s))), (3, .long (lN (v + hvs coin per fr fl cm fn (thr F coin per fr ti se) S s 156)))] ⟨rfl, rfl, rfl, rfl, rfl, rfl, trivial⟩ ?_
    exact kk I2 L2 hF hz
  | succ n ih =>
    intro j I2 L2 hin hj hF hM hz
    have hSk := hSl (13 + j) (by omega) (by omega)
    have hc10 := hcm s ((13 + j) / 13)
    have ho2 : I2 74 15 = 0 := (hF.2.1 15 (by decide)).trans ho
    have hth := thr_le F coin per fr ti se s ((13 + j) / 13) ((13 + j) % 13)
    have hpr := prc_le (fr := fr) (s := s) hc9 hfl hth
    have hpb := hpd_le per (thr F coin per fr ti se) s (13 + j)
    have hlat : lat ((13 + j) / 13) ≤ 12 ∧ 2 ≤ lat ((13 + j) / 13) := by unfold lat; split <;> omega
    have hles : les (hpd per (thr F coin per fr ti se) s (13 + j)) ≤ 12 := by unfold les; omega
    have hfn9 := hfn s ((13 + j) / 13)
    by_cases h0 : S (13 + j) = 0
    · skip
      refine g_iload d12_habitCost_111 rfl ?_
      refine g_sipushv (nI 169) d12_habitCost_113 rfl ?_
      refine g_ic_ge (((13 + j) : Nat) : Int) (169) 307 (nI_ti (by omega)) (by decide) d12_habitCost_116 rfl (fun c116 => absurd c116 (by omega)) (fun _ => ?_)
      refine g_aload_n d12_habitCost_119 rfl ?_
      refine g_get fl12_110 d12_habitCost_120 f_74_49 ?_
      refine g_iload d12_habitCost_123 rfl ?_
      refine g_laldN ((13 + j)) d12_habitCost_125 a_99 (rfl) (by omega) (by decide) ?_
      refine g_topL (lN (S (13 + j))) ((congrFun hM _).trans (hS _ (by omega))) ?_
      refine g_lconstv (0) d12_habitCost_126 rfl ?_
      refine g_lx_le ((S (13 + j) : Nat) : Int) (0) 301 (pk_lT (by omega)) (by decide) d12_habitCost_127 d12_habitCost_128 rfl (fun _ => ?_) (fun c127 => absurd c127 (by omega))
      refine g_iincN d12_habitCost_301 rfl (by decide) ?_
      refine g_goto 111 d12_habitCost_304 rfl ?_
      refine g_lo [(0, .ref 74), (1, .int (nI (c))), (2, .int (nI (h))), (5, .int (nI (fr))), (6, .int (nI (s))), (3, .long (lN (v + hvs coin per fr fl cm fn (thr F coin per fr ti se) S s (j + 1)))), (7, .int (nI (13 + (j + 1))))] ⟨rfl, rfl, rfl, rfl, rfl, ?_, rfl, trivial⟩ ?_
      · show some (Value.long (lN (v + hvs coin per fr fl cm fn (thr F coin per fr ti se) S s j))) = some (Value.long (lN (v + (hvs coin per fr fl cm fn (thr F coin per fr ti se) S s j + (S (13 + j) * prc coin fr fl s ((thr F coin per fr ti se) s ((13 + j) / 13) ((13 + j) % 13)) + (if 0 < (hpd per (thr F coin per fr ti se) s (13 + j)) then 0 else S (13 + j) / 10 * cm s ((13 + j) / 13) * fn s ((13 + j) / 13)))))))
        rw [h0, Nat.zero_mul, Nat.zero_div, Nat.zero_mul, Nat.zero_mul]; split <;> rfl
      refine ih (j + 1) I2 L2 (by omega) (by omega) hF hM (fun q hq => ?_)
      show _ = lN (hxs per cm (thr F coin per fr ti se) S s j q + (if q = (13 + les (hpd per (thr F coin per fr ti se) s (13 + j))) then (S (13 + j) / 10 * cm s ((13 + j) / 13)) else 0) + (if q = (13 * lat ((13 + j) / 13) + les (hpd per (thr F coin per fr ti se) s (13 + j))) then (S (13 + j) / 10 * (10 - cm s ((13 + j) / 13))) else 0))
      rw [h0, Nat.zero_div, Nat.zero_mul, Nat.zero_mul]
      rw [hz q hq]; congr 1; split <;> split <;> omega
    · by_cases hp0 : 0 < (hpd per (thr F coin per fr ti se) s (13 + j))
      · skip
        refine g_iload d12_habitCost_111 rfl ?_
        refine g_sipushv (nI 169) d12_habitCost_113 rfl ?_
        refine g_ic_ge (((13 + j) : Nat) : Int) (169) 307 (nI_ti (by omega)) (by decide) d12_habitCost_116 rfl (fun c116 => absurd c116 (by omega)) (fun _ => ?_)
        refine g_aload_n d12_habitCost_119 rfl ?_
        refine g_get fl12_110 d12_habitCost_120 f_74_49 ?_
        refine g_iload d12_habitCost_123 rfl ?_
        refine g_laldN ((13 + j)) d12_habitCost_125 a_99 (rfl) (by omega) (by decide) ?_
        refine g_topL (lN (S (13 + j))) ((congrFun hM _).trans (hS _ (by omega))) ?_
        refine g_lconstv (0) d12_habitCost_126 rfl ?_
        refine g_lx_le ((S (13 + j) : Nat) : Int) (0) 301 (pk_lT (by omega)) (by decide) d12_habitCost_127 d12_habitCost_128 rfl (fun c127 => absurd c127 (by omega)) (fun _ => ?_)
        refine g_iload d12_habitCost_131 rfl ?_
        refine g_bipushv (nI 13) d12_habitCost_133 rfl ?_
        refine g_idiv d12_habitCost_135 (by decide) ?_
        refine g_topI (nI ((13 + j) / 13)) (pk_div (d := 13) (by omega) (by omega) (by omega)) ?_
        refine g_istore d12_habitCost_136 (by decide) ?_
        refine g_aload_n d12_habitCost_138 rfl ?_
        refine g_iload_n d12_habitCost_139 rfl ?_
        refine g_iload_n d12_habitCost_140 rfl ?_
        refine g_iload d12_habitCost_141 rfl ?_
        refine g_iload d12_habitCost_143 rfl ?_
        refine g_iload d12_habitCost_145 rfl ?_
        refine g_bipushv (nI 13) d12_habitCost_147 rfl ?_
        refine g_irem d12_habitCost_149 (by decide) ?_
        refine g_topI (nI ((13 + j) % 13)) (pk_rem (d := 13) (by omega) (by omega) (by omega)) ?_
        refine g_XV5 vm12_thrownBy ml12_480 c_74 (r12_thrownBy (I := I2) (L := L2) h F (by unfold HB; rw [(hF.1 76 (by decide) (by decide))]; exact hB) coin per c fr ti se fl (hC.of (hF.1 76 (by decide) (by decide))) (by rw [(hF.1 76 (by decide) (by decide))]; exact hco) hc9 (by rw [(hF.1 76 (by decide) (by decide))]; exact hpe) hp4 ho2 s ((13 + j) / 13) ((13 + j) % 13) hs1 (by omega) (by omega) (by omega) (Nat.le_refl 4)) (by omega) (Nat.le_of_ble_eq_true rfl) d12_habitCost_150 (fun x hx => ?_)
        obtain ⟨I4, L4⟩ := x
        dsimp only at hx ⊢
        have hF4 : FR [] [28, 32] [88, 89, 99, 100] [33, 34] I L I4 L4 := hF.tr (hx.up (by decide) (by decide) (by decide) (by decide))
        have f76 : I4 76 = I 76 := hF4.1 76 (by decide) (by decide)
        have f90 : I4 90 = I 90 := hF4.1 90 (by decide) (by decide)
        have f92 : I4 92 = I 92 := hF4.1 92 (by decide) (by decide)
        have f99 : L4 99 = M 99 := (hx.2.2.1 99 (by decide) (by decide)).trans hM
        have f100 : L4 100 = L2 100 := hx.2.2.1 100 (by decide) (by decide)
        refine g_istore d12_habitCost_153 (by decide) ?_
        refine g_aload_n d12_habitCost_155 rfl ?_
        refine g_iload d12_habitCost_156 rfl ?_
        refine g_bipushv (nI 13) d12_habitCost_158 rfl ?_
        refine g_irem d12_habitCost_160 (by decide) ?_
        refine g_topI (nI ((13 + j) % 13)) (pk_rem (d := 13) (by omega) (by omega) (by omega)) ?_
        refine g_iload d12_habitCost_161 rfl ?_
        refine g_EV2 vm12_paidBy ml12_424 c_74 (r12_paidBy per ((13 + j) % 13) ((thr F coin per fr ti se) s ((13 + j) / 13) ((13 + j) % 13)) (by rw [f76]; exact hpe) hp4 (by omega) (thr_le _ _ _ _ _ _ _ _ _) (Nat.le_refl 1)) (by omega) (Nat.le_of_ble_eq_true rfl) d12_habitCost_163 ?_
        refine g_topI (nI ((hpd per (thr F coin per fr ti se) s (13 + j)))) (rfl) ?_
        refine g_istore d12_habitCost_166 (by decide) ?_
        refine g_aload_n d12_habitCost_168 rfl ?_
        refine g_get fl12_83 d12_habitCost_169 f_74_37 ?_
        refine g_bipushv (nI 13) d12_habitCost_172 rfl ?_
        refine g_iload d12_habitCost_174 rfl ?_
        refine g_imulN d12_habitCost_176 ?_
        refine g_iload d12_habitCost_177 rfl ?_
        refine g_iaddN d12_habitCost_179 ?_
        refine g_ialdN (((13 * s) + ((13 + j) / 13))) d12_habitCost_180 a_90 (rfl) (by omega) (by decide) ?_
        refine g_topI (nI (cm s ((13 + j) / 13))) ((congrFun f90 _).trans (hcs s hs1 (by omega) _ (by omega) (by omega)).1) ?_
        refine g_istore d12_habitCost_181 (by decide) ?_
        refine g_aload_n d12_habitCost_183 rfl ?_
        refine g_get fl12_110 d12_habitCost_184 f_74_49 ?_
        refine g_iload d12_habitCost_187 rfl ?_
        refine g_laldN ((13 + j)) d12_habitCost_189 a_99 (rfl) (by omega) (by decide) ?_
        refine g_topL (lN (S (13 + j))) ((congrFun f99 _).trans (hS _ (by omega))) ?_
        refine g_ldc2 d12_habitCost_190 kl12_223 ?_
        refine g_ldiv d12_habitCost_193 (by decide) ?_
        refine g_topL (lN (S (13 + j) / 10)) (pk_lDiv (b := 10) (by omega) (by omega) (by omega)) ?_
        refine g_lstore d12_habitCost_194 (by decide) ?_
        refine g_lload_n d12_habitCost_196 rfl ?_
        refine g_aload_n d12_habitCost_197 rfl ?_
        refine g_get fl12_110 d12_habitCost_198 f_74_49 ?_
        refine g_iload d12_habitCost_201 rfl ?_
        refine g_laldN ((13 + j)) d12_habitCost_203 a_99 (rfl) (by omega) (by decide) ?_
        refine g_topL (lN (S (13 + j))) ((congrFun f99 _).trans (hS _ (by omega))) ?_
        refine g_aload_n d12_habitCost_204 rfl ?_
        refine g_iload_n d12_habitCost_205 rfl ?_
        refine g_iload d12_habitCost_206 rfl ?_
        refine g_iload d12_habitCost_208 rfl ?_
        refine g_EV3 vm12_price ml12_454 c_74 (r12_price coin c fr ti se fl s ((thr F coin per fr ti se) s ((13 + j) / 13) ((13 + j) % 13)) (hC.of f76) (by rw [f76]; exact hco) hc9 (by omega) (thr_le _ _ _ _ _ _ _ _ _) (Nat.le_refl 1)) (by omega) (Nat.le_of_ble_eq_true rfl) d12_habitCost_210 ?_
        refine g_i2lN (by omega) d12_habitCost_213 ?_
        refine g_lmul d12_habitCost_214 ?_
        refine g_topL (lN (S (13 + j) * (prc coin fr fl s ((thr F coin per fr ti se) s ((13 + j) / 13) ((13 + j) % 13))))) (lN_mul _ _) ?_
        refine g_iload d12_habitCost_215 rfl ?_
        refine g_iz_le (((hpd per (thr F coin per fr ti se) s (13 + j)) : Nat) : Int) 224 (nI_ti (by omega)) d12_habitCost_217 rfl (fun c217 => absurd c217 (by omega)) (fun _ => ?_)
        refine g_lconstv (0) d12_habitCost_220 rfl ?_
        refine g_goto 245 d12_habitCost_221 rfl ?_
        refine g_ladd d12_habitCost_245 ?_
        refine g_topL (lN ((S (13 + j) * (prc coin fr fl s ((thr F coin per fr ti se) s ((13 + j) / 13) ((13 + j) % 13)))) + 0)) (lN_add _ _) ?_
        refine g_ladd d12_habitCost_246 ?_
        refine g_topL (lN ((v + hvs coin per fr fl cm fn (thr F coin per fr ti se) S s j) + ((S (13 + j) * (prc coin fr fl s ((thr F coin per fr ti se) s ((13 + j) / 13) ((13 + j) % 13)))) + 0))) (lN_add _ _) ?_
        refine g_lstore_n d12_habitCost_247 (by decide) ?_
        refine g_aload_n d12_habitCost_248 rfl ?_
        refine g_get fl12_113 d12_habitCost_249 f_74_50 ?_
        refine g_bipushv (nI 13) d12_habitCost_252 rfl ?_
        refine g_iload d12_habitCost_254 rfl ?_
        refine g_ES1 sm12_less ml12_427 (r12_less ((hpd per (thr F coin per fr ti se) s (13 + j))) (by omega) (Nat.le_refl 0)) (by omega) (Nat.le_of_ble_eq_true rfl) d12_habitCost_256 ?_
        refine g_iaddN d12_habitCost_259 ?_
        refine g_dup2 d12_habitCost_260 rfl rfl ?_
        refine g_laldN ((13 + (les ((hpd per (thr F coin per fr ti se) s (13 + j)))))) d12_habitCost_261 a_100 (rfl) (by omega) (by decide) ?_
        refine g_topL (lN (hxs per cm (thr F coin per fr ti se) S s j (13 + les (hpd per (thr F coin per fr ti se) s (13 + j))))) ((congrFun f100 _).trans (hz _ (by omega))) ?_
        refine g_lload d12_habitCost_262 rfl ?_
        refine g_iload d12_habitCost_264 rfl ?_
        refine g_i2lN (by omega) d12_habitCost_266 ?_
        refine g_lmul d12_habitCost_267 ?_
        refine g_topL (lN ((S (13 + j) / 10) * cm s ((13 + j) / 13))) (lN_mul _ _) ?_
        refine g_ladd d12_habitCost_268 ?_
        refine g_topL (lN (hxs per cm (thr F coin per fr ti se) S s j (13 + les (hpd per (thr F coin per fr ti se) s (13 + j))) + ((S (13 + j) / 10) * cm s ((13 + j) / 13)))) (lN_add _ _) ?_
        refine g_lastN ((13 + (les ((hpd per (thr F coin per fr ti se) s (13 + j)))))) _ d12_habitCost_269 a_100 (rfl) (by omega) (by decide) t_100 ?_
        refine g_aload_n d12_habitCost_270 rfl ?_
        refine g_get fl12_113 d12_habitCost_271 f_74_50 ?_
        refine g_bipushv (nI 13) d12_habitCost_274 rfl ?_
        refine g_iload d12_habitCost_276 rfl ?_
        refine g_ES1 sm12_later ml12_418 (r12_later (((13 + j) / 13)) (by omega) (Nat.le_refl 0)) (by omega) (Nat.le_of_ble_eq_true rfl) d12_habitCost_278 ?_
        refine g_imulN d12_habitCost_281 ?_
        refine g_iload d12_habitCost_282 rfl ?_
        refine g_ES1 sm12_less ml12_427 (r12_less ((hpd per (thr F coin per fr ti se) s (13 + j))) (by omega) (Nat.le_refl 0)) (by omega) (Nat.le_of_ble_eq_true rfl) d12_habitCost_284 ?_
        refine g_iaddN d12_habitCost_287 ?_
        refine g_dup2 d12_habitCost_288 rfl rfl ?_
        refine g_laldN (((13 * (lat (((13 + j) / 13)))) + (les ((hpd per (thr F coin per fr ti se) s (13 + j)))))) d12_habitCost_289 a_100 (rfl) (by omega) (by decide) ?_
        refine g_topL (lN (hxs per cm (thr F coin per fr ti se) S s j (13 * lat ((13 + j) / 13) + les (hpd per (thr F coin per fr ti se) s (13 + j))) + (if (13 * lat ((13 + j) / 13) + les (hpd per (thr F coin per fr ti se) s (13 + j))) = (13 + les (hpd per (thr F coin per fr ti se) s (13 + j))) then (S (13 + j) / 10 * cm s ((13 + j) / 13)) else 0))) (by
  by_cases e : (13 * lat ((13 + j) / 13) + les (hpd per (thr F coin per fr ti se) s (13 + j))) = (13 + les (hpd per (thr F coin per fr ti se) s (13 + j)))
  · rw [if_pos e, e, uL_ss]
  · rw [if_neg e, uL_sn e, f100]; exact hz _ (by omega)) ?_
        refine g_lload d12_habitCost_290 rfl ?_
        refine g_bipushv (nI 10) d12_habitCost_292 rfl ?_
        refine g_iload d12_habitCost_294 rfl ?_
        refine g_isubN (hcm _ _) d12_habitCost_296 ?_
        refine g_i2lN (by omega) d12_habitCost_297 ?_
        refine g_lmul d12_habitCost_298 ?_
        refine g_topL (lN ((S (13 + j) / 10) * (10 - cm s ((13 + j) / 13)))) (lN_mul _ _) ?_
        refine g_ladd d12_habitCost_299 ?_
        refine g_topL (lN (hxs per cm (thr F coin per fr ti se) S s j (13 * lat ((13 + j) / 13) + les (hpd per (thr F coin per fr ti se) s (13 + j))) + (if (13 * lat ((13 + j) / 13) + les (hpd per (thr F coin per fr ti se) s (13 + j))) = (13 + les (hpd per (thr F coin per fr ti se) s (13 + j))) then (S (13 + j) / 10 * cm s ((13 + j) / 13)) else 0) + ((S (13 + j) / 10) * (10 - cm s ((13 + j) / 13))))) (lN_add _ _) ?_
        refine g_lastN (((13 * (lat (((13 + j) / 13)))) + (les ((hpd per (thr F coin per fr ti se) s (13 + j)))))) _ d12_habitCost_300 a_100 (rfl) (by omega) (by decide) t_100 ?_
        refine g_iincN d12_habitCost_301 rfl (by decide) ?_
        refine g_goto 111 d12_habitCost_304 rfl ?_
        refine g_lo [(0, .ref 74), (1, .int (nI (c))), (2, .int (nI (h))), (5, .int (nI (fr))), (6, .int (nI (s))), (3, .long (lN (v + hvs coin per fr fl cm fn (thr F coin per fr ti se) S s (j + 1)))), (7, .int (nI (13 + (j + 1))))] ⟨rfl, rfl, rfl, rfl, rfl, ?_, rfl, trivial⟩ ?_
        · show some (Value.long (lN _)) = some (Value.long (lN (v + (hvs coin per fr fl cm fn (thr F coin per fr ti se) S s j + (S (13 + j) * prc coin fr fl s ((thr F coin per fr ti se) s ((13 + j) / 13) ((13 + j) % 13)) + (if 0 < (hpd per (thr F coin per fr ti se) s (13 + j)) then 0 else S (13 + j) / 10 * cm s ((13 + j) / 13) * fn s ((13 + j) / 13)))))))
          rw [if_pos hp0]; congr 2; first | rfl | (congr 1; omega)
        refine ih (j + 1) _ _ (by omega) (by omega) ((hF4.ul (by decide) (by decide)).ul (by decide) (by decide)) (by rw [uL_n (by decide), uL_n (by decide)]; exact f99) (fun q hq => ?_)
        show _ = lN (hxs per cm (thr F coin per fr ti se) S s j q + (if q = (13 + les (hpd per (thr F coin per fr ti se) s (13 + j))) then (S (13 + j) / 10 * cm s ((13 + j) / 13)) else 0) + (if q = (13 * lat ((13 + j) / 13) + les (hpd per (thr F coin per fr ti se) s (13 + j))) then (S (13 + j) / 10 * (10 - cm s ((13 + j) / 13))) else 0))
        by_cases e2 : q = (13 * lat ((13 + j) / 13) + les (hpd per (thr F coin per fr ti se) s (13 + j)))
        · subst e2; rw [uL_ss, if_pos rfl]
        · rw [uL_sn e2, if_neg e2]
          by_cases e1 : q = (13 + les (hpd per (thr F coin per fr ti se) s (13 + j)))
          · subst e1; rw [uL_ss, if_pos rfl]; rfl
          · rw [uL_sn e1, if_neg e1, f100]; exact hz q hq
      · skip
        refine g_iload d12_habitCost_111 rfl ?_
        refine g_sipushv (nI 169) d12_habitCost_113 rfl ?_
        refine g_ic_ge (((13 + j) : Nat) : Int) (169) 307 (nI_ti (by omega)) (by decide) d12_habitCost_116 rfl (fun c116 => absurd c116 (by omega)) (fun _ => ?_)
        refine g_aload_n d12_habitCost_119 rfl ?_
        refine g_get fl12_110 d12_habitCost_120 f_74_49 ?_
        refine g_iload d12_habitCost_123 rfl ?_
        refine g_laldN ((13 + j)) d12_habitCost_125 a_99 (rfl) (by omega) (by decide) ?_
        refine g_topL (lN (S (13 + j))) ((congrFun hM _).trans (hS _ (by omega))) ?_
        refine g_lconstv (0) d12_habitCost_126 rfl ?_
        refine g_lx_le ((S (13 + j) : Nat) : Int) (0) 301 (pk_lT (by omega)) (by decide) d12_habitCost_127 d12_habitCost_128 rfl (fun c127 => absurd c127 (by omega)) (fun _ => ?_)
        refine g_iload d12_habitCost_131 rfl ?_
        refine g_bipushv (nI 13) d12_habitCost_133 rfl ?_
        refine g_idiv d12_habitCost_135 (by decide) ?_
        refine g_topI (nI ((13 + j) / 13)) (pk_div (d := 13) (by omega) (by omega) (by omega)) ?_
        refine g_istore d12_habitCost_136 (by decide) ?_
        refine g_aload_n d12_habitCost_138 rfl ?_
        refine g_iload_n d12_habitCost_139 rfl ?_
        refine g_iload_n d12_habitCost_140 rfl ?_
        refine g_iload d12_habitCost_141 rfl ?_
        refine g_iload d12_habitCost_143 rfl ?_
        refine g_iload d12_habitCost_145 rfl ?_
        refine g_bipushv (nI 13) d12_habitCost_147 rfl ?_
        refine g_irem d12_habitCost_149 (by decide) ?_
        refine g_topI (nI ((13 + j) % 13)) (pk_rem (d := 13) (by omega) (by omega) (by omega)) ?_
        refine g_XV5 vm12_thrownBy ml12_480 c_74 (r12_thrownBy (I := I2) (L := L2) h F (by unfold HB; rw [(hF.1 76 (by decide) (by decide))]; exact hB) coin per c fr ti se fl (hC.of (hF.1 76 (by decide) (by decide))) (by rw [(hF.1 76 (by decide) (by decide))]; exact hco) hc9 (by rw [(hF.1 76 (by decide) (by decide))]; exact hpe) hp4 ho2 s ((13 + j) / 13) ((13 + j) % 13) hs1 (by omega) (by omega) (by omega) (Nat.le_refl 4)) (by omega) (Nat.le_of_ble_eq_true rfl) d12_habitCost_150 (fun x hx => ?_)
        obtain ⟨I4, L4⟩ := x
        dsimp only at hx ⊢
        have hF4 : FR [] [28, 32] [88, 89, 99, 100] [33, 34] I L I4 L4 := hF.tr (hx.up (by decide) (by decide) (by decide) (by decide))
        have f76 : I4 76 = I 76 := hF4.1 76 (by decide) (by decide)
        have f90 : I4 90 = I 90 := hF4.1 90 (by decide) (by decide)
        have f92 : I4 92 = I 92 := hF4.1 92 (by decide) (by decide)
        have f99 : L4 99 = M 99 := (hx.2.2.1 99 (by decide) (by decide)).trans hM
        have f100 : L4 100 = L2 100 := hx.2.2.1 100 (by decide) (by decide)
        refine g_istore d12_habitCost_153 (by decide) ?_
        refine g_aload_n d12_habitCost_155 rfl ?_
        refine g_iload d12_habitCost_156 rfl ?_
        refine g_bipushv (nI 13) d12_habitCost_158 rfl ?_
        refine g_irem d12_habitCost_160 (by decide) ?_
        refine g_topI (nI ((13 + j) % 13)) (pk_rem (d := 13) (by omega) (by omega) (by omega)) ?_
        refine g_iload d12_habitCost_161 rfl ?_
        refine g_EV2 vm12_paidBy ml12_424 c_74 (r12_paidBy per ((13 + j) % 13) ((thr F coin per fr ti se) s ((13 + j) / 13) ((13 + j) % 13)) (by rw [f76]; exact hpe) hp4 (by omega) (thr_le _ _ _ _ _ _ _ _ _) (Nat.le_refl 1)) (by omega) (Nat.le_of_ble_eq_true rfl) d12_habitCost_163 ?_
        refine g_topI (nI ((hpd per (thr F coin per fr ti se) s (13 + j)))) (rfl) ?_
        refine g_istore d12_habitCost_166 (by decide) ?_
        refine g_aload_n d12_habitCost_168 rfl ?_
        refine g_get fl12_83 d12_habitCost_169 f_74_37 ?_
        refine g_bipushv (nI 13) d12_habitCost_172 rfl ?_
        refine g_iload d12_habitCost_174 rfl ?_
        refine g_imulN d12_habitCost_176 ?_
        refine g_iload d12_habitCost_177 rfl ?_
        refine g_iaddN d12_habitCost_179 ?_
        refine g_ialdN (((13 * s) + ((13 + j) / 13))) d12_habitCost_180 a_90 (rfl) (by omega) (by decide) ?_
        refine g_topI (nI (cm s ((13 + j) / 13))) ((congrFun f90 _).trans (hcs s hs1 (by omega) _ (by omega) (by omega)).1) ?_
        refine g_istore d12_habitCost_181 (by decide) ?_
        refine g_aload_n d12_habitCost_183 rfl ?_
        refine g_get fl12_110 d12_habitCost_184 f_74_49 ?_
        refine g_iload d12_habitCost_187 rfl ?_
        refine g_laldN ((13 + j)) d12_habitCost_189 a_99 (rfl) (by omega) (by decide) ?_
        refine g_topL (lN (S (13 + j))) ((congrFun f99 _).trans (hS _ (by omega))) ?_
        refine g_ldc2 d12_habitCost_190 kl12_223 ?_
        refine g_ldiv d12_habitCost_193 (by decide) ?_
        refine g_topL (lN (S (13 + j) / 10)) (pk_lDiv (b := 10) (by omega) (by omega) (by omega)) ?_
        refine g_lstore d12_habitCost_194 (by decide) ?_
        refine g_lload_n d12_habitCost_196 rfl ?_
        refine g_aload_n d12_habitCost_197 rfl ?_
        refine g_get fl12_110 d12_habitCost_198 f_74_49 ?_
        refine g_iload d12_habitCost_201 rfl ?_
        refine g_laldN ((13 + j)) d12_habitCost_203 a_99 (rfl) (by omega) (by decide) ?_
        refine g_topL (lN (S (13 + j))) ((congrFun f99 _).trans (hS _ (by omega))) ?_
        refine g_aload_n d12_habitCost_204 rfl ?_
        refine g_iload_n d12_habitCost_205 rfl ?_
        refine g_iload d12_habitCost_206 rfl ?_
        refine g_iload d12_habitCost_208 rfl ?_
        refine g_EV3 vm12_price ml12_454 c_74 (r12_price coin c fr ti se fl s ((thr F coin per fr ti se) s ((13 + j) / 13) ((13 + j) % 13)) (hC.of f76) (by rw [f76]; exact hco) hc9 (by omega) (thr_le _ _ _ _ _ _ _ _ _) (Nat.le_refl 1)) (by omega) (Nat.le_of_ble_eq_true rfl) d12_habitCost_210 ?_
        refine g_i2lN (by omega) d12_habitCost_213 ?_
        refine g_lmul d12_habitCost_214 ?_
        refine g_topL (lN (S (13 + j) * (prc coin fr fl s ((thr F coin per fr ti se) s ((13 + j) / 13) ((13 + j) % 13))))) (lN_mul _ _) ?_
        refine g_iload d12_habitCost_215 rfl ?_
        refine g_iz_le (((hpd per (thr F coin per fr ti se) s (13 + j)) : Nat) : Int) 224 (nI_ti (by omega)) d12_habitCost_217 rfl (fun _ => ?_) (fun c217 => absurd c217 (by omega))
        refine g_lload d12_habitCost_224 rfl ?_
        refine g_iload d12_habitCost_226 rfl ?_
        refine g_i2lN (by omega) d12_habitCost_228 ?_
        refine g_lmul d12_habitCost_229 ?_
        refine g_topL (lN ((S (13 + j) / 10) * cm s ((13 + j) / 13))) (lN_mul _ _) ?_
        refine g_aload_n d12_habitCost_230 rfl ?_
        refine g_get fl12_89 d12_habitCost_231 f_74_39 ?_
        refine g_bipushv (nI 13) d12_habitCost_234 rfl ?_
        refine g_iload d12_habitCost_236 rfl ?_
        refine g_imulN d12_habitCost_238 ?_
        refine g_iload d12_habitCost_239 rfl ?_
        refine g_iaddN d12_habitCost_241 ?_
        refine g_ialdN (((13 * s) + ((13 + j) / 13))) d12_habitCost_242 a_92 (rfl) (by omega) (by decide) ?_
        refine g_topI (nI (fn s ((13 + j) / 13))) ((congrFun f92 _).trans (hcs s hs1 (by omega) _ (by omega) (by omega)).2) ?_
        refine g_i2lN (by omega) d12_habitCost_243 ?_
        refine g_lmul d12_habitCost_244 ?_
        refine g_topL (lN (((S (13 + j) / 10) * cm s ((13 + j) / 13)) * fn s ((13 + j) / 13))) (lN_mul _ _) ?_
        refine g_ladd d12_habitCost_245 ?_
        refine g_topL (lN ((S (13 + j) * (prc coin fr fl s ((thr F coin per fr ti se) s ((13 + j) / 13) ((13 + j) % 13)))) + (((S (13 + j) / 10) * cm s ((13 + j) / 13)) * fn s ((13 + j) / 13)))) (lN_add _ _) ?_
        refine g_ladd d12_habitCost_246 ?_
        refine g_topL (lN ((v + hvs coin per fr fl cm fn (thr F coin per fr ti se) S s j) + ((S (13 + j) * (prc coin fr fl s ((thr F coin per fr ti se) s ((13 + j) / 13) ((13 + j) % 13)))) + (((S (13 + j) / 10) * cm s ((13 + j) / 13)) * fn s ((13 + j) / 13))))) (lN_add _ _) ?_
        refine g_lstore_n d12_habitCost_247 (by decide) ?_
        refine g_aload_n d12_habitCost_248 rfl ?_
        refine g_get fl12_113 d12_habitCost_249 f_74_50 ?_
        refine g_bipushv (nI 13) d12_habitCost_252 rfl ?_
        refine g_iload d12_habitCost_254 rfl ?_
        refine g_ES1 sm12_less ml12_427 (r12_less ((hpd per (thr F coin per fr ti se) s (13 + j))) (by omega) (Nat.le_refl 0)) (by omega) (Nat.le_of_ble_eq_true rfl) d12_habitCost_256 ?_
        refine g_iaddN d12_habitCost_259 ?_
        refine g_dup2 d12_habitCost_260 rfl rfl ?_
        refine g_laldN ((13 + (les ((hpd per (thr F coin per fr ti se) s (13 + j)))))) d12_habitCost_261 a_100 (rfl) (by omega) (by decide) ?_
        refine g_topL (lN (hxs per cm (thr F coin per fr ti se) S s j (13 + les (hpd per (thr F coin per fr ti se) s (13 + j))))) ((congrFun f100 _).trans (hz _ (by omega))) ?_
        refine g_lload d12_habitCost_262 rfl ?_
        refine g_iload d12_habitCost_264 rfl ?_
        refine g_i2lN (by omega) d12_habitCost_266 ?_
        refine g_lmul d12_habitCost_267 ?_
        refine g_topL (lN ((S (13 + j) / 10) * cm s ((13 + j) / 13))) (lN_mul _ _) ?_
        refine g_ladd d12_habitCost_268 ?_
        refine g_topL (lN (hxs per cm (thr F coin per fr ti se) S s j (13 + les (hpd per (thr F coin per fr ti se) s (13 + j))) + ((S (13 + j) / 10) * cm s ((13 + j) / 13)))) (lN_add _ _) ?_
        refine g_lastN ((13 + (les ((hpd per (thr F coin per fr ti se) s (13 + j)))))) _ d12_habitCost_269 a_100 (rfl) (by omega) (by decide) t_100 ?_
        refine g_aload_n d12_habitCost_270 rfl ?_
        refine g_get fl12_113 d12_habitCost_271 f_74_50 ?_
        refine g_bipushv (nI 13) d12_habitCost_274 rfl ?_
        refine g_iload d12_habitCost_276 rfl ?_
        refine g_ES1 sm12_later ml12_418 (r12_later (((13 + j) / 13)) (by omega) (Nat.le_refl 0)) (by omega) (Nat.le_of_ble_eq_true rfl) d12_habitCost_278 ?_
        refine g_imulN d12_habitCost_281 ?_
        refine g_iload d12_habitCost_282 rfl ?_
        refine g_ES1 sm12_less ml12_427 (r12_less ((hpd per (thr F coin per fr ti se) s (13 + j))) (by omega) (Nat.le_refl 0)) (by omega) (Nat.le_of_ble_eq_true rfl) d12_habitCost_284 ?_
        refine g_iaddN d12_habitCost_287 ?_
        refine g_dup2 d12_habitCost_288 rfl rfl ?_
        refine g_laldN (((13 * (lat (((13 + j) / 13)))) + (les ((hpd per (thr F coin per fr ti se) s (13 + j)))))) d12_habitCost_289 a_100 (rfl) (by omega) (by decide) ?_
        refine g_topL (lN (hxs per cm (thr F coin per fr ti se) S s j (13 * lat ((13 + j) / 13) + les (hpd per (thr F coin per fr ti se) s (13 + j))) + (if (13 * lat ((13 + j) / 13) + les (hpd per (thr F coin per fr ti se) s (13 + j))) = (13 + les (hpd per (thr F coin per fr ti se) s (13 + j))) then (S (13 + j) / 10 * cm s ((13 + j) / 13)) else 0))) (by
  by_cases e : (13 * lat ((13 + j) / 13) + les (hpd per (thr F coin per fr ti se) s (13 + j))) = (13 + les (hpd per (thr F coin per fr ti se) s (13 + j)))
  · rw [if_pos e, e, uL_ss]
  · rw [if_neg e, uL_sn e, f100]; exact hz _ (by omega)) ?_
        refine g_lload d12_habitCost_290 rfl ?_
        refine g_bipushv (nI 10) d12_habitCost_292 rfl ?_
        refine g_iload d12_habitCost_294 rfl ?_
        refine g_isubN (hcm _ _) d12_habitCost_296 ?_
        refine g_i2lN (by omega) d12_habitCost_297 ?_
        refine g_lmul d12_habitCost_298 ?_
        refine g_topL (lN ((S (13 + j) / 10) * (10 - cm s ((13 + j) / 13)))) (lN_mul _ _) ?_
        refine g_ladd d12_habitCost_299 ?_
        refine g_topL (lN (hxs per cm (thr F coin per fr ti se) S s j (13 * lat ((13 + j) / 13) + les (hpd per (thr F coin per fr ti se) s (13 + j))) + (if (13 * lat ((13 + j) / 13) + les (hpd per (thr F coin per fr ti se) s (13 + j))) = (13 + les (hpd per (thr F coin per fr ti se) s (13 + j))) then (S (13 + j) / 10 * cm s ((13 + j) / 13)) else 0) + ((S (13 + j) / 10) * (10 - cm s ((13 + j) / 13))))) (lN_add _ _) ?_
        refine g_lastN (((13 * (lat (((13 + j) / 13)))) + (les ((hpd per (thr F coin per fr ti se) s (13 + j)))))) _ d12_habitCost_300 a_100 (rfl) (by omega) (by decide) t_100 ?_
        refine g_iincN d12_habitCost_301 rfl (by decide) ?_
        refine g_goto 111 d12_habitCost_304 rfl ?_
        refine g_lo [(0, .ref 74), (1, .int (nI (c))), (2, .int (nI (h))), (5, .int (nI (fr))), (6, .int (nI (s))), (3, .long (lN (v + hvs coin per fr fl cm fn (thr F coin per fr ti se) S s (j + 1)))), (7, .int (nI (13 + (j + 1))))] ⟨rfl, rfl, rfl, rfl, rfl, ?_, rfl, trivial⟩ ?_
        · show some (Value.long (lN _)) = some (Value.long (lN (v + (hvs coin per fr fl cm fn (thr F coin per fr ti se) S s j + (S (13 + j) * prc coin fr fl s ((thr F coin per fr ti se) s ((13 + j) / 13) ((13 + j) % 13)) + (if 0 < (hpd per (thr F coin per fr ti se) s (13 + j)) then 0 else S (13 + j) / 10 * cm s ((13 + j) / 13) * fn s ((13 + j) / 13)))))))
          rw [if_neg hp0]; congr 2; first | rfl | (congr 1; omega)
        refine ih (j + 1) _ _ (by omega) (by omega) ((hF4.ul (by decide) (by decide)).ul (by decide) (by decide)) (by rw [uL_n (by decide), uL_n (by decide)]; exact f99) (fun q hq => ?_)
        show _ = lN (hxs per cm (thr F coin per fr ti se) S s j q + (if q = (13 + les (hpd per (thr F coin per fr ti se) s (13 + j))) then (S (13 + j) / 10 * cm s ((13 + j) / 13)) else 0) + (if q = (13 * lat ((13 + j) / 13) + les (hpd per (thr F coin per fr ti se) s (13 + j))) then (S (13 + j) / 10 * (10 - cm s ((13 + j) / 13))) else 0))
        by_cases e2 : q = (13 * lat ((13 + j) / 13) + les (hpd per (thr F coin per fr ti se) s (13 + j)))
        · subst e2; rw [uL_ss, if_pos rfl]
        · rw [uL_sn e2, if_neg e2]
          by_cases e1 : q = (13 + les (hpd per (thr F coin per fr ti se) s (13 + j)))
          · subst e1; rw [uL_ss, if_pos rfl]; rfl
          · rw [uL_sn e1, if_neg e1, f100]; exact hz q hq
set_option maxHeartbeats 400000 in
theorem r12_hc4 {l : Launch} {K : cK} {d : Nat} {I : wI} {L : wL} {R : wR} {dy : cH} {Q : Option Value → cH → Prop} (h : Nat) (F : hbF) (hB : HB (I 76) h F) (coin per c fr ti se fl : Nat) (hC : CF I c fr ti se fl) (hco : I 76 6 = nI coin) (hc9 : coin ≤ 9) (hpe : I 76 7 = nI per) (hp4 : per ≤ 4) (ho : I 74 15 = 0) (cm fn : Nat → Nat → Nat) (hcm : ∀ s k, cm s k ≤ 10) (hfn : ∀ s k, fn s k ≤ 99) (hcs : ∀ s, fr ≤ s → s < ti + 1 → ∀ k, 1 ≤ k → k ≤ 12 → I 90 (13 * s + k) = nI (cm s k) ∧ I 92 (13 * s + k) = nI (fn s k)) (P : Nat → Nat) (hPs : sm P 12 ≤ 1000000000000) (hd : 5 ≤ d)
    (kk : ∀ (I3 : wI) (L3 : wL), (fr ≤ (ti + 1)) → (FR [] [28, 32] [88, 89, 99, 100] [33, 34] I L I3 L3) → (∀ q, q ≤ 168 → L3 99 q = lN (hS per fr cm (thr F coin per fr ti se) P ((ti + 1) - fr) q)) → GL l K m12_habitCost d 0 0 344 [(0, .ref 74), (1, .int (nI (c))), (2, .int (nI (h))), (5, .int (nI (fr))), (3, .long (lN (hV coin per fr fl cm fn (thr F coin per fr ti se) P ((ti + 1) - fr))))] [] (hp I3 L3 R dy) Q) :
    ∀ (n s : Nat) (I2 : wI) (L2 : wL), s + n = (ti + 1) → (fr ≤ s) → (FR [] [28, 32] [88, 89, 99, 100] [33, 34] I L I2 L2) → (∀ q, q ≤ 168 → L2 99 q = lN (hS per fr cm (thr F coin per fr ti se) P (s - fr) q)) → GL l K m12_habitCost d 0 0 71 [(0, .ref 74), (1, .int (nI (c))), (2, .int (nI (h))), (5, .int (nI (fr))), (3, .long (lN (hV coin per fr fl cm fn (thr F coin per fr ti se) P (s - fr)))), (6, .int (nI (s)))] [] (hp I2 L2 R dy) Q := by
  obtain ⟨hc6, q0, q1, q2, q3, hft, ht11, hse, hfl⟩ := id hC
  intro n
  induction n with
  | zero =>
    intro s I2 L2 hin hs1 hF hz
    obtain rfl : s = (ti + 1) := by omega
    refine g_iload d12_habitCost_71 rfl ?_
    refine g_aload_n d12_habitCost_73 rfl ?_
    refine g_iload_n d12_habitCost_74 rfl ?_
    refine g_iconstv (nI 1) d12_habitCost_75 rfl ?_
    refine g_EV2 vm12_ofCar ml12_167 c_74 (r12_ofCar (c) (1) (by omega) (by omega) (Nat.le_refl 0)) (by omega) (Nat.le_of_ble_eq_true rfl) d12_habitCost_76 ?_
    refine g_topI (nI (ti)) ((congrFun (hF.1 76 (by decide) (by decide)) _).trans q1) ?_
    refine g_ic_gt (((ti + 1) : Nat) : Int) ((ti : Nat) : Int) 344 (nI_ti (by omega)) (nI_ti (by omega)) d12_habitCost_79 rfl (fun _ => ?_) (fun c79 => absurd c79 (by omega))
    refine g_lo [(0, .ref 74), (1, .int (nI (c))), (2, .int (nI (h))), (5, .int (nI (fr))), (3, .long (lN (hV coin per fr fl cm fn (thr F coin per fr ti se) P ((ti + 1) - fr))))] ⟨rfl, rfl, rfl, rfl, rfl, trivial⟩ ?_
    exact kk I2 L2 hs1 hF hz
  | succ n ih =>
    intro s I2 L2 hin hs1 hF hz
    refine g_iload d12_habitCost_71 rfl ?_
    refine g_aload_n d12_habitCost_73 rfl ?_
    refine g_iload_n d12_habitCost_74 rfl ?_
    refine g_iconstv (nI 1) d12_habitCost_75 rfl ?_
    refine g_EV2 vm12_ofCar ml12_167 c_74 (r12_ofCar (c) (1) (by omega) (by omega) (Nat.le_refl 0)) (by omega) (Nat.le_of_ble_eq_true rfl) d12_habitCost_76 ?_
    refine g_topI (nI (ti)) ((congrFun (hF.1 76 (by decide) (by decide)) _).trans q1) ?_
    refine g_ic_gt ((s : Nat) : Int) ((ti : Nat) : Int) 344 (nI_ti (by omega)) (nI_ti (by omega)) d12_habitCost_79 rfl (fun c79 => absurd c79 (by omega)) (fun _ => ?_)
    refine g_iconstv (nI 0) d12_habitCost_82 rfl ?_
    refine g_istore d12_habitCost_83 (by decide) ?_
    refine g_lo [(0, .ref 74), (1, .int (nI (c))), (2, .int (nI (h))), (3, .long (lN (hV coin per fr fl cm fn (thr F coin per fr ti se) P (s - fr)))), (5, .int (nI (fr))), (6, .int (nI (s))), (7, .int (nI (0)))] ⟨rfl, rfl, rfl, rfl, rfl, rfl, rfl, trivial⟩ ?_
    refine r12_hc1 (I := I2) (L := L2) c h fr s (hV coin per fr fl cm fn (thr F coin per fr ti se) P (s - fr)) (fun L3 hL3 hz3 => ?_) 169 0 L2 (by omega) (fun q _ => rfl) (fun q hq => by omega)
    refine g_bipushv (nI 13) d12_habitCost_107 rfl ?_
    refine g_istore d12_habitCost_109 (by decide) ?_
    refine g_lo [(0, .ref 74), (1, .int (nI (c))), (2, .int (nI (h))), (5, .int (nI (fr))), (6, .int (nI (s))), (3, .long (lN (hV coin per fr fl cm fn (thr F coin per fr ti se) P (s - fr) + hvs coin per fr fl cm fn (thr F coin per fr ti se) (hS per fr cm (thr F coin per fr ti se) P (s - fr)) s 0))), (7, .int (nI (13 + 0)))] ⟨rfl, rfl, rfl, rfl, rfl, rfl, rfl, trivial⟩ ?_
    have hF3 : FR [] [28, 32] [88, 89, 99, 100] [33, 34] I L I2 L3 := hF.tr ⟨fun _ _ _ => rfl, fun _ _ => rfl, fun q h1 _ => hL3 q (fun z => h1 (by simp [z])), fun j _ => by rw [hL3 74 (by decide)]⟩
    refine r12_hc2 h F hB coin per c fr ti se fl hC hco hc9 hpe hp4 ho cm fn hcm hfn hcs s (hV coin per fr fl cm fn (thr F coin per fr ti se) P (s - fr)) hs1 (by omega) (hS per fr cm (thr F coin per fr ti se) P (s - fr)) (fun k a b => hS_le per fr cm (thr F coin per fr ti se) P hcm hPs (s - fr) a b) L3 (fun q hq => (congrFun (hL3 99 (by decide)) q).trans (hz q hq)) hd (fun I4 L4 hF4 hz4 => ?_) 156 0 I2 L3 (by decide) (by decide) hF3 rfl (fun q hq => hz3 q (by omega))
    refine g_iconstv (nI 0) d12_habitCost_307 rfl ?_
    refine g_istore d12_habitCost_308 (by decide) ?_
    refine g_lo [(0, .ref 74), (1, .int (nI (c))), (2, .int (nI (h))), (3, .long (lN (hV coin per fr fl cm fn (thr F coin per fr ti se) P (s - fr) + hvs coin per fr fl cm fn (thr F coin per fr ti se) (hS per fr cm (thr F coin per fr ti se) P (s - fr)) s 156))), (5, .int (nI (fr))), (6, .int (nI (s))), (7, .int (nI (0)))] ⟨rfl, rfl, rfl, rfl, rfl, rfl, rfl, trivial⟩ ?_
    refine r12_hc3 (I := I4) (L := L4) c h fr s _ (fun L5 hL5 hz5 => ?_) 169 0 L4 (by omega) (fun q _ => rfl) (fun q hq => by omega)
    refine g_iincN d12_habitCost_338 rfl (by decide) ?_
    refine g_goto 71 d12_habitCost_341 rfl ?_
    refine g_lo [(0, .ref 74), (1, .int (nI (c))), (2, .int (nI (h))), (5, .int (nI (fr))), (3, .long (lN (hV coin per fr fl cm fn (thr F coin per fr ti se) P (s + 1 - fr)))), (6, .int (nI (s + 1)))] ⟨rfl, rfl, rfl, rfl, ?_, rfl, trivial⟩ ?_
    · show some (Value.long (lN (hV coin per fr fl cm fn (thr F coin per fr ti se) P (s - fr) + hvs coin per fr fl cm fn (thr F coin per fr ti se) (hS per fr cm (thr F coin per fr ti se) P (s - fr)) s 156))) = _
      rw [show s + 1 - fr = (s - fr) + 1 by omega]
      show _ = some (Value.long (lN (hV coin per fr fl cm fn (thr F coin per fr ti se) P (s - fr) + hvs coin per fr fl cm fn (thr F coin per fr ti se) (hS per fr cm (thr F coin per fr ti se) P (s - fr)) (fr + (s - fr)) 156)))
      rw [show fr + (s - fr) = s by omega]
    have hF5 : FR [] [28, 32] [88, 89, 99, 100] [33, 34] I L I4 L5 := hF4.tr ⟨fun _ _ _ => rfl, fun _ _ => rfl, fun q h1 _ => hL5 q (fun z => h1 (by simp [z])), fun j _ => by rw [hL5 74 (by decide)]⟩
    refine ih (s + 1) I4 L5 (by omega) (by omega) hF5 (fun q hq => ?_)
    rw [hz5 q (by omega), hz4 q hq, show s + 1 - fr = (s - fr) + 1 by omega]
    show _ = lN (hxs per cm (thr F coin per fr ti se) (hS per fr cm (thr F coin per fr ti se) P (s - fr)) (fr + (s - fr)) 156 q)
    rw [show fr + (s - fr) = s by omega]
set_option maxHeartbeats 400000 in
theorem r12_habitCost {l : Launch} {K : cK} {d : Nat} {I : wI} {L : wL} {R : wR} {dy : cH} (h : Nat) (F : hbF) (hB : HB (I 76) h F) (coin per c fr ti se fl : Nat) (hC : CF I c fr ti se fl) (hco : I 76 6 = nI coin) (hc9 : coin ≤ 9) (hpe : I 76 7 = nI per) (hp4 : per ≤ 4) (ho : I 74 15 = 0) (cm fn : Nat → Nat → Nat) (hcm : ∀ s k, cm s k ≤ 10) (hfn : ∀ s k, fn s k ≤ 99) (hcs : ∀ s, fr ≤ s → s < ti + 1 → ∀ k, 1 ≤ k → k ≤ 12 → I 90 (13 * s + k) = nI (cm s k) ∧ I 92 (13 * s + k) = nI (fn s k)) (P : Nat → Nat) (hPs : sm P 12 ≤ 1000000000000) (hP : ∀ k, 1 ≤ k → k ≤ 12 → L 91 (13 * fr + k) = lN (P k)) (hd : 5 ≤ d) : CX l K m12_habitCost d [.ref 74, .int (nI c), .int (nI h)] (hp I L R dy) (α := wI × wL) (fun x => FR [] [28, 32] [88, 89, 99, 100] [33, 34] I L x.1 x.2) (fun _ => .long (lN (hV coin per fr fl cm fn (thr F coin per fr ti se) P (ti + 1 - fr)))) (fun x => hp x.1 x.2 R dy) := by
  obtain ⟨hc6, q0, q1, q2, q3, hft, ht11, hse, hfl⟩ := id hC
  refine CC.of ok12_habitCost (Nat.le_of_ble_eq_true rfl) ?_
  refine g_lconstv (0) d12_habitCost_0 rfl ?_
  refine g_lstore_n d12_habitCost_1 (by decide) ?_
  refine g_aload_n d12_habitCost_2 rfl ?_
  refine g_iload_n d12_habitCost_3 rfl ?_
  refine g_iconstv (nI 0) d12_habitCost_4 rfl ?_
  refine g_EV2 vm12_ofCar ml12_167 c_74 (r12_ofCar (c) (0) (by omega) (by omega) (Nat.le_refl 0)) (by omega) (Nat.le_of_ble_eq_true rfl) d12_habitCost_5 ?_
  refine g_topI (nI (fr)) (q0) ?_
  refine g_istore d12_habitCost_8 (by decide) ?_
  refine g_iconstv (nI 0) d12_habitCost_10 rfl ?_
  refine g_istore d12_habitCost_11 (by decide) ?_
  refine g_lo [(0, .ref 74), (1, .int (nI (c))), (2, .int (nI (h))), (3, .long (lN 0)), (5, .int (nI (fr))), (6, .int (nI (0)))] ⟨rfl, rfl, rfl, rfl, rfl, rfl, trivial⟩ ?_
  refine r12_hc0 per c h fr (by omega) cm (thr F coin per fr ti se) P hP (fun L3 hF3 hz3 => ?_) 169 0 L (by omega) FR.rf (fun q hq => by omega)
  refine g_iload d12_habitCost_67 rfl ?_
  refine g_istore d12_habitCost_69 (by decide) ?_
  refine g_lo [(0, .ref 74), (1, .int (nI (c))), (2, .int (nI (h))), (5, .int (nI (fr))), (3, .long (lN (hV coin per fr fl cm fn (thr F coin per fr ti se) P (fr - fr)))), (6, .int (nI (fr)))] ⟨rfl, rfl, rfl, rfl, by rw [Nat.sub_self]; rfl, rfl, trivial⟩ ?_
  refine r12_hc4 h F hB coin per c fr ti se fl hC hco hc9 hpe hp4 ho cm fn hcm hfn hcs P hPs hd (fun I4 L4 _ hF4 _ => ?_) (ti + 1 - fr) fr I L3 (by omega) (Nat.le_refl _) hF3 (fun q hq => by rw [Nat.sub_self]; exact hz3 q (by omega))
  refine g_lload_n d12_habitCost_344 rfl ?_
  exact g_lret rfl d12_habitCost_345 (⟨(I4, L4), hF4, rfl, rfl⟩)
