/-- if he comes: a fine, or a coin in time -/
def ifc (coin per fl : Nat) (wn : Bool) (w f : Nat) (sb : Bool) (nx : Nat → Nat) (paid : Nat) : Nat :=
  if 0 < paid ∨ sb = true then nx (les paid) else if wn = true ∧ w * (coin + fl) + nx (les per) < w * f + nx 0 then w * (coin + fl) + nx (les per) else w * f + nx 0
def rc1 (coin per fr fl : Nat) (wn : Bool) (w c f : Nat) (sb : Bool) (nx : Nat → Nat → Nat) (s k left n : Nat) : Nat :=
  10 * w * prc coin fr fl s n + c * ifc coin per fl wn w f sb (nx 1) (pdb per left n) + (10 - c) * nx (lat k) (les (pdb per left n))
def rD (coin per fr ti fl : Nat) (wn : Bool) (cm fn : Nat → Nat → Nat) (sb : Nat → Nat → Bool) : Nat → Nat → Nat → Nat
  | 0, _, _ => 0
  | m + 1, k, left => (fa (rc1 coin per fr fl wn (10 ^ m) (cm (ti - m) k) (fn (ti - m) k) (sb (ti - m) k) (rD coin per fr ti fl wn cm fn sb m) (ti - m) k left) 12).1
def rB2 (coin per fr ti fl : Nat) (wn : Bool) (cm fn : Nat → Nat → Nat) (sb : Nat → Nat → Bool) (m k left : Nat) : Nat := (fa (rc1 coin per fr fl wn (10 ^ m) (cm (ti - m) k) (fn (ti - m) k) (sb (ti - m) k) (rD coin per fr ti fl wn cm fn sb m) (ti - m) k left) 12).2.1
theorem ifc_le {coin per fl : Nat} {wn : Bool} {w f : Nat} {sb : Bool} {nx : Nat → Nat} {B : Nat} (hf : f ≤ 99) (hn : ∀ q, nx q ≤ B) (paid : Nat) : ifc coin per fl wn w f sb nx paid ≤ w * 99 + B := by
  unfold ifc
  have h1 := hn (les paid)
  have h2 := hn 0
  have h3 : w * f ≤ w * 99 := Nat.mul_le_mul_left w hf
  split
  · omega
  · split <;> omega
theorem rc1_le {coin per fr fl : Nat} {wn : Bool} {w c f : Nat} {sb : Bool} {nx : Nat → Nat → Nat} {B : Nat} (hf : f ≤ 99) (hc : c ≤ 10) (hn : ∀ k q, nx k q ≤ B) (s k left n : Nat) : rc1 coin per fr fl wn w c f sb nx s k left n ≤ 10 * w * prc coin fr fl s n + 10 * (w * 99 + B) := by
  unfold rc1
  have h1 := ifc_le (coin := coin) (per := per) (fl := fl) (wn := wn) (w := w) (sb := sb) hf (hn 1) (pdb per left n)
  have h2 := hn (lat k) (les (pdb per left n))
  have h3 := Nat.mul_le_mul_left c h1
  have h4 : (10 - c) * nx (lat k) (les (pdb per left n)) ≤ (10 - c) * (w * 99 + B) := Nat.mul_le_mul_left _ (by omega)
  have h5 : c * (w * 99 + B) + (10 - c) * (w * 99 + B) = 10 * (w * 99 + B) := by rw [← Nat.add_mul]; congr 1; omega
  omega
theorem rD_le (coin per fr ti fl : Nat) (wn : Bool) (cm fn : Nat → Nat → Nat) (sb : Nat → Nat → Bool) (hcm : ∀ s k, cm s k ≤ 10) (hfn : ∀ s k, fn s k ≤ 99) : ∀ m k left, rD coin per fr ti fl wn cm fn sb m k left ≤ m * 99 * 10 ^ m
  | 0, _, _ => Nat.zero_le _
  | m + 1, k, left => by
    have h1 := (fa_le (rc1 coin per fr fl wn (10 ^ m) (cm (ti - m) k) (fn (ti - m) k) (sb (ti - m) k) (rD coin per fr ti fl wn cm fn sb m) (ti - m) k left) 12).1
    have h2 := rc1_le (coin := coin) (per := per) (fr := fr) (fl := fl) (wn := wn) (w := 10 ^ m) (sb := sb (ti - m) k) (hfn (ti - m) k) (hcm (ti - m) k) (fun a b => rD_le coin per fr ti fl wn cm fn sb hcm hfn m a b) (ti - m) k left 0
    have h4 : prc coin fr fl (ti - m) 0 = 0 := by unfold prc; rw [if_neg (by omega)]; omega
    rw [h4] at h2
    show (fa _ 12).1 ≤ _
    have h5 : (m + 1) * 99 * 10 ^ (m + 1) = 10 * (10 ^ m * 99 + m * 99 * 10 ^ m) := by
      rw [Nat.pow_succ, Nat.add_mul, Nat.one_mul, Nat.add_mul]
      rw [Nat.mul_comm (10 ^ m) 99]
      rw [show m * 99 * (10 ^ m * 10) = m * 99 * 10 ^ m * 10 by rw [Nat.mul_assoc (m * 99)], show 99 * (10 ^ m * 10) = 99 * 10 ^ m * 10 by rw [Nat.mul_assoc]]
      omega
    omega
theorem pw12 {m : Nat} (h : m ≤ 12) : 10 ^ m ≤ 1000000000000 := Nat.le_trans (Nat.pow_le_pow_right (by decide) h) (by decide)
theorem rD_lt {coin per fr ti fl : Nat} {wn : Bool} {cm fn : Nat → Nat → Nat} {sb : Nat → Nat → Bool} (hcm : ∀ s k, cm s k ≤ 10) (hfn : ∀ s k, fn s k ≤ 99) {m : Nat} (hm : m ≤ 12) (k left : Nat) : rD coin per fr ti fl wn cm fn sb m k left ≤ 1188000000000000 := by
  refine Nat.le_trans (rD_le coin per fr ti fl wn cm fn sb hcm hfn m k left) ?_
  exact Nat.mul_le_mul (Nat.mul_le_mul_right 99 hm) (pw12 hm)
theorem rc1_lt {coin per fr ti fl : Nat} {wn : Bool} {cm fn : Nat → Nat → Nat} {sb : Nat → Nat → Bool} (hcm : ∀ s k, cm s k ≤ 10) (hfn : ∀ s k, fn s k ≤ 99) (h1 : coin ≤ 9) (h2 : fl ≤ 9) {m : Nat} (hm : m ≤ 12) {n : Nat} (hn : n ≤ 12) (k left : Nat) : rc1 coin per fr fl wn (10 ^ m) (cm (ti - m) k) (fn (ti - m) k) (sb (ti - m) k) (rD coin per fr ti fl wn cm fn sb m) (ti - m) k left n < 4000000000000000000 := by
  have a1 := rc1_le (coin := coin) (per := per) (fr := fr) (fl := fl) (wn := wn) (w := 10 ^ m) (sb := sb (ti - m) k) (hfn (ti - m) k) (hcm (ti - m) k) (fun a b => rD_lt (coin := coin) (per := per) (fr := fr) (ti := ti) (fl := fl) (wn := wn) (sb := sb) hcm hfn hm a b) (ti - m) k left n
  have a2 := prc_le (fr := fr) (s := ti - m) h1 h2 hn
  have a3 := pw12 hm
  have a4 : 10 * 10 ^ m * prc coin fr fl (ti - m) n ≤ 10 * 1000000000000 * 117 := Nat.mul_le_mul (Nat.mul_le_mul_left 10 a3) a2
  omega
set_option maxHeartbeats 200000 in
theorem r12_runAt {l : Launch} {K : cK} {d : Nat} {h : cH} (s k q : Nat) (hd : 0 ≤ d) : CE l K m12_runAt d [.int (nI s), .int (nI k), .int (nI q)] h (.int (nI (169 * s + 13 * k + q))) h := by
  refine CC.of ok12_runAt (Nat.le_of_ble_eq_true rfl) ?_
  refine g_sipushv (nI 169) d12_runAt_0 rfl ?_
  refine g_iload_n d12_runAt_3 rfl ?_
  refine g_imulN d12_runAt_4 ?_
  refine g_bipushv (nI 13) d12_runAt_5 rfl ?_
  refine g_iload_n d12_runAt_7 rfl ?_
  refine g_imulN d12_runAt_8 ?_
  refine g_iaddN d12_runAt_9 ?_
  refine g_iload_n d12_runAt_10 rfl ?_
  refine g_iaddN d12_runAt_11 ?_
  exact g_iret rfl d12_runAt_12 (⟨rfl, rfl⟩)
theorem r12_powL {l : Launch} {K : cK} {d : Nat} {h : cH} (n : Nat) (hn : n < 1000) (hd : 0 ≤ d) : ∀ (j k : Nat), k + j = n → GL l K m12_power d 0 0 4 [(0, .int (nI n)), (1, .long (lN (10 ^ k))), (3, .int (nI k))] [] h (fun r h1 => r = some (.long (lN (10 ^ n))) ∧ h1 = h) := by
  intro j
  induction j with
  | zero =>
    intro k hk
    obtain rfl : k = n := by omega
    refine g_iload_n d12_power_4 rfl ?_
    refine g_iload_n d12_power_5 rfl ?_
    refine g_ic_ge ((k : Nat) : Int) ((k : Nat) : Int) 21 (nI_ti (by omega)) (nI_ti (by omega)) d12_power_6 rfl (fun _ => ?_) (fun c6 => absurd c6 (by omega))
    refine g_lload_n d12_power_21 rfl ?_
    exact g_lret rfl d12_power_22 (⟨rfl, rfl⟩)
  | succ j ih =>
    intro k hk
    refine g_iload_n d12_power_4 rfl ?_
    refine g_iload_n d12_power_5 rfl ?_
    refine g_ic_ge ((k : Nat) : Int) ((n : Nat) : Int) 21 (nI_ti (by omega)) (nI_ti (by omega)) d12_power_6 rfl (fun c6 => absurd c6 (by omega)) (fun _ => ?_)
    refine g_lload_n d12_power_9 rfl ?_
    refine g_ldc2 d12_power_10 kl12_223 ?_
    refine g_lmul d12_power_13 ?_
    refine g_topL (lN (10 ^ (k + 1))) (by rw [Nat.pow_succ]; exact lN_mul _ _) ?_
    refine g_lstore_n d12_power_14 (by decide) ?_
    refine g_iincN d12_power_15 rfl (by decide) ?_
    refine g_goto 4 d12_power_18 rfl ?_
    refine g_lo [(0, .int (nI n)), (1, .long (lN (10 ^ (k + 1)))), (3, .int (nI (k + 1)))] ⟨rfl, rfl, rfl, trivial⟩ ?_
    exact ih (k + 1) (by omega)
set_option maxHeartbeats 200000 in
theorem r12_power {l : Launch} {K : cK} {d : Nat} {h : cH} (n : Nat) (hn : n < 1000) (hd : 0 ≤ d) : CE l K m12_power d [.int (nI n)] h (.long (lN (10 ^ n))) h := by
  refine CC.of ok12_power (Nat.le_of_ble_eq_true rfl) ?_
  refine g_lconstv (1) d12_power_0 rfl ?_
  refine g_lstore_n d12_power_1 (by decide) ?_
  refine g_iconstv (nI 0) d12_power_2 rfl ?_
  refine g_istore_n d12_power_3 (by decide) ?_
  refine g_lo [(0, .int (nI n)), (1, .long (lN (10 ^ 0))), (3, .int (nI 0))] ⟨rfl, rfl, rfl, trivial⟩ ?_
  exact r12_powL n hn hd n 0 (by omega)
set_option maxHeartbeats 400000 in
theorem r12_ifHeComes {l : Launch} {K : cK} {d : Nat} {I : wI} {L : wL} {R : wR} {dy : cH} (coin per c fr ti se fl : Nat) (hC : CF I c fr ti se fl) (hco : I 76 6 = nI coin) (hc9 : coin ≤ 9) (hpe : I 76 7 = nI per) (hp4 : per ≤ 4) (s k paid w f : Nat) (hs : s ≤ 11) (hk1 : 1 ≤ k) (hk2 : k ≤ 12) (hpd : paid ≤ 12) (sb wn : Bool) (hsb : I 93 (13 * s + k) = if sb = true then 1 else 0) (hf : I 92 (13 * s + k) = nI f) (hf99 : f ≤ 99) (nx : Nat → Nat) (hnx : ∀ q, q ≤ 12 → L 97 (169 * (s + 1) + 13 * 1 + q) = lN (nx q)) (hw : w ≤ 1000000000000) (hB : ∀ q, nx q ≤ 2000000000000000) (hd : 1 ≤ d) : CE l K m12_ifHeComes d [.ref 74, .int (nI c), .int (nI s), .int (nI k), .int (nI paid), .long (lN w), .int (if wn = true then 1 else 0)] (hp I L R dy) (.long (lN (ifc coin per fl wn w f sb nx paid))) (hp I L R dy) := by
  obtain ⟨hc6, q0, q1, -, q3, hft, ht11, -, hfl⟩ := hC
  have hle1 : les paid ≤ 12 := by unfold les; omega
  have hle2 : les per ≤ 12 := by unfold les; omega
  have hwf : w * f ≤ 99000000000000 := Nat.le_trans (Nat.mul_le_mul hw hf99) (by decide)
  have hwc : w * (coin + fl) ≤ 18000000000000 := Nat.le_trans (Nat.mul_le_mul hw (by omega : coin + fl ≤ 18)) (by decide)
  have hn0 := hB 0
  have hn1 := hB (les per)
  refine CC.of ok12_ifHeComes (Nat.le_of_ble_eq_true rfl) ?_
  by_cases hp0 : 0 < paid
  · have e : (ifc coin per fl wn w f sb nx paid) = nx (les paid) := by unfold ifc; rw [if_pos (Or.inl hp0)]
    refine g_bipushv (nI 13) d12_ifHeComes_0 rfl ?_
    refine g_iload_n d12_ifHeComes_2 rfl ?_
    refine g_imulN d12_ifHeComes_3 ?_
    refine g_iload_n d12_ifHeComes_4 rfl ?_
    refine g_iaddN d12_ifHeComes_5 ?_
    refine g_istore d12_ifHeComes_6 (by decide) ?_
    refine g_iload d12_ifHeComes_8 rfl ?_
    refine g_iz_gt ((paid : Nat) : Int) 23 (nI_ti (by omega)) d12_ifHeComes_10 rfl (fun _ => ?_) (fun c10 => absurd c10 (by omega))
    refine g_aload_n d12_ifHeComes_23 rfl ?_
    refine g_get fl12_104 d12_ifHeComes_24 f_74_47 ?_
    refine g_iload_n d12_ifHeComes_27 rfl ?_
    refine g_iconstv (nI 1) d12_ifHeComes_28 rfl ?_
    refine g_iaddN d12_ifHeComes_29 ?_
    refine g_iconstv (nI 1) d12_ifHeComes_30 rfl ?_
    refine g_iload d12_ifHeComes_31 rfl ?_
    refine g_ES1 sm12_less ml12_427 (r12_less (paid) (by omega) (Nat.le_refl 0)) (by omega) (Nat.le_of_ble_eq_true rfl) d12_ifHeComes_33 ?_
    refine g_ES3 sm12_runAt ml12_461 (r12_runAt ((s + 1)) (1) ((les (paid))) (Nat.le_refl 0)) (by omega) (Nat.le_of_ble_eq_true rfl) d12_ifHeComes_36 ?_
    refine g_laldN ((169 * (s + 1) + 13 * 1 + (les (paid)))) d12_ifHeComes_39 a_97 (rfl) (by omega) (by decide) ?_
    refine g_topL (lN (nx (les paid))) (hnx _ (by omega)) ?_
    exact g_lret rfl d12_ifHeComes_40 (⟨congrArg (fun z => some (Value.long z)) (by rw [e]), rfl⟩)
  · by_cases hs1 : sb = true
    · have e : (ifc coin per fl wn w f sb nx paid) = nx (les paid) := by unfold ifc; rw [if_pos (Or.inr hs1)]
      refine g_bipushv (nI 13) d12_ifHeComes_0 rfl ?_
      refine g_iload_n d12_ifHeComes_2 rfl ?_
      refine g_imulN d12_ifHeComes_3 ?_
      refine g_iload_n d12_ifHeComes_4 rfl ?_
      refine g_iaddN d12_ifHeComes_5 ?_
      refine g_istore d12_ifHeComes_6 (by decide) ?_
      refine g_iload d12_ifHeComes_8 rfl ?_
      refine g_iz_gt ((paid : Nat) : Int) 23 (nI_ti (by omega)) d12_ifHeComes_10 rfl (fun c10 => absurd c10 (by omega)) (fun _ => ?_)
      refine g_aload_n d12_ifHeComes_13 rfl ?_
      refine g_get fl12_92 d12_ifHeComes_14 f_74_40 ?_
      refine g_iload d12_ifHeComes_17 rfl ?_
      refine g_zaldN (((13 * s) + k)) d12_ifHeComes_19 a_93 (rfl) (by omega) (by decide) ?_
      refine g_topI (nI 1) (by rw [hsb, if_pos hs1]; rfl) ?_
      refine g_iz_eq ((1 : Nat) : Int) 41 (nI_ti (by omega)) d12_ifHeComes_20 rfl (fun c20 => absurd c20 (by decide)) (fun _ => ?_)
      refine g_aload_n d12_ifHeComes_23 rfl ?_
      refine g_get fl12_104 d12_ifHeComes_24 f_74_47 ?_
      refine g_iload_n d12_ifHeComes_27 rfl ?_
      refine g_iconstv (nI 1) d12_ifHeComes_28 rfl ?_
      refine g_iaddN d12_ifHeComes_29 ?_
      refine g_iconstv (nI 1) d12_ifHeComes_30 rfl ?_
      refine g_iload d12_ifHeComes_31 rfl ?_
      refine g_ES1 sm12_less ml12_427 (r12_less (paid) (by omega) (Nat.le_refl 0)) (by omega) (Nat.le_of_ble_eq_true rfl) d12_ifHeComes_33 ?_
      refine g_ES3 sm12_runAt ml12_461 (r12_runAt ((s + 1)) (1) ((les (paid))) (Nat.le_refl 0)) (by omega) (Nat.le_of_ble_eq_true rfl) d12_ifHeComes_36 ?_
      refine g_laldN ((169 * (s + 1) + 13 * 1 + (les (paid)))) d12_ifHeComes_39 a_97 (rfl) (by omega) (by decide) ?_
      refine g_topL (lN (nx (les paid))) (hnx _ (by omega)) ?_
      exact g_lret rfl d12_ifHeComes_40 (⟨congrArg (fun z => some (Value.long z)) (by rw [e]), rfl⟩)
    · have e : (ifc coin per fl wn w f sb nx paid) = if wn = true ∧ w * (coin + fl) + nx (les per) < w * f + nx 0 then w * (coin + fl) + nx (les per) else w * f + nx 0 := by unfold ifc; rw [if_neg (fun q => q.elim hp0 hs1)]
      cases wn with
      | false =>
        have e2 : (ifc coin per fl false w f sb nx paid) = w * f + nx 0 := by rw [e, if_neg (fun q => by cases q.1)]
        refine g_bipushv (nI 13) d12_ifHeComes_0 rfl ?_
        refine g_iload_n d12_ifHeComes_2 rfl ?_
        refine g_imulN d12_ifHeComes_3 ?_
        refine g_iload_n d12_ifHeComes_4 rfl ?_
        refine g_iaddN d12_ifHeComes_5 ?_
        refine g_istore d12_ifHeComes_6 (by decide) ?_
        refine g_iload d12_ifHeComes_8 rfl ?_
        refine g_iz_gt ((paid : Nat) : Int) 23 (nI_ti (by omega)) d12_ifHeComes_10 rfl (fun c10 => absurd c10 (by omega)) (fun _ => ?_)
        refine g_aload_n d12_ifHeComes_13 rfl ?_
        refine g_get fl12_92 d12_ifHeComes_14 f_74_40 ?_
        refine g_iload d12_ifHeComes_17 rfl ?_
        refine g_zaldN (((13 * s) + k)) d12_ifHeComes_19 a_93 (rfl) (by omega) (by decide) ?_
        refine g_topI (nI 0) (by rw [hsb, if_neg hs1]; rfl) ?_
        refine g_iz_eq ((0 : Nat) : Int) 41 (nI_ti (by omega)) d12_ifHeComes_20 rfl (fun _ => ?_) (fun c20 => absurd c20 (by decide))
        refine g_lload d12_ifHeComes_41 rfl ?_
        refine g_aload_n d12_ifHeComes_43 rfl ?_
        refine g_get fl12_89 d12_ifHeComes_44 f_74_39 ?_
        refine g_iload d12_ifHeComes_47 rfl ?_
        refine g_ialdN (((13 * s) + k)) d12_ifHeComes_49 a_92 (rfl) (by omega) (by decide) ?_
        refine g_topI (nI f) (hf) ?_
        refine g_i2lN (by omega) d12_ifHeComes_50 ?_
        refine g_lmul d12_ifHeComes_51 ?_
        refine g_topL (lN (w * f)) (lN_mul _ _) ?_
        refine g_aload_n d12_ifHeComes_52 rfl ?_
        refine g_get fl12_104 d12_ifHeComes_53 f_74_47 ?_
        refine g_iload_n d12_ifHeComes_56 rfl ?_
        refine g_iconstv (nI 1) d12_ifHeComes_57 rfl ?_
        refine g_iaddN d12_ifHeComes_58 ?_
        refine g_iconstv (nI 1) d12_ifHeComes_59 rfl ?_
        refine g_iconstv (nI 0) d12_ifHeComes_60 rfl ?_
        refine g_ES3 sm12_runAt ml12_461 (r12_runAt ((s + 1)) (1) (0) (Nat.le_refl 0)) (by omega) (Nat.le_of_ble_eq_true rfl) d12_ifHeComes_61 ?_
        refine g_laldN ((169 * (s + 1) + 13 * 1 + 0)) d12_ifHeComes_64 a_97 (rfl) (by omega) (by decide) ?_
        refine g_topL (lN (nx 0)) (hnx 0 (by omega)) ?_
        refine g_ladd d12_ifHeComes_65 ?_
        refine g_topL (lN (w * f + nx 0)) (lN_add _ _) ?_
        refine g_lstore d12_ifHeComes_66 (by decide) ?_
        refine g_lload d12_ifHeComes_68 rfl ?_
        refine g_aload_n d12_ifHeComes_70 rfl ?_
        refine g_iconstv (nI 0) d12_ifHeComes_71 rfl ?_
        refine g_EV1 vm12_term ml12_378 c_74 (r12_term (0) (by omega) (Nat.le_refl 0)) (by omega) (Nat.le_of_ble_eq_true rfl) d12_ifHeComes_72 ?_
        refine g_topI (nI coin) (hco) ?_
        refine g_aload_n d12_ifHeComes_75 rfl ?_
        refine g_iload_n d12_ifHeComes_76 rfl ?_
        refine g_iconstv (nI 3) d12_ifHeComes_77 rfl ?_
        refine g_EV2 vm12_ofCar ml12_167 c_74 (r12_ofCar (c) (3) (by omega) (by omega) (Nat.le_refl 0)) (by omega) (Nat.le_of_ble_eq_true rfl) d12_ifHeComes_78 ?_
        refine g_topI (nI fl) (q3) ?_
        refine g_iaddN d12_ifHeComes_81 ?_
        refine g_i2lN (by omega) d12_ifHeComes_82 ?_
        refine g_lmul d12_ifHeComes_83 ?_
        refine g_topL (lN (w * (coin + fl))) (lN_mul _ _) ?_
        refine g_aload_n d12_ifHeComes_84 rfl ?_
        refine g_get fl12_104 d12_ifHeComes_85 f_74_47 ?_
        refine g_iload_n d12_ifHeComes_88 rfl ?_
        refine g_iconstv (nI 1) d12_ifHeComes_89 rfl ?_
        refine g_iaddN d12_ifHeComes_90 ?_
        refine g_iconstv (nI 1) d12_ifHeComes_91 rfl ?_
        refine g_aload_n d12_ifHeComes_92 rfl ?_
        refine g_iconstv (nI 1) d12_ifHeComes_93 rfl ?_
        refine g_EV1 vm12_term ml12_378 c_74 (r12_term (1) (by omega) (Nat.le_refl 0)) (by omega) (Nat.le_of_ble_eq_true rfl) d12_ifHeComes_94 ?_
        refine g_topI (nI per) (hpe) ?_
        refine g_ES1 sm12_less ml12_427 (r12_less (per) (by omega) (Nat.le_refl 0)) (by omega) (Nat.le_of_ble_eq_true rfl) d12_ifHeComes_97 ?_
        refine g_ES3 sm12_runAt ml12_461 (r12_runAt ((s + 1)) (1) ((les (per))) (Nat.le_refl 0)) (by omega) (Nat.le_of_ble_eq_true rfl) d12_ifHeComes_100 ?_
        refine g_laldN ((169 * (s + 1) + 13 * 1 + (les (per)))) d12_ifHeComes_103 a_97 (rfl) (by omega) (by decide) ?_
        refine g_topL (lN (nx (les per))) (hnx _ (by omega)) ?_
        refine g_ladd d12_ifHeComes_104 ?_
        refine g_topL (lN (w * (coin + fl) + nx (les per))) (lN_add _ _) ?_
        refine g_lstore d12_ifHeComes_105 (by decide) ?_
        refine g_iload d12_ifHeComes_107 rfl ?_
        refine g_iz_eq 0 125 (rfl) d12_ifHeComes_109 rfl (fun _ => ?_) (fun c109 => absurd c109 (by decide))
        refine g_lload d12_ifHeComes_125 rfl ?_
        exact g_lret rfl d12_ifHeComes_127 (⟨congrArg (fun z => some (Value.long z)) (by rw [e2]), rfl⟩)
      | true =>
        by_cases hlt : w * (coin + fl) + nx (les per) < w * f + nx 0
        · have e2 : (ifc coin per fl true w f sb nx paid) = w * (coin + fl) + nx (les per) := by rw [e, if_pos ⟨rfl, hlt⟩]
          refine g_bipushv (nI 13) d12_ifHeComes_0 rfl ?_
          refine g_iload_n d12_ifHeComes_2 rfl ?_
          refine g_imulN d12_ifHeComes_3 ?_
          refine g_iload_n d12_ifHeComes_4 rfl ?_
          refine g_iaddN d12_ifHeComes_5 ?_
          refine g_istore d12_ifHeComes_6 (by decide) ?_
          refine g_iload d12_ifHeComes_8 rfl ?_
          refine g_iz_gt ((paid : Nat) : Int) 23 (nI_ti (by omega)) d12_ifHeComes_10 rfl (fun c10 => absurd c10 (by omega)) (fun _ => ?_)
          refine g_aload_n d12_ifHeComes_13 rfl ?_
          refine g_get fl12_92 d12_ifHeComes_14 f_74_40 ?_
          refine g_iload d12_ifHeComes_17 rfl ?_
          refine g_zaldN (((13 * s) + k)) d12_ifHeComes_19 a_93 (rfl) (by omega) (by decide) ?_
          refine g_topI (nI 0) (by rw [hsb, if_neg hs1]; rfl) ?_
          refine g_iz_eq ((0 : Nat) : Int) 41 (nI_ti (by omega)) d12_ifHeComes_20 rfl (fun _ => ?_) (fun c20 => absurd c20 (by decide))
          refine g_lload d12_ifHeComes_41 rfl ?_
          refine g_aload_n d12_ifHeComes_43 rfl ?_
          refine g_get fl12_89 d12_ifHeComes_44 f_74_39 ?_
          refine g_iload d12_ifHeComes_47 rfl ?_
          refine g_ialdN (((13 * s) + k)) d12_ifHeComes_49 a_92 (rfl) (by omega) (by decide) ?_
          refine g_topI (nI f) (hf) ?_
          refine g_i2lN (by omega) d12_ifHeComes_50 ?_
          refine g_lmul d12_ifHeComes_51 ?_
          refine g_topL (lN (w * f)) (lN_mul _ _) ?_
          refine g_aload_n d12_ifHeComes_52 rfl ?_
          refine g_get fl12_104 d12_ifHeComes_53 f_74_47 ?_
          refine g_iload_n d12_ifHeComes_56 rfl ?_
          refine g_iconstv (nI 1) d12_ifHeComes_57 rfl ?_
          refine g_iaddN d12_ifHeComes_58 ?_
          refine g_iconstv (nI 1) d12_ifHeComes_59 rfl ?_
          refine g_iconstv (nI 0) d12_ifHeComes_60 rfl ?_
          refine g_ES3 sm12_runAt ml12_461 (r12_runAt ((s + 1)) (1) (0) (Nat.le_refl 0)) (by omega) (Nat.le_of_ble_eq_true rfl) d12_ifHeComes_61 ?_
          refine g_laldN ((169 * (s + 1) + 13 * 1 + 0)) d12_ifHeComes_64 a_97 (rfl) (by omega) (by decide) ?_
          refine g_topL (lN (nx 0)) (hnx 0 (by omega)) ?_
          refine g_ladd d12_ifHeComes_65 ?_
          refine g_topL (lN (w * f + nx 0)) (lN_add _ _) ?_
          refine g_lstore d12_ifHeComes_66 (by decide) ?_
          refine g_lload d12_ifHeComes_68 rfl ?_
          refine g_aload_n d12_ifHeComes_70 rfl ?_
          refine g_iconstv (nI 0) d12_ifHeComes_71 rfl ?_
          refine g_EV1 vm12_term ml12_378 c_74 (r12_term (0) (by omega) (Nat.le_refl 0)) (by omega) (Nat.le_of_ble_eq_true rfl) d12_ifHeComes_72 ?_
          refine g_topI (nI coin) (hco) ?_
          refine g_aload_n d12_ifHeComes_75 rfl ?_
          refine g_iload_n d12_ifHeComes_76 rfl ?_
          refine g_iconstv (nI 3) d12_ifHeComes_77 rfl ?_
          refine g_EV2 vm12_ofCar ml12_167 c_74 (r12_ofCar (c) (3) (by omega) (by omega) (Nat.le_refl 0)) (by omega) (Nat.le_of_ble_eq_true rfl) d12_ifHeComes_78 ?_
          refine g_topI (nI fl) (q3) ?_
          refine g_iaddN d12_ifHeComes_81 ?_
          refine g_i2lN (by omega) d12_ifHeComes_82 ?_
          refine g_lmul d12_ifHeComes_83 ?_
          refine g_topL (lN (w * (coin + fl))) (lN_mul _ _) ?_
          refine g_aload_n d12_ifHeComes_84 rfl ?_
          refine g_get fl12_104 d12_ifHeComes_85 f_74_47 ?_
          refine g_iload_n d12_ifHeComes_88 rfl ?_
          refine g_iconstv (nI 1) d12_ifHeComes_89 rfl ?_
          refine g_iaddN d12_ifHeComes_90 ?_
          refine g_iconstv (nI 1) d12_ifHeComes_91 rfl ?_
          refine g_aload_n d12_ifHeComes_92 rfl ?_
          refine g_iconstv (nI 1) d12_ifHeComes_93 rfl ?_
          refine g_EV1 vm12_term ml12_378 c_74 (r12_term (1) (by omega) (Nat.le_refl 0)) (by omega) (Nat.le_of_ble_eq_true rfl) d12_ifHeComes_94 ?_
          refine g_topI (nI per) (hpe) ?_
          refine g_ES1 sm12_less ml12_427 (r12_less (per) (by omega) (Nat.le_refl 0)) (by omega) (Nat.le_of_ble_eq_true rfl) d12_ifHeComes_97 ?_
          refine g_ES3 sm12_runAt ml12_461 (r12_runAt ((s + 1)) (1) ((les (per))) (Nat.le_refl 0)) (by omega) (Nat.le_of_ble_eq_true rfl) d12_ifHeComes_100 ?_
          refine g_laldN ((169 * (s + 1) + 13 * 1 + (les (per)))) d12_ifHeComes_103 a_97 (rfl) (by omega) (by decide) ?_
          refine g_topL (lN (nx (les per))) (hnx _ (by omega)) ?_
          refine g_ladd d12_ifHeComes_104 ?_
          refine g_topL (lN (w * (coin + fl) + nx (les per))) (lN_add _ _) ?_
          refine g_lstore d12_ifHeComes_105 (by decide) ?_
          refine g_iload d12_ifHeComes_107 rfl ?_
          refine g_iz_eq 1 125 (rfl) d12_ifHeComes_109 rfl (fun c109 => absurd c109 (by decide)) (fun _ => ?_)
          refine g_lload d12_ifHeComes_112 rfl ?_
          refine g_lload d12_ifHeComes_114 rfl ?_
          refine g_lx_ge ((w * (coin + fl) + nx (les per) : Nat) : Int) ((w * f + nx 0 : Nat) : Int) 125 (pk_lT (by omega)) (pk_lT (by omega)) d12_ifHeComes_116 d12_ifHeComes_117 rfl (fun c116 => absurd c116 (by omega)) (fun _ => ?_)
          refine g_lload d12_ifHeComes_120 rfl ?_
          refine g_goto 127 d12_ifHeComes_122 rfl ?_
          exact g_lret rfl d12_ifHeComes_127 (⟨congrArg (fun z => some (Value.long z)) (by rw [e2]), rfl⟩)
        · have e2 : (ifc coin per fl true w f sb nx paid) = w * f + nx 0 := by rw [e, if_neg (fun q => hlt q.2)]
          refine g_bipushv (nI 13) d12_ifHeComes_0 rfl ?_
          refine g_iload_n d12_ifHeComes_2 rfl ?_
          refine g_imulN d12_ifHeComes_3 ?_
          refine g_iload_n d12_ifHeComes_4 rfl ?_
          refine g_iaddN d12_ifHeComes_5 ?_
          refine g_istore d12_ifHeComes_6 (by decide) ?_
          refine g_iload d12_ifHeComes_8 rfl ?_
          refine g_iz_gt ((paid : Nat) : Int) 23 (nI_ti (by omega)) d12_ifHeComes_10 rfl (fun c10 => absurd c10 (by omega)) (fun _ => ?_)
          refine g_aload_n d12_ifHeComes_13 rfl ?_
          refine g_get fl12_92 d12_ifHeComes_14 f_74_40 ?_
          refine g_iload d12_ifHeComes_17 rfl ?_
          refine g_zaldN (((13 * s) + k)) d12_ifHeComes_19 a_93 (rfl) (by omega) (by decide) ?_
          refine g_topI (nI 0) (by rw [hsb, if_neg hs1]; rfl) ?_
          refine g_iz_eq ((0 : Nat) : Int) 41 (nI_ti (by omega)) d12_ifHeComes_20 rfl (fun _ => ?_) (fun c20 => absurd c20 (by decide))
          refine g_lload d12_ifHeComes_41 rfl ?_
          refine g_aload_n d12_ifHeComes_43 rfl ?_
          refine g_get fl12_89 d12_ifHeComes_44 f_74_39 ?_
          refine g_iload d12_ifHeComes_47 rfl ?_
          refine g_ialdN (((13 * s) + k)) d12_ifHeComes_49 a_92 (rfl) (by omega) (by decide) ?_
          refine g_topI (nI f) (hf) ?_
          refine g_i2lN (by omega) d12_ifHeComes_50 ?_
          refine g_lmul d12_ifHeComes_51 ?_
          refine g_topL (lN (w * f)) (lN_mul _ _) ?_
          refine g_aload_n d12_ifHeComes_52 rfl ?_
          refine g_get fl12_104 d12_ifHeComes_53 f_74_47 ?_
          refine g_iload_n d12_ifHeComes_56 rfl ?_
          refine g_iconstv (nI 1) d12_ifHeComes_57 rfl ?_
          refine g_iaddN d12_ifHeComes_58 ?_
          refine g_iconstv (nI 1) d12_ifHeComes_59 rfl ?_
          refine g_iconstv (nI 0) d12_ifHeComes_60 rfl ?_
          refine g_ES3 sm12_runAt ml12_461 (r12_runAt ((s + 1)) (1) (0) (Nat.le_refl 0)) (by omega) (Nat.le_of_ble_eq_true rfl) d12_ifHeComes_61 ?_
          refine g_laldN ((169 * (s + 1) + 13 * 1 + 0)) d12_ifHeComes_64 a_97 (rfl) (by omega) (by decide) ?_
          refine g_topL (lN (nx 0)) (hnx 0 (by omega)) ?_
          refine g_ladd d12_ifHeComes_65 ?_
          refine g_topL (lN (w * f + nx 0)) (lN_add _ _) ?_
          refine g_lstore d12_ifHeComes_66 (by decide) ?_
          refine g_lload d12_ifHeComes_68 rfl ?_
          refine g_aload_n d12_ifHeComes_70 rfl ?_
          refine g_iconstv (nI 0) d12_ifHeComes_71 rfl ?_
          refine g_EV1 vm12_term ml12_378 c_74 (r12_term (0) (by omega) (Nat.le_refl 0)) (by omega) (Nat.le_of_ble_eq_true rfl) d12_ifHeComes_72 ?_
          refine g_topI (nI coin) (hco) ?_
          refine g_aload_n d12_ifHeComes_75 rfl ?_
          refine g_iload_n d12_ifHeComes_76 rfl ?_
          refine g_iconstv (nI 3) d12_ifHeComes_77 rfl ?_
          refine g_EV2 vm12_ofCar ml12_167 c_74 (r12_ofCar (c) (3) (by omega) (by omega) (Nat.le_refl 0)) (by omega) (Nat.le_of_ble_eq_true rfl) d12_ifHeComes_78 ?_
          refine g_topI (nI fl) (q3) ?_
          refine g_iaddN d12_ifHeComes_81 ?_
          refine g_i2lN (by omega) d12_ifHeComes_82 ?_
          refine g_lmul d12_ifHeComes_83 ?_
          refine g_topL (lN (w * (coin + fl))) (lN_mul _ _) ?_
          refine g_aload_n d12_ifHeComes_84 rfl ?_
          refine g_get fl12_104 d12_ifHeComes_85 f_74_47 ?_
          refine g_iload_n d12_ifHeComes_88 rfl ?_
          refine g_iconstv (nI 1) d12_ifHeComes_89 rfl ?_
          refine g_iaddN d12_ifHeComes_90 ?_
          refine g_iconstv (nI 1) d12_ifHeComes_91 rfl ?_
          refine g_aload_n d12_ifHeComes_92 rfl ?_
          refine g_iconstv (nI 1) d12_ifHeComes_93 rfl ?_
          refine g_EV1 vm12_term ml12_378 c_74 (r12_term (1) (by omega) (Nat.le_refl 0)) (by omega) (Nat.le_of_ble_eq_true rfl) d12_ifHeComes_94 ?_
          refine g_topI (nI per) (hpe) ?_
          refine g_ES1 sm12_less ml12_427 (r12_less (per) (by omega) (Nat.le_refl 0)) (by omega) (Nat.le_of_ble_eq_true rfl) d12_ifHeComes_97 ?_
          refine g_ES3 sm12_runAt ml12_461 (r12_runAt ((s + 1)) (1) ((les (per))) (Nat.le_refl 0)) (by omega) (Nat.le_of_ble_eq_true rfl) d12_ifHeComes_100 ?_
          refine g_laldN ((169 * (s + 1) + 13 * 1 + (les (per)))) d12_ifHeComes_103 a_97 (rfl) (by omega) (by decide) ?_
          refine g_topL (lN (nx (les per))) (hnx _ (by omega)) ?_
          refine g_ladd d12_ifHeComes_104 ?_
          refine g_topL (lN (w * (coin + fl) + nx (les per))) (lN_add _ _) ?_
          refine g_lstore d12_ifHeComes_105 (by decide) ?_
          refine g_iload d12_ifHeComes_107 rfl ?_
          refine g_iz_eq 1 125 (rfl) d12_ifHeComes_109 rfl (fun c109 => absurd c109 (by decide)) (fun _ => ?_)
          refine g_lload d12_ifHeComes_112 rfl ?_
          refine g_lload d12_ifHeComes_114 rfl ?_
          refine g_lx_ge ((w * (coin + fl) + nx (les per) : Nat) : Int) ((w * f + nx 0 : Nat) : Int) 125 (pk_lT (by omega)) (pk_lT (by omega)) d12_ifHeComes_116 d12_ifHeComes_117 rfl (fun _ => ?_) (fun c116 => absurd c116 (by omega))
          refine g_lload d12_ifHeComes_125 rfl ?_
          exact g_lret rfl d12_ifHeComes_127 (⟨congrArg (fun z => some (Value.long z)) (by rw [e2]), rfl⟩)
