set_option maxHeartbeats 800000 in
theorem r12_fr3 {l : Launch} {K : cK} {d : Nat} {I : wI} {L : wL} {R : wR} {dy : cH} {Q : Option Value → cH → Prop} (coin per c fr ti se fl : Nat) (hC : CF I c fr ti se fl) (hco : I 76 6 = nI coin) (hc9 : coin ≤ 9) (hpe : I 76 7 = nI per) (hp4 : per ≤ 4) (wn : Bool) (cm fn : Nat → Nat → Nat) (sb : Nat → Nat → Bool) (hcm : ∀ s k, cm s k ≤ 10) (hfn : ∀ s k, fn s k ≤ 99) (hcs : ∀ s, fr ≤ s → s < ti + 1 → ∀ k, 1 ≤ k → k ≤ 12 → I 90 (13 * s + k) = nI (cm s k) ∧ I 92 (13 * s + k) = nI (fn s k) ∧ I 93 (13 * s + k) = if sb s k = true then 1 else 0) (m : Nat) (hm : m ≤ 11) (hmt : fr + m ≤ ti) (hd : 2 ≤ d) (J : wI) (M : wL) (hnx : ∀ j q, 1 ≤ j → j ≤ 12 → q ≤ 12 → M 97 (169 * (ti - m + 1) + 13 * j + q) = lN (rD coin per fr ti fl wn cm fn sb m j q))
    (kk : ∀ (I3 : wI) (L3 : wL), (1 ≤ 13) → (FR [98] [] [97] [] I L I3 L3) → (∀ j, 1 ≤ j → j < 13 → ∀ q, q ≤ 12 → L3 97 (169 * (ti - m) + 13 * j + q) = lN (rD coin per fr ti fl wn cm fn sb (m + 1) j q) ∧ I3 98 (169 * (ti - m) + 13 * j + q) = nI (rB2 coin per fr ti fl wn cm fn sb m j q)) → (∀ q, 169 * (ti - m + 1) ≤ q → L3 97 q = M 97 q ∧ I3 98 q = J 98 q) → GL l K m12_findRun d 0 0 273 [(0, .ref 74), (1, .int (nI (c))), (2, .int (if wn = true then 1 else 0)), (3, .int (nI (ti))), (4, .int (nI (ti - m))), (5, .long (lN (10 ^ m)))] [] (hp I3 L3 R dy) Q) :
    ∀ (n k : Nat) (I2 : wI) (L2 : wL), k + n = 13 → (1 ≤ k) → (FR [98] [] [97] [] I L I2 L2) → (∀ j, 1 ≤ j → j < k → ∀ q, q ≤ 12 → L2 97 (169 * (ti - m) + 13 * j + q) = lN (rD coin per fr ti fl wn cm fn sb (m + 1) j q) ∧ I2 98 (169 * (ti - m) + 13 * j + q) = nI (rB2 coin per fr ti fl wn cm fn sb m j q)) → (∀ q, 169 * (ti - m + 1) ≤ q → L2 97 q = M 97 q ∧ I2 98 q = J 98 q) → GL l K m12_findRun d 0 0 66 [(0, .ref 74), (1, .int (nI (c))), (2, .int (if wn = true then 1 else 0)), (3, .int (nI (ti))), (4, .int (nI (ti - m))), (5, .long (lN (10 ^ m))), (7, .int (nI (k)))] [] (hp I2 L2 R dy) Q := by
  obtain ⟨hc6, q0, q1, -, q3, hft, ht11, -, hfl⟩ := id hC
  intro n
  induction n with
  | zero =>
    intro k I2 L2 hin hk1 hF hdn hot
    obtain rfl : k = 13 := by omega
    refine g_iload d12_findRun_66 rfl ?_
    refine g_bipushv (nI 13) d12_findRun_68 rfl ?_
    refine g_ic_ge ((13 : Nat) : Int) (13) 273 (nI_ti (by omega)) (by decide) d12_findRun_70 rfl (fun _ => ?_) (fun c70 => absurd c70 (by decide))
    refine g_lo [(0, .ref 74), (1, .int (nI (c))), (2, .int (if wn = true then 1 else 0)), (3, .int (nI (ti))), (4, .int (nI (ti - m))), (5, .long (lN (10 ^ m)))] ⟨rfl, rfl, rfl, rfl, rfl, rfl, trivial⟩ ?_
    exact kk I2 L2 hk1 hF hdn hot
  | succ n ih =>
    intro k I2 L2 hin hk1 hF hdn hot
    refine g_iload d12_findRun_66 rfl ?_
    refine g_bipushv (nI 13) d12_findRun_68 rfl ?_
    refine g_ic_ge ((k : Nat) : Int) (13) 273 (nI_ti (by omega)) (by decide) d12_findRun_70 rfl (fun c70 => absurd c70 (by omega)) (fun _ => ?_)
    refine g_aload_n d12_findRun_73 rfl ?_
    refine g_get fl12_83 d12_findRun_74 f_74_37 ?_
    refine g_bipushv (nI 13) d12_findRun_77 rfl ?_
    refine g_iload d12_findRun_79 rfl ?_
    refine g_imulN d12_findRun_81 ?_
    refine g_iload d12_findRun_82 rfl ?_
    refine g_iaddN d12_findRun_84 ?_
    refine g_ialdN (((13 * (ti - m)) + k)) d12_findRun_85 a_90 (rfl) (by omega) (by decide) ?_
    refine g_topI (nI (cm (ti - m) k)) ((congrFun (hF.1 90 (by decide) (by decide)) _).trans (hcs (ti - m) (by omega) (by omega) k hk1 (by omega)).1) ?_
    refine g_istore d12_findRun_86 (by decide) ?_
    refine g_iconstv (nI 0) d12_findRun_88 rfl ?_
    refine g_istore d12_findRun_89 (by decide) ?_
    refine g_lo [(0, .ref 74), (1, .int (nI (c))), (2, .int (if wn = true then 1 else 0)), (3, .int (nI (ti))), (4, .int (nI (ti - m))), (5, .long (lN (10 ^ m))), (7, .int (nI (k))), (8, .int (nI (cm (ti - m) k))), (9, .int (nI (0)))] ⟨rfl, rfl, rfl, rfl, rfl, rfl, rfl, rfl, rfl, trivial⟩ ?_
    refine r12_fr2 coin per c fr ti se fl hC hco hc9 hpe hp4 wn cm fn sb hcm hfn hcs m k hm hmt hk1 (by omega) hd I2 L2 (fun j q h1 h2 h3 => ((hot _ (by omega)).1).trans (hnx j q h1 h2 h3)) (fun I3 L3 hF3 hr3 ho3 => ?_) 13 0 I2 L2 (by omega) hF (fun q hq => by omega) (fun q hq => ⟨rfl, rfl⟩)
    refine g_iincN d12_findRun_267 rfl (by decide) ?_
    refine g_goto 66 d12_findRun_270 rfl ?_
    refine g_lo [(0, .ref 74), (1, .int (nI (c))), (2, .int (if wn = true then 1 else 0)), (3, .int (nI (ti))), (4, .int (nI (ti - m))), (5, .long (lN (10 ^ m))), (7, .int (nI (k + 1)))] ⟨rfl, rfl, rfl, rfl, rfl, rfl, rfl, trivial⟩ ?_
    refine ih (k + 1) I3 L3 (by omega) (by omega) hF3 (fun j h1 h2 q hq => ?_) (fun q hq => ?_)
    · by_cases e : j = k
      · subst e; exact hr3 q (by omega)
      · rw [(ho3 _ (by omega)).1, (ho3 _ (by omega)).2]; exact hdn j h1 (by omega) q hq
    · rw [(ho3 _ (by omega)).1, (ho3 _ (by omega)).2]; exact hot q hq
set_option maxHeartbeats 800000 in
theorem r12_fr4 {l : Launch} {K : cK} {d : Nat} {I : wI} {L : wL} {R : wR} {dy : cH} {Q : Option Value → cH → Prop} (coin per c fr ti se fl : Nat) (hC : CF I c fr ti se fl) (hco : I 76 6 = nI coin) (hc9 : coin ≤ 9) (hpe : I 76 7 = nI per) (hp4 : per ≤ 4) (wn : Bool) (cm fn : Nat → Nat → Nat) (sb : Nat → Nat → Bool) (hcm : ∀ s k, cm s k ≤ 10) (hfn : ∀ s k, fn s k ≤ 99) (hcs : ∀ s, fr ≤ s → s < ti + 1 → ∀ k, 1 ≤ k → k ≤ 12 → I 90 (13 * s + k) = nI (cm s k) ∧ I 92 (13 * s + k) = nI (fn s k) ∧ I 93 (13 * s + k) = if sb s k = true then 1 else 0) (hd : 2 ≤ d)
    (kk : ∀ (I3 : wI) (L3 : wL), FR [98] [] [97] [] I L I3 L3 → ((∀ m2, m2 ≤ (ti + 1 - fr) → ∀ j q, 1 ≤ j → j ≤ 12 → q ≤ 12 → L3 97 (169 * (ti + 1 - m2) + 13 * j + q) = lN (rD coin per fr ti fl wn cm fn sb m2 j q)) ∧ ∀ m2, m2 < (ti + 1 - fr) → ∀ j q, 1 ≤ j → j ≤ 12 → q ≤ 12 → I3 98 (169 * (ti - m2) + 13 * j + q) = nI (rB2 coin per fr ti fl wn cm fn sb m2 j q)) → GL l K m12_findRun d 0 0 279 [(0, .ref 74)] [] (hp I3 L3 R dy) Q) :
    ∀ (n m : Nat) (x : Int32) (I2 : wI) (L2 : wL), m + n = ti + 1 - fr → x.toInt = (ti : Int) - m → FR [98] [] [97] [] I L I2 L2 → ((∀ m2, m2 ≤ m → ∀ j q, 1 ≤ j → j ≤ 12 → q ≤ 12 → L2 97 (169 * (ti + 1 - m2) + 13 * j + q) = lN (rD coin per fr ti fl wn cm fn sb m2 j q)) ∧ ∀ m2, m2 < m → ∀ j q, 1 ≤ j → j ≤ 12 → q ≤ 12 → I2 98 (169 * (ti - m2) + 13 * j + q) = nI (rB2 coin per fr ti fl wn cm fn sb m2 j q)) →
    GL l K m12_findRun d 0 0 43 [(0, .ref 74), (1, .int (nI c)), (2, .int (if wn = true then 1 else 0)), (3, .int (nI ti)), (4, .int x)] [] (hp I2 L2 R dy) Q := by
  obtain ⟨hc6, q0, q1, -, q3, hft, ht11, -, hfl⟩ := id hC
  intro n
  induction n with
  | zero =>
    intro m x I2 L2 hm hx hF hdn
    obtain rfl : m = ti + 1 - fr := by omega
    refine g_iload d12_findRun_43 rfl ?_
    refine g_aload_n d12_findRun_45 rfl ?_
    refine g_iload_n d12_findRun_46 rfl ?_
    refine g_iconstv (nI 0) d12_findRun_47 rfl ?_
    refine g_EV2 vm12_ofCar ml12_167 c_74 (r12_ofCar (c) (0) (by omega) (by omega) (Nat.le_refl 0)) (by omega) (Nat.le_of_ble_eq_true rfl) d12_findRun_48 ?_
    refine g_topI (nI fr) ((congrFun (hF.1 76 (by decide) (by decide)) _).trans q0) ?_
    refine g_ic_lt _ ((fr : Nat) : Int) 279 (rfl) (nI_ti (by omega)) d12_findRun_51 rfl (fun _ => ?_) (fun c51 => absurd c51 (by omega))
    refine g_lo [(0, .ref 74)] ⟨rfl, trivial⟩ ?_
    exact kk I2 L2 hF hdn
  | succ n ih =>
    intro m x I2 L2 hm hx hF hdn
    obtain rfl : x = nI (ti - m) := of_ti (by omega) (by omega)
    refine g_iload d12_findRun_43 rfl ?_
    refine g_aload_n d12_findRun_45 rfl ?_
    refine g_iload_n d12_findRun_46 rfl ?_
    refine g_iconstv (nI 0) d12_findRun_47 rfl ?_
    refine g_EV2 vm12_ofCar ml12_167 c_74 (r12_ofCar (c) (0) (by omega) (by omega) (Nat.le_refl 0)) (by omega) (Nat.le_of_ble_eq_true rfl) d12_findRun_48 ?_
    refine g_topI (nI fr) ((congrFun (hF.1 76 (by decide) (by decide)) _).trans q0) ?_
    refine g_ic_lt (((ti - m) : Nat) : Int) ((fr : Nat) : Int) 279 (nI_ti (by omega)) (nI_ti (by omega)) d12_findRun_51 rfl (fun c51 => absurd c51 (by omega)) (fun _ => ?_)
    refine g_iload_n d12_findRun_54 rfl ?_
    refine g_iload d12_findRun_55 rfl ?_
    refine g_isubN (by omega) d12_findRun_57 ?_
    refine g_topI (nI m) (congrArg nI (by omega)) ?_
    refine g_ES1 sm12_power ml12_464 (r12_power (m) (by omega) (Nat.le_refl 0)) (by omega) (Nat.le_of_ble_eq_true rfl) d12_findRun_58 ?_
    refine g_lstore d12_findRun_61 (by decide) ?_
    refine g_iconstv (nI 1) d12_findRun_63 rfl ?_
    refine g_istore d12_findRun_64 (by decide) ?_
    refine g_lo [(0, .ref 74), (1, .int (nI (c))), (2, .int (if wn = true then 1 else 0)), (3, .int (nI (ti))), (4, .int (nI (ti - m))), (5, .long (lN (10 ^ m))), (7, .int (nI (1)))] ⟨rfl, rfl, rfl, rfl, rfl, rfl, rfl, trivial⟩ ?_
    refine r12_fr3 coin per c fr ti se fl hC hco hc9 hpe hp4 wn cm fn sb hcm hfn hcs m (by omega) (by omega) hd I2 L2 (fun j q h1 h2 hq => by have := hdn.1 m (Nat.le_refl _) j q h1 h2 hq; rw [show ti - m + 1 = ti + 1 - m by omega]; exact this) (fun I3 L3 _ hF3 hr3 ho3 => ?_) 12 1 I2 L2 (by omega) (by omega) hF (fun j h1 h2 => by omega) (fun q hq => ⟨rfl, rfl⟩)
    refine g_iinc (_) d12_findRun_273 rfl (rfl) (by decide) ?_
    refine g_goto 43 d12_findRun_276 rfl ?_
    refine g_lo [(0, .ref 74), (1, .int (nI c)), (2, .int (if wn = true then 1 else 0)), (3, .int (nI ti)), (4, .int (nI (ti - m) + Int32.ofInt (-1)))] ⟨rfl, rfl, rfl, rfl, rfl, trivial⟩ ?_
    refine ih (m + 1) _ I3 L3 (by omega) (by rw [dec_ti (by omega)]; omega) hF3 ⟨fun m2 h2 j q h3 h4 hq => ?_, fun m2 h2 j q h3 h4 hq => ?_⟩
    · by_cases e : m2 = m + 1
      · subst e; rw [show ti + 1 - (m + 1) = ti - m by omega]; exact (hr3 j h3 (by omega) q (by omega)).1
      · rw [(ho3 _ (by omega)).1]; exact hdn.1 m2 (by omega) j q h3 h4 hq
    · by_cases e : m2 = m
      · subst e; exact (hr3 j h3 (by omega) q (by omega)).2
      · rw [(ho3 _ (by omega)).2]; exact hdn.2 m2 (by omega) j q h3 h4 hq
set_option maxHeartbeats 400000 in
theorem r12_fr0 {l : Launch} {K : cK} {d : Nat} {I : wI} {L : wL} {R : wR} {dy : cH} {Q : Option Value → cH → Prop} (c ti : Nat) (wn : Bool) (ht11 : ti ≤ 11)
    (kk : ∀ (L3 : wL), (FR [98] [] [97] [] I L I L3) → (∀ q, q < 169 → L3 97 (169 * (ti + 1) + q) = 0) → GL l K m12_findRun d 0 0 40 [(0, .ref 74), (1, .int (nI (c))), (2, .int (if wn = true then 1 else 0)), (3, .int (nI (ti)))] [] (hp I L3 R dy) Q) :
    ∀ (n k : Nat) (L2 : wL), k + n = 169 → (FR [98] [] [97] [] I L I L2) → (∀ q, q < k → L2 97 (169 * (ti + 1) + q) = 0) → GL l K m12_findRun d 0 0 10 [(0, .ref 74), (1, .int (nI (c))), (2, .int (if wn = true then 1 else 0)), (3, .int (nI (ti))), (4, .int (nI (k)))] [] (hp I L2 R dy) Q := by
  intro n
  induction n with
  | zero =>
    intro k L2 hin hF hz
    obtain rfl : k = 169 := by omega
    refine g_iload d12_findRun_10 rfl ?_
    refine g_sipushv (nI 169) d12_findRun_12 rfl ?_
    refine g_ic_ge ((169 : Nat) : Int) (169) 40 (nI_ti (by omega)) (by decide) d12_findRun_15 rfl (fun _ => ?_) (fun c15 => absurd c15 (by decide))
    refine g_lo [(0, .ref 74), (1, .int (nI (c))), (2, .int (if wn = true then 1 else 0)), (3, .int (nI (ti)))] ⟨rfl, rfl, rfl, rfl, trivial⟩ ?_
    exact kk L2 hF hz
  | succ n ih =>
    intro k L2 hin hF hz
    refine g_iload d12_findRun_10 rfl ?_
    refine g_sipushv (nI 169) d12_findRun_12 rfl ?_
    refine g_ic_ge ((k : Nat) : Int) (169) 40 (nI_ti (by omega)) (by decide) d12_findRun_15 rfl (fun c15 => absurd c15 (by omega)) (fun _ => ?_)
    refine g_aload_n d12_findRun_18 rfl ?_
    refine g_get fl12_104 d12_findRun_19 f_74_47 ?_
    refine g_sipushv (nI 169) d12_findRun_22 rfl ?_
    refine g_iload_n d12_findRun_25 rfl ?_
    refine g_iconstv (nI 1) d12_findRun_26 rfl ?_
    refine g_iaddN d12_findRun_27 ?_
    refine g_imulN d12_findRun_28 ?_
    refine g_iload d12_findRun_29 rfl ?_
    refine g_iaddN d12_findRun_31 ?_
    refine g_lconstv (0) d12_findRun_32 rfl ?_
    refine g_lastN (((169 * (ti + 1)) + k)) _ d12_findRun_33 a_97 (rfl) (by omega) (by decide) t_97 ?_
    refine g_iincN d12_findRun_34 rfl (by decide) ?_
    refine g_goto 10 d12_findRun_37 rfl ?_
    refine g_lo [(0, .ref 74), (1, .int (nI (c))), (2, .int (if wn = true then 1 else 0)), (3, .int (nI (ti))), (4, .int (nI (k + 1)))] ⟨rfl, rfl, rfl, rfl, rfl, trivial⟩ ?_
    refine ih (k + 1) _ (by omega) (hF.ul (by decide) (by decide)) (fun q hq => ?_)
    by_cases e : q = k
    · subst e; exact uL_ss
    · rw [uL_sn (by omega)]; exact hz q (by omega)
theorem r12_findRun {l : Launch} {K : cK} {d : Nat} {I : wI} {L : wL} {R : wR} {dy : cH} (coin per c fr ti se fl : Nat) (hC : CF I c fr ti se fl) (hco : I 76 6 = nI coin) (hc9 : coin ≤ 9) (hpe : I 76 7 = nI per) (hp4 : per ≤ 4) (wn : Bool) (cm fn : Nat → Nat → Nat) (sb : Nat → Nat → Bool) (hcm : ∀ s k, cm s k ≤ 10) (hfn : ∀ s k, fn s k ≤ 99) (hcs : ∀ s, fr ≤ s → s < ti + 1 → ∀ k, 1 ≤ k → k ≤ 12 → I 90 (13 * s + k) = nI (cm s k) ∧ I 92 (13 * s + k) = nI (fn s k) ∧ I 93 (13 * s + k) = if sb s k = true then 1 else 0) (hd : 2 ≤ d) : CW l K m12_findRun d [.ref 74, .int (nI c), .int (if wn = true then 1 else 0)] (hp I L R dy) (α := wI × wL) (fun x => FR [98] [] [97] [] I L x.1 x.2 ∧ (∀ m2, m2 ≤ (ti + 1 - fr) → ∀ j q, 1 ≤ j → j ≤ 12 → q ≤ 12 → x.2 97 (169 * (ti + 1 - m2) + 13 * j + q) = lN (rD coin per fr ti fl wn cm fn sb m2 j q)) ∧ ∀ m2, m2 < (ti + 1 - fr) → ∀ j q, 1 ≤ j → j ≤ 12 → q ≤ 12 → x.1 98 (169 * (ti - m2) + 13 * j + q) = nI (rB2 coin per fr ti fl wn cm fn sb m2 j q)) (fun x => hp x.1 x.2 R dy) := by
  obtain ⟨hc6, q0, q1, -, q3, hft, ht11, -, hfl⟩ := id hC
  refine CC.of ok12_findRun (Nat.le_of_ble_eq_true rfl) ?_
  refine g_aload_n d12_findRun_0 rfl ?_
  refine g_iload_n d12_findRun_1 rfl ?_
  refine g_iconstv (nI 1) d12_findRun_2 rfl ?_
  refine g_EV2 vm12_ofCar ml12_167 c_74 (r12_ofCar (c) (1) (by omega) (by omega) (Nat.le_refl 0)) (by omega) (Nat.le_of_ble_eq_true rfl) d12_findRun_3 ?_
  refine g_topI (nI ti) (q1) ?_
  refine g_istore_n d12_findRun_6 (by decide) ?_
  refine g_iconstv (nI 0) d12_findRun_7 rfl ?_
  refine g_istore d12_findRun_8 (by decide) ?_
  refine g_lo [(0, .ref 74), (1, .int (nI (c))), (2, .int (if wn = true then 1 else 0)), (3, .int (nI (ti))), (4, .int (nI (0)))] ⟨rfl, rfl, rfl, rfl, rfl, trivial⟩ ?_
  refine r12_fr0 c ti wn ht11 (fun L3 hF3 hz3 => ?_) 169 0 L (by omega) FR.rf (fun q hq => by omega)
  refine g_iload_n d12_findRun_40 rfl ?_
  refine g_istore d12_findRun_41 (by decide) ?_
  refine g_lo [(0, .ref 74), (1, .int (nI (c))), (2, .int (if wn = true then 1 else 0)), (3, .int (nI (ti))), (4, .int (nI (ti)))] ⟨rfl, rfl, rfl, rfl, rfl, trivial⟩ ?_
  refine r12_fr4 coin per c fr ti se fl hC hco hc9 hpe hp4 wn cm fn sb hcm hfn hcs hd (fun I4 L4 hF4 hd4 => ?_) (ti + 1 - fr) 0 _ I L3 (by omega) (by rw [nI_ti (by omega)]; omega) hF3 ⟨fun m2 h2 j q h3 h4 hq => ?_, fun m2 h2 => by omega⟩
  rotate_left
  · obtain rfl : m2 = 0 := by omega
    rw [show 169 * (ti + 1 - 0) + 13 * j + q = 169 * (ti + 1) + (13 * j + q) by omega]; exact hz3 _ (by omega)
  exact g_vret rfl d12_findRun_279 (⟨(I4, L4), ⟨hF4, hd4⟩, rfl, rfl⟩)
