theorem fa_stop (v : Nat → Nat) (c : Nat) : ∀ m, (∀ n, c < n → n ≤ c + m → (fa v c).1 < v n) → fa v (c + m) = fa v c
  | 0, _ => rfl
  | m + 1, h => by
    have ih := fa_stop v c m (fun n a b => h n a (by omega))
    have h1 := h (c + m + 1) (by omega) (by omega)
    show (if v (c + m + 1) < (fa v (c + m)).1 then _ else if v (c + m + 1) = (fa v (c + m)).1 then _ else fa v (c + m)) = _
    rw [ih, if_neg (by omega), if_neg (by omega)]
theorem fa_zero (v : Nat → Nat) (h : v 0 = 0) : ∀ n, (fa v n).1 = 0 := fun n => by
  have := (fa_le v n).1; omega
theorem pdb_mono {per left n m : Nat} (h : n ≤ m) : pdb per left n ≤ pdb per left m := by
  unfold pdb
  have := Nat.mul_le_mul_right per h
  omega
theorem dD_zero (coin per fr ti fl : Nat) (mf : Nat → Nat) : ∀ m left, m ≤ 12 → m ≤ left → dD coin per fr ti fl mf m left = 0
  | 0, _, _, _ => rfl
  | m + 1, left, h1, h2 => by
    show (fa (dc1 coin per fr fl mf (dD coin per fr ti fl mf m) (ti - m) left) 12).1 = 0
    refine fa_zero _ ?_ 12
    have e : pdb per left 0 = min 12 left := by unfold pdb; rw [Nat.zero_mul]; rfl
    unfold dc1
    rw [e, if_pos (by omega), dD_zero coin per fr ti fl mf m _ (by omega) (by unfold les; omega)]
    unfold prc
    simp
theorem prc_lt {coin fr fl s n m : Nat} (h : n < m) (hc : 1 ≤ coin) : prc coin fr fl s n < prc coin fr fl s m := by
  unfold prc
  have h1 : n * coin + coin ≤ m * coin := by rw [← Nat.succ_mul]; exact Nat.mul_le_mul_right coin h
  by_cases a : 0 < n ∧ fr < s
  · rw [if_pos a, if_pos ⟨by omega, a.2⟩]; omega
  · rw [if_neg a]; omega
/-- more coins than to the end: none of them is better -/
theorem dc1_stop {coin per fr ti fl : Nat} {mf : Nat → Nat} {m s left n : Nat} (hc : 1 ≤ coin) (hm : m ≤ 11) (hn : n ≤ 12) (h : m < pdb per left n) : fa (dc1 coin per fr fl mf (dD coin per fr ti fl mf m) s left) 12 = fa (dc1 coin per fr fl mf (dD coin per fr ti fl mf m) s left) n := by
  have hv : ∀ q, n ≤ q → dc1 coin per fr fl mf (dD coin per fr ti fl mf m) s left q = 1000000000000 * prc coin fr fl s q := fun q hq => by
    have := pdb_mono (per := per) (left := left) hq
    unfold dc1
    rw [if_pos (by omega), dD_zero coin per fr ti fl mf m _ (by omega) (by unfold les; omega)]; rfl
  have z := fa_stop (dc1 coin per fr fl mf (dD coin per fr ti fl mf m) s left) n (12 - n) (fun q a b => by
    have h1 := (fa_at (dc1 coin per fr fl mf (dD coin per fr ti fl mf m) s left) n).2 n (Nat.le_refl _)
    have h2 := prc_lt (fr := fr) (fl := fl) (s := s) a hc
    rw [hv n (Nat.le_refl _)] at h1
    rw [hv q (by omega)]; omega)
  rw [show n + (12 - n) = 12 by omega] at z
  exact z
theorem dc1_p {coin per fr fl s left n : Nat} {mf nx : Nat → Nat} (h : 0 < pdb per left n) : 1000000000000 * prc coin fr fl s n + 0 + nx (les (pdb per left n)) = dc1 coin per fr fl mf nx s left n := by unfold dc1; rw [if_pos h]
theorem dc1_z {coin per fr fl s left n : Nat} {mf nx : Nat → Nat} (h : ¬ 0 < pdb per left n) : 1000000000000 * prc coin fr fl s n + mf s + nx (les (pdb per left n)) = dc1 coin per fr fl mf nx s left n := by unfold dc1; rw [if_neg h]
theorem mx_les {p : Nat} (h : p ≤ 12) : (if nI 0 < nI p - nI 1 then nI p - nI 1 else nI 0) = nI (les p) := by
  unfold les
  cases p with
  | zero => rfl
  | succ p =>
    rw [pk_sub (by omega), show p + 1 - 1 = p by omega]
    by_cases q : 0 < p
    · rw [if_pos (by rw [i_lt, nI_ti (by omega), nI_ti (by omega)]; omega)]
    · rw [if_neg (by rw [i_lt, nI_ti (by omega), nI_ti (by omega)]; omega), show p = 0 by omega]
set_option maxHeartbeats 800000 in
theorem r0_chE {l : Launch} {K : cK} {d : Nat} {I : wI} {L : wL} {R : wR} {dy : cH} (td ta : Nat → Nat) (c fr ti se fl coin per fine : Nat) (hS : STA I c fr ti se fl coin per fine) (hc1 : 1 ≤ coin) (mf : Nat → Nat) (hmf : mf = fun s => td s + ta s * fine) (hml : ∀ s, mf s ≤ 99000000000000) (hTF : TFs L td ta fr ti) (m s left : Nat) (hms : s + m = ti) (hfs : fr ≤ s) (hl : left ≤ 12) (hnx : ∀ q, q ≤ 12 → L 35 ((s + 1) * 13 + q) = lN (dD coin per fr ti fl mf m q)) (n : Nat) (hn : n ≤ 12) (hd : 2 ≤ d) (kk : ¬ m < pdb per left n → GL l K m0_chooseAhead d 0 0 52 [(0, .ref 29), (1, .int (nI s)), (2, .int (nI left)), (3, .long (lN (mf s))), (5, .int (nI (s * 13 + left))), (6, .int (nI (n + 1)))] [] (hp (uI I 36 (s * 13 + left) (nI (fa (dc1 coin per fr fl mf (dD coin per fr ti fl mf m) s left) (n)).2.1)) (uL L 35 (s * 13 + left) (lN (fa (dc1 coin per fr fl mf (dD coin per fr ti fl mf m) s left) (n)).1)) R dy) (fun r h => r = none ∧ h = hp (uI I 36 (s * 13 + left) (nI (fa (dc1 coin per fr fl mf (dD coin per fr ti fl mf m) s left) (12)).2.1)) (uL L 35 (s * 13 + left) (lN (fa (dc1 coin per fr fl mf (dD coin per fr ti fl mf m) s left) (12)).1)) R dy)) : GL l K m0_chooseAhead d 0 0 156 [(0, .ref 29), (1, .int (nI s)), (2, .int (nI left)), (3, .long (lN (mf s))), (5, .int (nI (s * 13 + left))), (6, .int (nI (n))), (7, .int (nI (pdb per left n)))] [] (hp (uI I 36 (s * 13 + left) (nI (fa (dc1 coin per fr fl mf (dD coin per fr ti fl mf m) s left) (n)).2.1)) (uL L 35 (s * 13 + left) (lN (fa (dc1 coin per fr fl mf (dD coin per fr ti fl mf m) s left) (n)).1)) R dy) (fun r h => r = none ∧ h = hp (uI I 36 (s * 13 + left) (nI (fa (dc1 coin per fr fl mf (dD coin per fr ti fl mf m) s left) (12)).2.1)) (uL L 35 (s * 13 + left) (lN (fa (dc1 coin per fr fl mf (dD coin per fr ti fl mf m) s left) (12)).1)) R dy) := by
  obtain ⟨u0, u1, u2, u3, u4, u5, u6, u7, u8, u9, u10, u11, u12, u13, u14, u15⟩ := id hS
  have hS2 : STA (uI I 36 (s * 13 + left) (nI (fa (dc1 coin per fr fl mf (dD coin per fr ti fl mf m) s left) n).2.1)) c fr ti se fl coin per fine := hS.of (uI_n (by decide))
  have hpb := pdb_le per left n
  by_cases he : m < pdb per left n
  · rw [dc1_stop hc1 (by omega) hn he]
    refine g_aload_n d0_chooseAhead_156 rfl ?_
    refine g_get fl0_42 d0_chooseAhead_157 f_29_1 ?_
    refine g_iload_n d0_chooseAhead_160 rfl ?_
    refine g_iload d0_chooseAhead_161 rfl ?_
    refine g_EV2 vm7_paidToTheEnd ml0_106 c_28 (r7_end (I := uI I 36 (s * 13 + left) (nI (fa (dc1 coin per fr fl mf (dD coin per fr ti fl mf m) s left) n).2.1)) (L := uL L 35 (s * 13 + left) (lN (fa (dc1 coin per fr fl mf (dD coin per fr ti fl mf m) s left) n).1)) c fr ti se fl coin per fine hS2 s (pdb per left n) (by omega) hpb (Nat.le_refl 0)) (by omega) (Nat.le_of_ble_eq_true rfl) d0_chooseAhead_163 ?_
    refine g_bz 172 d0_chooseAhead_166 rfl (fun c166 => absurd (by omega) c166) (fun _ => ?_)
    refine g_goto 178 d0_chooseAhead_169 rfl ?_
    exact g_vret rfl d0_chooseAhead_178 (⟨rfl, rfl⟩)
  · have kk := kk he
    refine g_aload_n d0_chooseAhead_156 rfl ?_
    refine g_get fl0_42 d0_chooseAhead_157 f_29_1 ?_
    refine g_iload_n d0_chooseAhead_160 rfl ?_
    refine g_iload d0_chooseAhead_161 rfl ?_
    refine g_EV2 vm7_paidToTheEnd ml0_106 c_28 (r7_end (I := uI I 36 (s * 13 + left) (nI (fa (dc1 coin per fr fl mf (dD coin per fr ti fl mf m) s left) n).2.1)) (L := uL L 35 (s * 13 + left) (lN (fa (dc1 coin per fr fl mf (dD coin per fr ti fl mf m) s left) n).1)) c fr ti se fl coin per fine hS2 s (pdb per left n) (by omega) hpb (Nat.le_refl 0)) (by omega) (Nat.le_of_ble_eq_true rfl) d0_chooseAhead_163 ?_
    refine g_bz 172 d0_chooseAhead_166 rfl (fun _ => ?_) (fun c166 => absurd c166 (by omega))
    refine g_iincN d0_chooseAhead_172 rfl (by decide) ?_
    refine g_goto 52 d0_chooseAhead_175 rfl ?_
    refine g_lo [(0, .ref 29), (1, .int (nI s)), (2, .int (nI left)), (3, .long (lN (mf s))), (5, .int (nI (s * 13 + left))), (6, .int (nI (n + 1)))] ⟨rfl, rfl, rfl, rfl, rfl, rfl, trivial⟩ ?_
    exact kk
set_option maxHeartbeats 2000000 in
theorem r0_chL {l : Launch} {K : cK} {d : Nat} {I : wI} {L : wL} {R : wR} {dy : cH} (td ta : Nat → Nat) (c fr ti se fl coin per fine : Nat) (hS : STA I c fr ti se fl coin per fine) (hc1 : 1 ≤ coin) (mf : Nat → Nat) (hmf : mf = fun s => td s + ta s * fine) (hml : ∀ s, mf s ≤ 99000000000000) (hTF : TFs L td ta fr ti) (m s left : Nat) (hms : s + m = ti) (hfs : fr ≤ s) (hl : left ≤ 12) (hnx : ∀ q, q ≤ 12 → L 35 ((s + 1) * 13 + q) = lN (dD coin per fr ti fl mf m q)) (hd : 2 ≤ d) : ∀ (j n : Nat), n + j = 12 → GL l K m0_chooseAhead d 0 0 52 [(0, .ref 29), (1, .int (nI s)), (2, .int (nI left)), (3, .long (lN (mf s))), (5, .int (nI (s * 13 + left))), (6, .int (nI (n + 1)))] [] (hp (uI I 36 (s * 13 + left) (nI (fa (dc1 coin per fr fl mf (dD coin per fr ti fl mf m) s left) (n)).2.1)) (uL L 35 (s * 13 + left) (lN (fa (dc1 coin per fr fl mf (dD coin per fr ti fl mf m) s left) (n)).1)) R dy) (fun r h => r = none ∧ h = hp (uI I 36 (s * 13 + left) (nI (fa (dc1 coin per fr fl mf (dD coin per fr ti fl mf m) s left) (12)).2.1)) (uL L 35 (s * 13 + left) (lN (fa (dc1 coin per fr fl mf (dD coin per fr ti fl mf m) s left) (12)).1)) R dy) := by
  obtain ⟨u0, u1, u2, u3, u4, u5, u6, u7, u8, u9, u10, u11, u12, u13, u14, u15⟩ := id hS
  have hprl : ∀ n, n ≤ 12 → prc coin fr fl s n ≤ 117 := fun n h => prc_le u13 u12 h
  have hvl : ∀ n, n ≤ 12 → (dc1 coin per fr fl mf (dD coin per fr ti fl mf m) s left) n < 4000000000000000000 := fun n h => dc1_lt hml u13 u12 (by omega) h
  intro j
  induction j with
  | zero =>
    intro n hn
    obtain rfl : n = 12 := by omega
    refine g_iload d0_chooseAhead_52 rfl ?_
    refine g_bipushv (nI 12) d0_chooseAhead_54 rfl ?_
    refine g_ic_gt (13) (12) 178 (by decide) (by decide) d0_chooseAhead_56 rfl (fun _ => ?_) (fun c56 => absurd c56 (by decide))
    exact g_vret rfl d0_chooseAhead_178 (⟨rfl, rfl⟩)
  | succ j ih =>
    intro n hn
    have ih := ih (n + 1) (by omega)
    have hpb := pdb_le per left (n + 1)
    have hpr := hprl (n + 1) (by omega)
    have hS2 : STA (uI I 36 (s * 13 + left) (nI (fa (dc1 coin per fr fl mf (dD coin per fr ti fl mf m) s left) n).2.1)) c fr ti se fl coin per fine := hS.of (uI_n (by decide))
    have hdl := dD_le coin per fr ti fl mf hml m (les (pdb per left (n + 1)))
    have b1 := hvl (n + 1) (by omega)
    have b2 : (fa (dc1 coin per fr fl mf (dD coin per fr ti fl mf m) s left) n).1 < 4000000000000000000 := fa_lt (dc1 coin per fr fl mf (dD coin per fr ti fl mf m) s left) n (fun q hq => hvl q (by omega))
    have hE := r0_chE (l := l) (K := K) (d := d) (I := I) (L := L) (R := R) (dy := dy) td ta c fr ti se fl coin per fine hS hc1 mf hmf hml hTF m s left hms hfs hl hnx (n + 1) (by omega) hd (fun _ => ih)
    have hfa : fa (dc1 coin per fr fl mf (dD coin per fr ti fl mf m) s left) (n + 1) = if (dc1 coin per fr fl mf (dD coin per fr ti fl mf m) s left) (n + 1) < (fa (dc1 coin per fr fl mf (dD coin per fr ti fl mf m) s left) n).1 then ((dc1 coin per fr fl mf (dD coin per fr ti fl mf m) s left) (n + 1), n + 1, 1) else if (dc1 coin per fr fl mf (dD coin per fr ti fl mf m) s left) (n + 1) = (fa (dc1 coin per fr fl mf (dD coin per fr ti fl mf m) s left) n).1 then ((fa (dc1 coin per fr fl mf (dD coin per fr ti fl mf m) s left) n).1, (fa (dc1 coin per fr fl mf (dD coin per fr ti fl mf m) s left) n).2.1, (fa (dc1 coin per fr fl mf (dD coin per fr ti fl mf m) s left) n).2.2 + 1) else fa (dc1 coin per fr fl mf (dD coin per fr ti fl mf m) s left) n := rfl
    by_cases hlt : (dc1 coin per fr fl mf (dD coin per fr ti fl mf m) s left) (n + 1) < (fa (dc1 coin per fr fl mf (dD coin per fr ti fl mf m) s left) n).1
    · rw [if_pos hlt] at hfa
      rw [hfa] at hE
      refine g_iload d0_chooseAhead_52 rfl ?_
      refine g_bipushv (nI 12) d0_chooseAhead_54 rfl ?_
      refine g_ic_gt (((n + 1) : Nat) : Int) (12) 178 (nI_ti (by omega)) (by decide) d0_chooseAhead_56 rfl (fun c56 => absurd c56 (by omega)) (fun _ => ?_)
      refine g_aload_n d0_chooseAhead_59 rfl ?_
      refine g_get fl0_42 d0_chooseAhead_60 f_29_1 ?_
      refine g_iload_n d0_chooseAhead_63 rfl ?_
      refine g_iload d0_chooseAhead_64 rfl ?_
      refine g_EV2 vm7_paidWith ml0_75 c_28 (r7_paid (I := (uI I 36 (s * 13 + left) (nI (fa (dc1 coin per fr fl mf (dD coin per fr ti fl mf m) s left) n).2.1))) (L := (uL L 35 (s * 13 + left) (lN (fa (dc1 coin per fr fl mf (dD coin per fr ti fl mf m) s left) n).1))) c fr ti se fl coin per fine hS2 left (n + 1) hl (by omega) (Nat.le_refl 1)) (by omega) (Nat.le_of_ble_eq_true rfl) d0_chooseAhead_66 ?_
      refine g_istore d0_chooseAhead_69 (by decide) ?_
      refine g_ldc2 d0_chooseAhead_71 kl0_84 ?_
      refine g_aload_n d0_chooseAhead_74 rfl ?_
      refine g_get fl0_42 d0_chooseAhead_75 f_29_1 ?_
      refine g_iload d0_chooseAhead_78 rfl ?_
      refine g_iload_n d0_chooseAhead_80 rfl ?_
      refine g_EV2 vm7_price ml0_86 c_28 (r7_price (I := (uI I 36 (s * 13 + left) (nI (fa (dc1 coin per fr fl mf (dD coin per fr ti fl mf m) s left) n).2.1))) (L := (uL L 35 (s * 13 + left) (lN (fa (dc1 coin per fr fl mf (dD coin per fr ti fl mf m) s left) n).1))) c fr ti se fl coin per fine hS2 (n + 1) s (by omega) (by omega) (Nat.le_refl 0)) (by omega) (Nat.le_of_ble_eq_true rfl) d0_chooseAhead_81 ?_
      refine g_i2lN (by omega) d0_chooseAhead_84 ?_
      refine g_lmul d0_chooseAhead_85 ?_
      refine g_topL (lN (1000000000000 * (prc coin fr fl s (n + 1)))) (lN_mul _ _) ?_
      refine g_iload d0_chooseAhead_86 rfl ?_
      refine g_iz_ne (((pdb per left (n + 1)) : Nat) : Int) 95 (nI_ti (by omega)) d0_chooseAhead_88 rfl (fun c88 => ?_) (fun c88 => ?_)
      · refine g_lconstv (0) d0_chooseAhead_95 rfl ?_
        refine g_ladd d0_chooseAhead_96 ?_
        refine g_topL (lN ((1000000000000 * (prc coin fr fl s (n + 1))) + 0)) (lN_add _ _) ?_
        refine g_aload_n d0_chooseAhead_97 rfl ?_
        refine g_get fl0_25 d0_chooseAhead_98 f_29_5 ?_
        refine g_iload_n d0_chooseAhead_101 rfl ?_
        refine g_iconstv (nI 1) d0_chooseAhead_102 rfl ?_
        refine g_iaddN d0_chooseAhead_103 ?_
        refine g_bipushv (nI 13) d0_chooseAhead_104 rfl ?_
        refine g_imulN d0_chooseAhead_106 ?_
        refine g_iconstv (nI 0) d0_chooseAhead_107 rfl ?_
        refine g_iload d0_chooseAhead_108 rfl ?_
        refine g_iconstv (nI 1) d0_chooseAhead_110 rfl ?_
        refine g_isub d0_chooseAhead_111 ?_
        refine g_max ml0_103 (by omega) (Nat.le_of_ble_eq_true rfl) d0_chooseAhead_112 ?_
        refine g_topI (nI ((les (pdb per left (n + 1))))) (mx_les hpb) ?_
        refine g_iaddN d0_chooseAhead_115 ?_
        refine g_laldN ((((s + 1) * 13) + (les (pdb per left (n + 1))))) d0_chooseAhead_116 a_35 (rfl) (by unfold les; omega) (by decide) ?_
        refine g_topL (lN ((dD coin per fr ti fl mf m (les (pdb per left (n + 1)))))) (by rw [uL_sn (by omega)]; exact hnx _ (by unfold les; omega)) ?_
        refine g_ladd d0_chooseAhead_117 ?_
        refine g_topL (lN (((dc1 coin per fr fl mf (dD coin per fr ti fl mf m) s left) (n + 1)))) (by rw [lN_add]; exact congrArg lN (by first | exact dc1_p (by omega) | exact dc1_z (by omega))) ?_
        refine g_lstore d0_chooseAhead_118 (by decide) ?_
        refine g_iload d0_chooseAhead_120 rfl ?_
        refine g_iz_eq (((n + 1) : Nat) : Int) 138 (nI_ti (by omega)) d0_chooseAhead_122 rfl (fun c122 => absurd c122 (by omega)) (fun _ => ?_)
        refine g_lload d0_chooseAhead_125 rfl ?_
        refine g_aload_n d0_chooseAhead_127 rfl ?_
        refine g_get fl0_25 d0_chooseAhead_128 f_29_5 ?_
        refine g_iload d0_chooseAhead_131 rfl ?_
        refine g_laldN ((s * 13 + left)) d0_chooseAhead_133 a_35 (rfl) (by omega) (by decide) ?_
        refine g_topL (lN ((fa (dc1 coin per fr fl mf (dD coin per fr ti fl mf m) s left) n).1)) (uL_ss) ?_
        refine g_lx_ge ((((dc1 coin per fr fl mf (dD coin per fr ti fl mf m) s left) (n + 1)) : Nat) : Int) (((fa (dc1 coin per fr fl mf (dD coin per fr ti fl mf m) s left) n).1 : Nat) : Int) 156 (pk_lT (by omega)) (pk_lT (by omega)) d0_chooseAhead_134 d0_chooseAhead_135 rfl (fun c134 => absurd c134 (by omega)) (fun _ => ?_)
        refine g_aload_n d0_chooseAhead_138 rfl ?_
        refine g_get fl0_25 d0_chooseAhead_139 f_29_5 ?_
        refine g_iload d0_chooseAhead_142 rfl ?_
        refine g_lload d0_chooseAhead_144 rfl ?_
        refine g_lastN ((s * 13 + left)) _ d0_chooseAhead_146 a_35 (rfl) (by omega) (by decide) t_35 ?_
        refine g_aload_n d0_chooseAhead_147 rfl ?_
        refine g_get fl0_28 d0_chooseAhead_148 f_29_6 ?_
        refine g_iload d0_chooseAhead_151 rfl ?_
        refine g_iload d0_chooseAhead_153 rfl ?_
        refine g_iastN ((s * 13 + left)) _ d0_chooseAhead_155 a_36 (rfl) (by omega) (by decide) t_36 ?_
        rw [uI_uI, uL_uL]
        refine g_lo [(0, .ref 29), (1, .int (nI s)), (2, .int (nI left)), (3, .long (lN (mf s))), (5, .int (nI (s * 13 + left))), (6, .int (nI (n + 1))), (7, .int (nI (pdb per left (n + 1))))] ⟨rfl, rfl, rfl, rfl, rfl, rfl, rfl, trivial⟩ ?_
        exact hE
      · refine g_lload_n d0_chooseAhead_91 rfl ?_
        refine g_goto 96 d0_chooseAhead_92 rfl ?_
        refine g_ladd d0_chooseAhead_96 ?_
        refine g_topL (lN ((1000000000000 * (prc coin fr fl s (n + 1))) + mf s)) (lN_add _ _) ?_
        refine g_aload_n d0_chooseAhead_97 rfl ?_
        refine g_get fl0_25 d0_chooseAhead_98 f_29_5 ?_
        refine g_iload_n d0_chooseAhead_101 rfl ?_
        refine g_iconstv (nI 1) d0_chooseAhead_102 rfl ?_
        refine g_iaddN d0_chooseAhead_103 ?_
        refine g_bipushv (nI 13) d0_chooseAhead_104 rfl ?_
        refine g_imulN d0_chooseAhead_106 ?_
        refine g_iconstv (nI 0) d0_chooseAhead_107 rfl ?_
        refine g_iload d0_chooseAhead_108 rfl ?_
        refine g_iconstv (nI 1) d0_chooseAhead_110 rfl ?_
        refine g_isub d0_chooseAhead_111 ?_
        refine g_max ml0_103 (by omega) (Nat.le_of_ble_eq_true rfl) d0_chooseAhead_112 ?_
        refine g_topI (nI ((les (pdb per left (n + 1))))) (mx_les hpb) ?_
        refine g_iaddN d0_chooseAhead_115 ?_
        refine g_laldN ((((s + 1) * 13) + (les (pdb per left (n + 1))))) d0_chooseAhead_116 a_35 (rfl) (by unfold les; omega) (by decide) ?_
        refine g_topL (lN ((dD coin per fr ti fl mf m (les (pdb per left (n + 1)))))) (by rw [uL_sn (by omega)]; exact hnx _ (by unfold les; omega)) ?_
        refine g_ladd d0_chooseAhead_117 ?_
        refine g_topL (lN (((dc1 coin per fr fl mf (dD coin per fr ti fl mf m) s left) (n + 1)))) (by rw [lN_add]; exact congrArg lN (by first | exact dc1_p (by omega) | exact dc1_z (by omega))) ?_
        refine g_lstore d0_chooseAhead_118 (by decide) ?_
        refine g_iload d0_chooseAhead_120 rfl ?_
        refine g_iz_eq (((n + 1) : Nat) : Int) 138 (nI_ti (by omega)) d0_chooseAhead_122 rfl (fun c122 => absurd c122 (by omega)) (fun _ => ?_)
        refine g_lload d0_chooseAhead_125 rfl ?_
        refine g_aload_n d0_chooseAhead_127 rfl ?_
        refine g_get fl0_25 d0_chooseAhead_128 f_29_5 ?_
        refine g_iload d0_chooseAhead_131 rfl ?_
        refine g_laldN ((s * 13 + left)) d0_chooseAhead_133 a_35 (rfl) (by omega) (by decide) ?_
        refine g_topL (lN ((fa (dc1 coin per fr fl mf (dD coin per fr ti fl mf m) s left) n).1)) (uL_ss) ?_
        refine g_lx_ge ((((dc1 coin per fr fl mf (dD coin per fr ti fl mf m) s left) (n + 1)) : Nat) : Int) (((fa (dc1 coin per fr fl mf (dD coin per fr ti fl mf m) s left) n).1 : Nat) : Int) 156 (pk_lT (by omega)) (pk_lT (by omega)) d0_chooseAhead_134 d0_chooseAhead_135 rfl (fun c134 => absurd c134 (by omega)) (fun _ => ?_)
        refine g_aload_n d0_chooseAhead_138 rfl ?_
        refine g_get fl0_25 d0_chooseAhead_139 f_29_5 ?_
        refine g_iload d0_chooseAhead_142 rfl ?_
        refine g_lload d0_chooseAhead_144 rfl ?_
        refine g_lastN ((s * 13 + left)) _ d0_chooseAhead_146 a_35 (rfl) (by omega) (by decide) t_35 ?_
        refine g_aload_n d0_chooseAhead_147 rfl ?_
        refine g_get fl0_28 d0_chooseAhead_148 f_29_6 ?_
        refine g_iload d0_chooseAhead_151 rfl ?_
        refine g_iload d0_chooseAhead_153 rfl ?_
        refine g_iastN ((s * 13 + left)) _ d0_chooseAhead_155 a_36 (rfl) (by omega) (by decide) t_36 ?_
        rw [uI_uI, uL_uL]
        refine g_lo [(0, .ref 29), (1, .int (nI s)), (2, .int (nI left)), (3, .long (lN (mf s))), (5, .int (nI (s * 13 + left))), (6, .int (nI (n + 1))), (7, .int (nI (pdb per left (n + 1))))] ⟨rfl, rfl, rfl, rfl, rfl, rfl, rfl, trivial⟩ ?_
        exact hE
    · have e1 : (fa (dc1 coin per fr fl mf (dD coin per fr ti fl mf m) s left) (n + 1)).1 = (fa (dc1 coin per fr fl mf (dD coin per fr ti fl mf m) s left) n).1 ∧ (fa (dc1 coin per fr fl mf (dD coin per fr ti fl mf m) s left) (n + 1)).2.1 = (fa (dc1 coin per fr fl mf (dD coin per fr ti fl mf m) s left) n).2.1 := by
        rw [if_neg hlt] at hfa
        split at hfa <;> (rw [hfa]; exact ⟨rfl, rfl⟩)
      rw [e1.1, e1.2] at hE
      refine g_iload d0_chooseAhead_52 rfl ?_
      refine g_bipushv (nI 12) d0_chooseAhead_54 rfl ?_
      refine g_ic_gt (((n + 1) : Nat) : Int) (12) 178 (nI_ti (by omega)) (by decide) d0_chooseAhead_56 rfl (fun c56 => absurd c56 (by omega)) (fun _ => ?_)
      refine g_aload_n d0_chooseAhead_59 rfl ?_
      refine g_get fl0_42 d0_chooseAhead_60 f_29_1 ?_
      refine g_iload_n d0_chooseAhead_63 rfl ?_
      refine g_iload d0_chooseAhead_64 rfl ?_
      refine g_EV2 vm7_paidWith ml0_75 c_28 (r7_paid (I := (uI I 36 (s * 13 + left) (nI (fa (dc1 coin per fr fl mf (dD coin per fr ti fl mf m) s left) n).2.1))) (L := (uL L 35 (s * 13 + left) (lN (fa (dc1 coin per fr fl mf (dD coin per fr ti fl mf m) s left) n).1))) c fr ti se fl coin per fine hS2 left (n + 1) hl (by omega) (Nat.le_refl 1)) (by omega) (Nat.le_of_ble_eq_true rfl) d0_chooseAhead_66 ?_
      refine g_istore d0_chooseAhead_69 (by decide) ?_
      refine g_ldc2 d0_chooseAhead_71 kl0_84 ?_
      refine g_aload_n d0_chooseAhead_74 rfl ?_
      refine g_get fl0_42 d0_chooseAhead_75 f_29_1 ?_
      refine g_iload d0_chooseAhead_78 rfl ?_
      refine g_iload_n d0_chooseAhead_80 rfl ?_
      refine g_EV2 vm7_price ml0_86 c_28 (r7_price (I := (uI I 36 (s * 13 + left) (nI (fa (dc1 coin per fr fl mf (dD coin per fr ti fl mf m) s left) n).2.1))) (L := (uL L 35 (s * 13 + left) (lN (fa (dc1 coin per fr fl mf (dD coin per fr ti fl mf m) s left) n).1))) c fr ti se fl coin per fine hS2 (n + 1) s (by omega) (by omega) (Nat.le_refl 0)) (by omega) (Nat.le_of_ble_eq_true rfl) d0_chooseAhead_81 ?_
      refine g_i2lN (by omega) d0_chooseAhead_84 ?_
      refine g_lmul d0_chooseAhead_85 ?_
      refine g_topL (lN (1000000000000 * (prc coin fr fl s (n + 1)))) (lN_mul _ _) ?_
      refine g_iload d0_chooseAhead_86 rfl ?_
      refine g_iz_ne (((pdb per left (n + 1)) : Nat) : Int) 95 (nI_ti (by omega)) d0_chooseAhead_88 rfl (fun c88 => ?_) (fun c88 => ?_)
      · refine g_lconstv (0) d0_chooseAhead_95 rfl ?_
        refine g_ladd d0_chooseAhead_96 ?_
        refine g_topL (lN ((1000000000000 * (prc coin fr fl s (n + 1))) + 0)) (lN_add _ _) ?_
        refine g_aload_n d0_chooseAhead_97 rfl ?_
        refine g_get fl0_25 d0_chooseAhead_98 f_29_5 ?_
        refine g_iload_n d0_chooseAhead_101 rfl ?_
        refine g_iconstv (nI 1) d0_chooseAhead_102 rfl ?_
        refine g_iaddN d0_chooseAhead_103 ?_
        refine g_bipushv (nI 13) d0_chooseAhead_104 rfl ?_
        refine g_imulN d0_chooseAhead_106 ?_
        refine g_iconstv (nI 0) d0_chooseAhead_107 rfl ?_
        refine g_iload d0_chooseAhead_108 rfl ?_
        refine g_iconstv (nI 1) d0_chooseAhead_110 rfl ?_
        refine g_isub d0_chooseAhead_111 ?_
        refine g_max ml0_103 (by omega) (Nat.le_of_ble_eq_true rfl) d0_chooseAhead_112 ?_
        refine g_topI (nI ((les (pdb per left (n + 1))))) (mx_les hpb) ?_
        refine g_iaddN d0_chooseAhead_115 ?_
        refine g_laldN ((((s + 1) * 13) + (les (pdb per left (n + 1))))) d0_chooseAhead_116 a_35 (rfl) (by unfold les; omega) (by decide) ?_
        refine g_topL (lN ((dD coin per fr ti fl mf m (les (pdb per left (n + 1)))))) (by rw [uL_sn (by omega)]; exact hnx _ (by unfold les; omega)) ?_
        refine g_ladd d0_chooseAhead_117 ?_
        refine g_topL (lN (((dc1 coin per fr fl mf (dD coin per fr ti fl mf m) s left) (n + 1)))) (by rw [lN_add]; exact congrArg lN (by first | exact dc1_p (by omega) | exact dc1_z (by omega))) ?_
        refine g_lstore d0_chooseAhead_118 (by decide) ?_
        refine g_iload d0_chooseAhead_120 rfl ?_
        refine g_iz_eq (((n + 1) : Nat) : Int) 138 (nI_ti (by omega)) d0_chooseAhead_122 rfl (fun c122 => absurd c122 (by omega)) (fun _ => ?_)
        refine g_lload d0_chooseAhead_125 rfl ?_
        refine g_aload_n d0_chooseAhead_127 rfl ?_
        refine g_get fl0_25 d0_chooseAhead_128 f_29_5 ?_
        refine g_iload d0_chooseAhead_131 rfl ?_
        refine g_laldN ((s * 13 + left)) d0_chooseAhead_133 a_35 (rfl) (by omega) (by decide) ?_
        refine g_topL (lN ((fa (dc1 coin per fr fl mf (dD coin per fr ti fl mf m) s left) n).1)) (uL_ss) ?_
        refine g_lx_ge ((((dc1 coin per fr fl mf (dD coin per fr ti fl mf m) s left) (n + 1)) : Nat) : Int) (((fa (dc1 coin per fr fl mf (dD coin per fr ti fl mf m) s left) n).1 : Nat) : Int) 156 (pk_lT (by omega)) (pk_lT (by omega)) d0_chooseAhead_134 d0_chooseAhead_135 rfl (fun _ => ?_) (fun c134 => absurd c134 (by omega))
        refine g_lo [(0, .ref 29), (1, .int (nI s)), (2, .int (nI left)), (3, .long (lN (mf s))), (5, .int (nI (s * 13 + left))), (6, .int (nI (n + 1))), (7, .int (nI (pdb per left (n + 1))))] ⟨rfl, rfl, rfl, rfl, rfl, rfl, rfl, trivial⟩ ?_
        exact hE
      · refine g_lload_n d0_chooseAhead_91 rfl ?_
        refine g_goto 96 d0_chooseAhead_92 rfl ?_
        refine g_ladd d0_chooseAhead_96 ?_
        refine g_topL (lN ((1000000000000 * (prc coin fr fl s (n + 1))) + mf s)) (lN_add _ _) ?_
        refine g_aload_n d0_chooseAhead_97 rfl ?_
        refine g_get fl0_25 d0_chooseAhead_98 f_29_5 ?_
        refine g_iload_n d0_chooseAhead_101 rfl ?_
        refine g_iconstv (nI 1) d0_chooseAhead_102 rfl ?_
        refine g_iaddN d0_chooseAhead_103 ?_
        refine g_bipushv (nI 13) d0_chooseAhead_104 rfl ?_
        refine g_imulN d0_chooseAhead_106 ?_
        refine g_iconstv (nI 0) d0_chooseAhead_107 rfl ?_
        refine g_iload d0_chooseAhead_108 rfl ?_
        refine g_iconstv (nI 1) d0_chooseAhead_110 rfl ?_
        refine g_isub d0_chooseAhead_111 ?_
        refine g_max ml0_103 (by omega) (Nat.le_of_ble_eq_true rfl) d0_chooseAhead_112 ?_
        refine g_topI (nI ((les (pdb per left (n + 1))))) (mx_les hpb) ?_
        refine g_iaddN d0_chooseAhead_115 ?_
        refine g_laldN ((((s + 1) * 13) + (les (pdb per left (n + 1))))) d0_chooseAhead_116 a_35 (rfl) (by unfold les; omega) (by decide) ?_
        refine g_topL (lN ((dD coin per fr ti fl mf m (les (pdb per left (n + 1)))))) (by rw [uL_sn (by omega)]; exact hnx _ (by unfold les; omega)) ?_
        refine g_ladd d0_chooseAhead_117 ?_
        refine g_topL (lN (((dc1 coin per fr fl mf (dD coin per fr ti fl mf m) s left) (n + 1)))) (by rw [lN_add]; exact congrArg lN (by first | exact dc1_p (by omega) | exact dc1_z (by omega))) ?_
        refine g_lstore d0_chooseAhead_118 (by decide) ?_
        refine g_iload d0_chooseAhead_120 rfl ?_
        refine g_iz_eq (((n + 1) : Nat) : Int) 138 (nI_ti (by omega)) d0_chooseAhead_122 rfl (fun c122 => absurd c122 (by omega)) (fun _ => ?_)
        refine g_lload d0_chooseAhead_125 rfl ?_
        refine g_aload_n d0_chooseAhead_127 rfl ?_
        refine g_get fl0_25 d0_chooseAhead_128 f_29_5 ?_
        refine g_iload d0_chooseAhead_131 rfl ?_
        refine g_laldN ((s * 13 + left)) d0_chooseAhead_133 a_35 (rfl) (by omega) (by decide) ?_
        refine g_topL (lN ((fa (dc1 coin per fr fl mf (dD coin per fr ti fl mf m) s left) n).1)) (uL_ss) ?_
        refine g_lx_ge ((((dc1 coin per fr fl mf (dD coin per fr ti fl mf m) s left) (n + 1)) : Nat) : Int) (((fa (dc1 coin per fr fl mf (dD coin per fr ti fl mf m) s left) n).1 : Nat) : Int) 156 (pk_lT (by omega)) (pk_lT (by omega)) d0_chooseAhead_134 d0_chooseAhead_135 rfl (fun _ => ?_) (fun c134 => absurd c134 (by omega))
        refine g_lo [(0, .ref 29), (1, .int (nI s)), (2, .int (nI left)), (3, .long (lN (mf s))), (5, .int (nI (s * 13 + left))), (6, .int (nI (n + 1))), (7, .int (nI (pdb per left (n + 1))))] ⟨rfl, rfl, rfl, rfl, rfl, rfl, rfl, trivial⟩ ?_
        exact hE
set_option maxHeartbeats 1000000 in
theorem r0_choose {l : Launch} {K : cK} {d : Nat} {I : wI} {L : wL} {R : wR} {dy : cH} (td ta : Nat → Nat) (c fr ti se fl coin per fine : Nat) (hS : STA I c fr ti se fl coin per fine) (hc1 : 1 ≤ coin) (mf : Nat → Nat) (hmf : mf = fun s => td s + ta s * fine) (hml : ∀ s, mf s ≤ 99000000000000) (hTF : TFs L td ta fr ti) (m s left : Nat) (hms : s + m = ti) (hfs : fr ≤ s) (hl : left ≤ 12) (hnx : ∀ q, q ≤ 12 → L 35 ((s + 1) * 13 + q) = lN (dD coin per fr ti fl mf m q)) (hd : 3 ≤ d) : CV l K m0_chooseAhead d [.ref 29, .int (nI s), .int (nI left)] (hp I L R dy) (hp (uI I 36 (s * 13 + left) (nI (dB coin per fr ti fl mf m left))) (uL L 35 (s * 13 + left) (lN (dD coin per fr ti fl mf (m + 1) left))) R dy) := by
  obtain ⟨u0, u1, u2, u3, u4, u5, u6, u7, u8, u9, u10, u11, u12, u13, u14, u15⟩ := id hS
  obtain ⟨j1, j2⟩ := hTF s hfs (by omega)
  obtain ⟨j3, j4⟩ := hTF (s + 1) (by omega) (by omega)
  rw [tfv_s (show s ≤ ti by omega)] at j1 j2
  have hpb := pdb_le per left 0
  have hpr : prc coin fr fl s 0 ≤ 117 := prc_le u13 u12 (by omega)
  have hdl := dD_le coin per fr ti fl mf hml m (les (pdb per left 0))
  have es : ti - m = s := by omega
  have eB : dB coin per fr ti fl mf m left = (fa (dc1 coin per fr fl mf (dD coin per fr ti fl mf m) s left) 12).2.1 := by unfold dB; rw [es]
  have eD : dD coin per fr ti fl mf (m + 1) left = (fa (dc1 coin per fr fl mf (dD coin per fr ti fl mf m) s left) 12).1 := by show (fa (dc1 coin per fr fl mf (dD coin per fr ti fl mf m) (ti - m) left) 12).1 = _; rw [es]
  rw [eB, eD]
  refine CC.of ok0_chooseAhead (Nat.le_of_ble_eq_true rfl) ?_
  refine g_aload_n d0_chooseAhead_0 rfl ?_
  refine g_get fl0_18 d0_chooseAhead_1 f_29_3 ?_
  refine g_iload_n d0_chooseAhead_4 rfl ?_
  refine g_laldN (s) d0_chooseAhead_5 a_33 (rfl) (by omega) (by decide) ?_
  refine g_topL (lN ((tfv td ti (s + 1) + td s))) (j1) ?_
  refine g_aload_n d0_chooseAhead_6 rfl ?_
  refine g_get fl0_18 d0_chooseAhead_7 f_29_3 ?_
  refine g_iload_n d0_chooseAhead_10 rfl ?_
  refine g_iconstv (nI 1) d0_chooseAhead_11 rfl ?_
  refine g_iaddN d0_chooseAhead_12 ?_
  refine g_laldN ((s + 1)) d0_chooseAhead_13 a_33 (rfl) (by omega) (by decide) ?_
  refine g_topL (lN ((tfv td ti (s + 1)))) (j3) ?_
  refine g_lsub d0_chooseAhead_14 ?_
  refine g_topL (lN ((td s))) (by rw [lN_sub (Nat.le_add_right _ _), Nat.add_sub_cancel_left]) ?_
  refine g_aload_n d0_chooseAhead_15 rfl ?_
  refine g_get fl0_22 d0_chooseAhead_16 f_29_4 ?_
  refine g_iload_n d0_chooseAhead_19 rfl ?_
  refine g_laldN (s) d0_chooseAhead_20 a_34 (rfl) (by omega) (by decide) ?_
  refine g_topL (lN ((tfv ta ti (s + 1) + ta s))) (j2) ?_
  refine g_aload_n d0_chooseAhead_21 rfl ?_
  refine g_get fl0_22 d0_chooseAhead_22 f_29_4 ?_
  refine g_iload_n d0_chooseAhead_25 rfl ?_
  refine g_iconstv (nI 1) d0_chooseAhead_26 rfl ?_
  refine g_iaddN d0_chooseAhead_27 ?_
  refine g_laldN ((s + 1)) d0_chooseAhead_28 a_34 (rfl) (by omega) (by decide) ?_
  refine g_topL (lN ((tfv ta ti (s + 1)))) (j4) ?_
  refine g_lsub d0_chooseAhead_29 ?_
  refine g_topL (lN ((ta s))) (by rw [lN_sub (Nat.le_add_right _ _), Nat.add_sub_cancel_left]) ?_
  refine g_aload_n d0_chooseAhead_30 rfl ?_
  refine g_get fl0_42 d0_chooseAhead_31 f_29_1 ?_
  refine g_get fl0_100 d0_chooseAhead_34 f_28_7 ?_
  refine g_topI (nI (fine)) (u7) ?_
  refine g_i2lN (by omega) d0_chooseAhead_37 ?_
  refine g_lmul d0_chooseAhead_38 ?_
  refine g_topL (lN ((ta s) * fine)) (lN_mul _ _) ?_
  refine g_ladd d0_chooseAhead_39 ?_
  refine g_topL (lN ((mf s))) (by rw [lN_add, hmf]) ?_
  refine g_lstore_n d0_chooseAhead_40 (by decide) ?_
  refine g_iload_n d0_chooseAhead_41 rfl ?_
  refine g_bipushv (nI 13) d0_chooseAhead_42 rfl ?_
  refine g_imulN d0_chooseAhead_44 ?_
  refine g_iload_n d0_chooseAhead_45 rfl ?_
  refine g_iaddN d0_chooseAhead_46 ?_
  refine g_istore d0_chooseAhead_47 (by decide) ?_
  refine g_iconstv (nI 0) d0_chooseAhead_49 rfl ?_
  refine g_istore d0_chooseAhead_50 (by decide) ?_
  refine g_iload d0_chooseAhead_52 rfl ?_
  refine g_bipushv (nI 12) d0_chooseAhead_54 rfl ?_
  refine g_ic_gt (0) (12) 178 (by decide) (by decide) d0_chooseAhead_56 rfl (fun c56 => absurd c56 (by omega)) (fun _ => ?_)
  refine g_aload_n d0_chooseAhead_59 rfl ?_
  refine g_get fl0_42 d0_chooseAhead_60 f_29_1 ?_
  refine g_iload_n d0_chooseAhead_63 rfl ?_
  refine g_iload d0_chooseAhead_64 rfl ?_
  refine g_EV2 vm7_paidWith ml0_75 c_28 (r7_paid (I := I) (L := L) c fr ti se fl coin per fine hS left (0) hl (by omega) (Nat.le_refl 1)) (by omega) (Nat.le_of_ble_eq_true rfl) d0_chooseAhead_66 ?_
  refine g_istore d0_chooseAhead_69 (by decide) ?_
  refine g_ldc2 d0_chooseAhead_71 kl0_84 ?_
  refine g_aload_n d0_chooseAhead_74 rfl ?_
  refine g_get fl0_42 d0_chooseAhead_75 f_29_1 ?_
  refine g_iload d0_chooseAhead_78 rfl ?_
  refine g_iload_n d0_chooseAhead_80 rfl ?_
  refine g_EV2 vm7_price ml0_86 c_28 (r7_price (I := I) (L := L) c fr ti se fl coin per fine hS (0) s (by omega) (by omega) (Nat.le_refl 0)) (by omega) (Nat.le_of_ble_eq_true rfl) d0_chooseAhead_81 ?_
  refine g_i2lN (by omega) d0_chooseAhead_84 ?_
  refine g_lmul d0_chooseAhead_85 ?_
  refine g_topL (lN (1000000000000 * (prc coin fr fl s (0)))) (lN_mul _ _) ?_
  refine g_iload d0_chooseAhead_86 rfl ?_
  refine g_iz_ne (((pdb per left (0)) : Nat) : Int) 95 (nI_ti (by omega)) d0_chooseAhead_88 rfl (fun c88 => ?_) (fun c88 => ?_)
  · refine g_lconstv (0) d0_chooseAhead_95 rfl ?_
    refine g_ladd d0_chooseAhead_96 ?_
    refine g_topL (lN ((1000000000000 * (prc coin fr fl s (0))) + 0)) (lN_add _ _) ?_
    refine g_aload_n d0_chooseAhead_97 rfl ?_
    refine g_get fl0_25 d0_chooseAhead_98 f_29_5 ?_
    refine g_iload_n d0_chooseAhead_101 rfl ?_
    refine g_iconstv (nI 1) d0_chooseAhead_102 rfl ?_
    refine g_iaddN d0_chooseAhead_103 ?_
    refine g_bipushv (nI 13) d0_chooseAhead_104 rfl ?_
    refine g_imulN d0_chooseAhead_106 ?_
    refine g_iconstv (nI 0) d0_chooseAhead_107 rfl ?_
    refine g_iload d0_chooseAhead_108 rfl ?_
    refine g_iconstv (nI 1) d0_chooseAhead_110 rfl ?_
    refine g_isub d0_chooseAhead_111 ?_
    refine g_max ml0_103 (by omega) (Nat.le_of_ble_eq_true rfl) d0_chooseAhead_112 ?_
    refine g_topI (nI ((les (pdb per left (0))))) (mx_les hpb) ?_
    refine g_iaddN d0_chooseAhead_115 ?_
    refine g_laldN ((((s + 1) * 13) + (les (pdb per left (0))))) d0_chooseAhead_116 a_35 (rfl) (by unfold les; omega) (by decide) ?_
    refine g_topL (lN ((dD coin per fr ti fl mf m (les (pdb per left (0)))))) (hnx _ (by unfold les; omega)) ?_
    refine g_ladd d0_chooseAhead_117 ?_
    refine g_topL (lN (((dc1 coin per fr fl mf (dD coin per fr ti fl mf m) s left) (0)))) (by rw [lN_add]; exact congrArg lN (by first | exact dc1_p (by omega) | exact dc1_z (by omega))) ?_
    refine g_lstore d0_chooseAhead_118 (by decide) ?_
    refine g_iload d0_chooseAhead_120 rfl ?_
    refine g_iz_eq (0) 138 (by decide) d0_chooseAhead_122 rfl (fun _ => ?_) (fun c122 => absurd c122 (by decide))
    refine g_aload_n d0_chooseAhead_138 rfl ?_
    refine g_get fl0_25 d0_chooseAhead_139 f_29_5 ?_
    refine g_iload d0_chooseAhead_142 rfl ?_
    refine g_lload d0_chooseAhead_144 rfl ?_
    refine g_lastN (((s * 13) + left)) _ d0_chooseAhead_146 a_35 (rfl) (by omega) (by decide) t_35 ?_
    refine g_aload_n d0_chooseAhead_147 rfl ?_
    refine g_get fl0_28 d0_chooseAhead_148 f_29_6 ?_
    refine g_iload d0_chooseAhead_151 rfl ?_
    refine g_iload d0_chooseAhead_153 rfl ?_
    refine g_iastN (((s * 13) + left)) _ d0_chooseAhead_155 a_36 (rfl) (by omega) (by decide) t_36 ?_
    refine g_lo [(0, .ref 29), (1, .int (nI s)), (2, .int (nI left)), (3, .long (lN (mf s))), (5, .int (nI (s * 13 + left))), (6, .int (nI (0))), (7, .int (nI (pdb per left 0)))] ⟨rfl, rfl, rfl, rfl, rfl, rfl, rfl, trivial⟩ ?_
    exact r0_chE td ta c fr ti se fl coin per fine hS hc1 mf hmf hml hTF m s left hms hfs hl hnx 0 (by omega) (by omega) (fun _ => r0_chL td ta c fr ti se fl coin per fine hS hc1 mf hmf hml hTF m s left hms hfs hl hnx (by omega) 12 0 (by omega))
  · refine g_lload_n d0_chooseAhead_91 rfl ?_
    refine g_goto 96 d0_chooseAhead_92 rfl ?_
    refine g_ladd d0_chooseAhead_96 ?_
    refine g_topL (lN ((1000000000000 * (prc coin fr fl s (0))) + (mf s))) (lN_add _ _) ?_
    refine g_aload_n d0_chooseAhead_97 rfl ?_
    refine g_get fl0_25 d0_chooseAhead_98 f_29_5 ?_
    refine g_iload_n d0_chooseAhead_101 rfl ?_
    refine g_iconstv (nI 1) d0_chooseAhead_102 rfl ?_
    refine g_iaddN d0_chooseAhead_103 ?_
    refine g_bipushv (nI 13) d0_chooseAhead_104 rfl ?_
    refine g_imulN d0_chooseAhead_106 ?_
    refine g_iconstv (nI 0) d0_chooseAhead_107 rfl ?_
    refine g_iload d0_chooseAhead_108 rfl ?_
    refine g_iconstv (nI 1) d0_chooseAhead_110 rfl ?_
    refine g_isub d0_chooseAhead_111 ?_
    refine g_max ml0_103 (by omega) (Nat.le_of_ble_eq_true rfl) d0_chooseAhead_112 ?_
    refine g_topI (nI ((les (pdb per left (0))))) (mx_les hpb) ?_
    refine g_iaddN d0_chooseAhead_115 ?_
    refine g_laldN ((((s + 1) * 13) + (les (pdb per left (0))))) d0_chooseAhead_116 a_35 (rfl) (by unfold les; omega) (by decide) ?_
    refine g_topL (lN ((dD coin per fr ti fl mf m (les (pdb per left (0)))))) (hnx _ (by unfold les; omega)) ?_
    refine g_ladd d0_chooseAhead_117 ?_
    refine g_topL (lN (((dc1 coin per fr fl mf (dD coin per fr ti fl mf m) s left) (0)))) (by rw [lN_add]; exact congrArg lN (by first | exact dc1_p (by omega) | exact dc1_z (by omega))) ?_
    refine g_lstore d0_chooseAhead_118 (by decide) ?_
    refine g_iload d0_chooseAhead_120 rfl ?_
    refine g_iz_eq (0) 138 (by decide) d0_chooseAhead_122 rfl (fun _ => ?_) (fun c122 => absurd c122 (by decide))
    refine g_aload_n d0_chooseAhead_138 rfl ?_
    refine g_get fl0_25 d0_chooseAhead_139 f_29_5 ?_
    refine g_iload d0_chooseAhead_142 rfl ?_
    refine g_lload d0_chooseAhead_144 rfl ?_
    refine g_lastN (((s * 13) + left)) _ d0_chooseAhead_146 a_35 (rfl) (by omega) (by decide) t_35 ?_
    refine g_aload_n d0_chooseAhead_147 rfl ?_
    refine g_get fl0_28 d0_chooseAhead_148 f_29_6 ?_
    refine g_iload d0_chooseAhead_151 rfl ?_
    refine g_iload d0_chooseAhead_153 rfl ?_
    refine g_iastN (((s * 13) + left)) _ d0_chooseAhead_155 a_36 (rfl) (by omega) (by decide) t_36 ?_
    refine g_lo [(0, .ref 29), (1, .int (nI s)), (2, .int (nI left)), (3, .long (lN (mf s))), (5, .int (nI (s * 13 + left))), (6, .int (nI (0))), (7, .int (nI (pdb per left 0)))] ⟨rfl, rfl, rfl, rfl, rfl, rfl, rfl, trivial⟩ ?_
    exact r0_chE td ta c fr ti se fl coin per fine hS hc1 mf hmf hml hTF m s left hms hfs hl hnx 0 (by omega) (by omega) (fun _ => r0_chL td ta c fr ti se fl coin per fine hS hc1 mf hmf hml hTF m s left hms hfs hl hnx (by omega) 12 0 (by omega))
set_option maxHeartbeats 1000000 in
theorem r0_la1 {l : Launch} {K : cK} {d : Nat} {I : wI} {L : wL} {R : wR} {dy : cH} {Q : Option Value → cH → Prop} (td ta : Nat → Nat) (c fr ti se fl coin per fine : Nat) (hS : STA I c fr ti se fl coin per fine) (hc1 : 1 ≤ coin) (mf : Nat → Nat) (hmf : mf = fun s => td s + ta s * fine) (hml : ∀ s, mf s ≤ 99000000000000) (hTF : TFs L td ta fr ti) (m s : Nat) (hms : s + m = ti) (hfs : fr ≤ s) (hd : 4 ≤ d)
    (kk : ∀ (I3 : wI) (L3 : wL), (FK [36] [35] I L I3 L3 ∧ (∀ m2, m2 ≤ m + 1 → ∀ q, q ≤ 12 → L3 35 ((ti + 1 - m2) * 13 + q) = lN (dD coin per fr ti fl mf m2 q)) ∧ (∀ m2, m2 < m + 1 → ∀ q, q ≤ 12 → I3 36 ((ti - m2) * 13 + q) = nI (dB coin per fr ti fl mf m2 q))) → GL l K m0_leastAhead d 0 0 47 [(0, .ref 29), (1, .int (nI s))] [] (hp I3 L3 R dy) Q) :
    ∀ (n left : Nat) (I2 : wI) (L2 : wL), left + n = 13 → FK [36] [35] I L I2 L2 ∧ (∀ m2, m2 ≤ m → ∀ q, q ≤ 12 → L2 35 ((ti + 1 - m2) * 13 + q) = lN (dD coin per fr ti fl mf m2 q)) ∧ (∀ m2, m2 < m → ∀ q, q ≤ 12 → I2 36 ((ti - m2) * 13 + q) = nI (dB coin per fr ti fl mf m2 q)) ∧ (∀ q, q < left → L2 35 (s * 13 + q) = lN (dD coin per fr ti fl mf (m + 1) q) ∧ I2 36 (s * 13 + q) = nI (dB coin per fr ti fl mf m q)) → GL l K m0_leastAhead d 0 0 29 [(0, .ref 29), (1, .int (nI s)), (2, .int (nI left))] [] (hp I2 L2 R dy) Q := by
  obtain ⟨u0, u1, u2, u3, u4, u5, u6, u7, u8, u9, u10, u11, u12, u13, u14, u15⟩ := id hS
  intro n
  induction n with
  | zero =>
    intro left I2 L2 hl hI
    obtain rfl : left = 13 := by omega
    obtain ⟨i1, i2, i3, i4⟩ := hI
    refine g_iload_n d0_leastAhead_29 rfl ?_
    refine g_bipushv (nI 13) d0_leastAhead_30 rfl ?_
    refine g_ic_ge (13) (13) 47 (by decide) (by decide) d0_leastAhead_32 rfl (fun _ => ?_) (fun c32 => absurd c32 (by decide))
    refine g_lo [(0, .ref 29), (1, .int (nI s))] ⟨rfl, rfl, trivial⟩ ?_
    refine kk I2 L2 ⟨i1, fun m2 h q hq => ?_, fun m2 h q hq => ?_⟩
    · by_cases e : m2 = m + 1
      · subst e; rw [show ti + 1 - (m + 1) = s by omega]; exact (i4 q (by omega)).1
      · exact i2 m2 (by omega) q hq
    · by_cases e : m2 = m
      · subst e; rw [show ti - m2 = s by omega]; exact (i4 q (by omega)).2
      · exact i3 m2 (by omega) q hq
  | succ n ih =>
    intro left I2 L2 hl hI
    obtain ⟨i1, i2, i3, i4⟩ := hI
    have hTF2 : TFs L2 td ta fr ti := hTF.of (i1.2 33 (by decide)) (i1.2 34 (by decide))
    refine g_iload_n d0_leastAhead_29 rfl ?_
    refine g_bipushv (nI 13) d0_leastAhead_30 rfl ?_
    refine g_ic_ge ((left : Nat) : Int) (13) 47 (nI_ti (by omega)) (by decide) d0_leastAhead_32 rfl (fun c32 => absurd c32 (by omega)) (fun _ => ?_)
    refine g_aload_n d0_leastAhead_35 rfl ?_
    refine g_iload_n d0_leastAhead_36 rfl ?_
    refine g_iload_n d0_leastAhead_37 rfl ?_
    refine g_VV2 vm0_chooseAhead ml0_96 c_29 (r0_choose (I := I2) (L := L2) td ta c fr ti se fl coin per fine (hS.of (i1.1 28 (by decide))) hc1 mf hmf hml hTF2 m s left hms hfs (by omega) (fun q hq => by have z := i2 m (Nat.le_refl _) q hq; rw [show ti + 1 - m = s + 1 by omega] at z; exact z) (Nat.le_refl 3)) (by omega) (Nat.le_of_ble_eq_true rfl) d0_leastAhead_38 ?_
    refine g_iincN d0_leastAhead_41 rfl (by decide) ?_
    refine g_goto 29 d0_leastAhead_44 rfl ?_
    refine g_lo [(0, .ref 29), (1, .int (nI s)), (2, .int (nI (left + 1)))] ⟨rfl, rfl, rfl, trivial⟩ ?_
    refine ih (left + 1) _ _ (by omega) ⟨(i1.ui (by decide)).ul (by decide), fun m2 h q hq => ?_, fun m2 h q hq => ?_, fun q hq => ?_⟩
    · rw [uL_sn (by omega)]; exact i2 m2 h q hq
    · rw [uI_sn (by omega)]; exact i3 m2 h q hq
    · by_cases e : q = left
      · subst e; exact ⟨uL_ss, uI_ss⟩
      · rw [uL_sn (by omega), uI_sn (by omega)]; exact i4 q (by omega)
set_option maxHeartbeats 1000000 in
theorem r0_la2 {l : Launch} {K : cK} {d : Nat} {I : wI} {L : wL} {R : wR} {dy : cH} {Q : Option Value → cH → Prop} (td ta : Nat → Nat) (c fr ti se fl coin per fine : Nat) (hS : STA I c fr ti se fl coin per fine) (hc1 : 1 ≤ coin) (mf : Nat → Nat) (hmf : mf = fun s => td s + ta s * fine) (hml : ∀ s, mf s ≤ 99000000000000) (hTF : TFs L td ta fr ti) (hd : 4 ≤ d)
    (kk : ∀ (I3 : wI) (L3 : wL), (FK [36] [35] I L I3 L3 ∧ (∀ m2, m2 ≤ (ti + 1 - fr) → ∀ q, q ≤ 12 → L3 35 ((ti + 1 - m2) * 13 + q) = lN (dD coin per fr ti fl mf m2 q)) ∧ (∀ m2, m2 < (ti + 1 - fr) → ∀ q, q ≤ 12 → I3 36 ((ti - m2) * 13 + q) = nI (dB coin per fr ti fl mf m2 q))) → GL l K m0_leastAhead d 0 0 53 [(0, .ref 29)] [] (hp I3 L3 R dy) Q) :
    ∀ (n m : Nat) (I2 : wI) (L2 : wL), m + n = ti + 1 - fr → (FK [36] [35] I L I2 L2 ∧ (∀ m2, m2 ≤ m → ∀ q, q ≤ 12 → L2 35 ((ti + 1 - m2) * 13 + q) = lN (dD coin per fr ti fl mf m2 q)) ∧ (∀ m2, m2 < m → ∀ q, q ≤ 12 → I2 36 ((ti - m2) * 13 + q) = nI (dB coin per fr ti fl mf m2 q))) → GL l K m0_leastAhead d 0 0 16 [(0, .ref 29), (1, .int (mkI (ti + 1 - m)))] [] (hp I2 L2 R dy) Q := by
  obtain ⟨u0, u1, u2, u3, u4, u5, u6, u7, u8, u9, u10, u11, u12, u13, u14, u15⟩ := id hS
  intro n
  induction n with
  | zero =>
    intro m I2 L2 hm hI
    have em : m = ti + 1 - fr := by omega
    have e28 : I2 28 = I 28 := hI.1.1 28 (by decide)
    rw [em] at hI
    rw [show ti + 1 - m = fr by omega]
    refine g_iload_n d0_leastAhead_16 rfl ?_
    refine g_aload_n d0_leastAhead_17 rfl ?_
    refine g_get fl0_42 d0_leastAhead_18 f_29_1 ?_
    refine g_get fl0_58 d0_leastAhead_21 f_28_1 ?_
    refine g_topI (nI (fr)) (by rw [e28]; exact u1) ?_
    refine g_ic_lt (((fr : Nat) : Int) - 1) ((fr : Nat) : Int) 53 (mkI_ti (by omega)) (nI_ti (by omega)) d0_leastAhead_24 rfl (fun _ => ?_) (fun c24 => absurd c24 (by omega))
    refine g_lo [(0, .ref 29)] ⟨rfl, trivial⟩ ?_
    exact kk I2 L2 hI
  | succ n ih =>
    intro m I2 L2 hm hI
    obtain ⟨s, hs⟩ : ∃ s, s + m = ti := ⟨ti - m, by omega⟩
    rw [show ti + 1 - m = s + 1 by omega, mkI_s]
    have e28 : I2 28 = I 28 := hI.1.1 28 (by decide)
    obtain ⟨i1, i2, i3⟩ := id hI
    refine g_iload_n d0_leastAhead_16 rfl ?_
    refine g_aload_n d0_leastAhead_17 rfl ?_
    refine g_get fl0_42 d0_leastAhead_18 f_29_1 ?_
    refine g_get fl0_58 d0_leastAhead_21 f_28_1 ?_
    refine g_topI (nI (fr)) (by rw [e28]; exact u1) ?_
    refine g_ic_lt ((s : Nat) : Int) ((fr : Nat) : Int) 53 (nI_ti (by omega)) (nI_ti (by omega)) d0_leastAhead_24 rfl (fun c24 => absurd c24 (by omega)) (fun _ => ?_)
    refine g_iconstv (nI 0) d0_leastAhead_27 rfl ?_
    refine g_istore_n d0_leastAhead_28 (by decide) ?_
    refine g_lo [(0, .ref 29), (1, .int (nI s)), (2, .int (nI 0))] ⟨rfl, rfl, rfl, trivial⟩ ?_
    refine r0_la1 (I := I) (L := L) td ta c fr ti se fl coin per fine hS hc1 mf hmf hml hTF m s hs (by omega) hd (fun I3 L3 hO => ?_) 13 0 I2 L2 (by omega) ⟨i1, i2, i3, fun q hq => by omega⟩
    refine g_iinc (mkI s) d0_leastAhead_47 rfl (mkI_dec (by omega)) (by decide) ?_
    refine g_goto 16 d0_leastAhead_50 rfl ?_
    refine g_lo [(0, .ref 29), (1, .int (mkI (ti + 1 - (m + 1))))] ⟨rfl, by rw [show ti + 1 - (m + 1) = s by omega]; rfl, trivial⟩ ?_
    exact ih (m + 1) I3 L3 (by omega) hO
set_option maxHeartbeats 600000 in
theorem r0_least {l : Launch} {K : cK} {d : Nat} {I : wI} {L : wL} {R : wR} {dy : cH} (td ta : Nat → Nat) (c fr ti se fl coin per fine : Nat) (hS : STA I c fr ti se fl coin per fine) (hc1 : 1 ≤ coin) (mf : Nat → Nat) (hmf : mf = fun s => td s + ta s * fine) (hml : ∀ s, mf s ≤ 99000000000000) (hTF : TFs L td ta fr ti) (hd : 4 ≤ d) : CX l K m0_leastAhead d [.ref 29] (hp I L R dy) (α := wI × wL) (fun x => (FK [36] [35] I L x.1 x.2 ∧ (∀ m2, m2 ≤ (ti + 1 - fr) → ∀ q, q ≤ 12 → x.2 35 ((ti + 1 - m2) * 13 + q) = lN (dD coin per fr ti fl mf m2 q)) ∧ (∀ m2, m2 < (ti + 1 - fr) → ∀ q, q ≤ 12 → x.1 36 ((ti - m2) * 13 + q) = nI (dB coin per fr ti fl mf m2 q)))) (fun _ => .long (lN (dD coin per fr ti fl mf (ti + 1 - fr) 0))) (fun x => hp x.1 x.2 R dy) := by
  obtain ⟨u0, u1, u2, u3, u4, u5, u6, u7, u8, u9, u10, u11, u12, u13, u14, u15⟩ := id hS
  refine CC.of ok0_leastAhead (Nat.le_of_ble_eq_true rfl) ?_
  refine g_aload_n d0_leastAhead_0 rfl ?_
  refine g_get fl0_25 d0_leastAhead_1 f_29_5 ?_
  refine g_lconstv (0) d0_leastAhead_4 rfl ?_
  refine g_VS2 smAr_fillL ml0_46 (rAr_fill_35 0 (Nat.le_refl 0)) (by omega) (Nat.le_of_ble_eq_true rfl) d0_leastAhead_5 ?_
  refine g_aload_n d0_leastAhead_8 rfl ?_
  refine g_get fl0_42 d0_leastAhead_9 f_29_1 ?_
  refine g_get fl0_52 d0_leastAhead_12 f_28_2 ?_
  refine g_topI (nI (ti)) (u2) ?_
  refine g_istore_n d0_leastAhead_15 (by decide) ?_
  refine g_lo [(0, .ref 29), (1, .int (mkI (ti + 1 - 0)))] ⟨rfl, congrArg (fun z => some (Value.int z)) (mkI_s ti).symm, trivial⟩ ?_
  refine r0_la2 (I := I) (L := L) td ta c fr ti se fl coin per fine hS hc1 mf hmf hml hTF hd (fun I3 L3 hO => ?_) (ti + 1 - fr) 0 I _ (by omega) ⟨FK.rf.cl (by decide), fun m2 h q hq => ?_, fun m2 h => by omega⟩
  rotate_left
  · obtain rfl : m2 = 0 := by omega
    rw [cL_s]; exact if_pos (by omega)
  have e28 : I3 28 = I 28 := hO.1.1 28 (by decide)
  refine g_aload_n d0_leastAhead_53 rfl ?_
  refine g_get fl0_25 d0_leastAhead_54 f_29_5 ?_
  refine g_aload_n d0_leastAhead_57 rfl ?_
  refine g_get fl0_42 d0_leastAhead_58 f_29_1 ?_
  refine g_get fl0_58 d0_leastAhead_61 f_28_1 ?_
  refine g_topI (nI (fr)) (by rw [e28]; exact u1) ?_
  refine g_bipushv (nI 13) d0_leastAhead_64 rfl ?_
  refine g_imulN d0_leastAhead_66 ?_
  refine g_laldN ((fr * 13)) d0_leastAhead_67 a_35 (rfl) (by omega) (by decide) ?_
  refine g_topL (lN ((dD coin per fr ti fl mf (ti + 1 - fr) 0))) (by have z := hO.2.1 (ti + 1 - fr) (Nat.le_refl _) 0 (by omega); rw [show ti + 1 - (ti + 1 - fr) = fr by omega] at z; exact z) ?_
  exact g_lret rfl d0_leastAhead_68 (⟨(I3, L3), hO, rfl, rfl⟩)
theorem mn_le {a b : Nat} (h : a ≤ b) (hb : b < 2147483648) : (if nI a < nI b then nI a else nI b) = nI a := by
  by_cases q : a < b
  · rw [if_pos (by rw [i_lt, nI_ti (by omega), nI_ti (by omega)]; omega)]
  · rw [if_neg (by rw [i_lt, nI_ti (by omega), nI_ti (by omega)]; omega), show b = a by omega]
set_option maxHeartbeats 800000 in
theorem r0_caL {l : Launch} {K : cK} {d : Nat} {I : wI} {L : wL} {R : wR} {dy : cH} (c fr ti se fl coin per fine : Nat) (hS : STA I c fr ti se fl coin per fine) (B : Nat → Nat → Nat) (hB : ∀ m2, m2 < ti + 1 - fr → ∀ q, q ≤ 12 → I 36 ((ti - m2) * 13 + q) = nI (B m2 q)) (hB12 : ∀ m q, B m q ≤ 12) (i : Nat) (hi : fr + i ≤ ti) (hd : 2 ≤ d) : ∀ (n j : Nat), j + n = i → GL l K m0_coinsAhead d 0 0 10 [(0, .ref 29), (1, .int (nI i)), (2, .int (nI (dL per B (ti - fr) j))), (3, .int (nI (fr + j)))] [] (hp I L R dy) (fun r h => r = some (.int (nI (dI per B (ti - fr) (i + 1)))) ∧ h = hp I L R dy) := by
  obtain ⟨u0, u1, u2, u3, u4, u5, u6, u7, u8, u9, u10, u11, u12, u13, u14, u15⟩ := id hS
  intro n
  induction n with
  | zero =>
    intro j hj
    obtain rfl : j = i := by omega
    have hd12 := dL_le per B (ti - fr) j
    have hb := hB (ti - fr - j) (by omega) (dL per B (ti - fr) j) hd12
    rw [show ti - (ti - fr - j) = fr + j by omega] at hb
    refine g_iload_n d0_coinsAhead_10 rfl ?_
    refine g_aload_n d0_coinsAhead_11 rfl ?_
    refine g_get fl0_42 d0_coinsAhead_12 f_29_1 ?_
    refine g_get fl0_58 d0_coinsAhead_15 f_28_1 ?_
    refine g_topI (nI (fr)) (u1) ?_
    refine g_iload_n d0_coinsAhead_18 rfl ?_
    refine g_iaddN d0_coinsAhead_19 ?_
    refine g_ic_ge (((fr + j) : Nat) : Int) (((fr + j) : Nat) : Int) 70 (nI_ti (by omega)) (nI_ti (by omega)) d0_coinsAhead_20 rfl (fun _ => ?_) (fun c20 => absurd c20 (by omega))
    refine g_aload_n d0_coinsAhead_70 rfl ?_
    refine g_get fl0_28 d0_coinsAhead_71 f_29_6 ?_
    refine g_aload_n d0_coinsAhead_74 rfl ?_
    refine g_get fl0_42 d0_coinsAhead_75 f_29_1 ?_
    refine g_get fl0_52 d0_coinsAhead_78 f_28_2 ?_
    refine g_topI (nI (ti)) (u2) ?_
    refine g_aload_n d0_coinsAhead_81 rfl ?_
    refine g_get fl0_42 d0_coinsAhead_82 f_29_1 ?_
    refine g_get fl0_58 d0_coinsAhead_85 f_28_1 ?_
    refine g_topI (nI (fr)) (u1) ?_
    refine g_iload_n d0_coinsAhead_88 rfl ?_
    refine g_iaddN d0_coinsAhead_89 ?_
    refine g_min ml0_79 (by omega) (Nat.le_of_ble_eq_true rfl) d0_coinsAhead_90 ?_
    refine g_topI (nI ((fr + j))) (mn_le hi (by omega)) ?_
    refine g_bipushv (nI 13) d0_coinsAhead_93 rfl ?_
    refine g_imulN d0_coinsAhead_95 ?_
    refine g_iload_n d0_coinsAhead_96 rfl ?_
    refine g_iaddN d0_coinsAhead_97 ?_
    refine g_ialdN ((((fr + j) * 13) + (dL per B (ti - fr) j))) d0_coinsAhead_98 a_36 (rfl) (by omega) (by decide) ?_
    refine g_topI (nI ((B (ti - fr - j) (dL per B (ti - fr) j)))) (hb) ?_
    exact g_iret rfl d0_coinsAhead_99 (⟨rfl, rfl⟩)
  | succ n ih =>
    intro j hj
    have hd12 := dL_le per B (ti - fr) j
    have hb := hB (ti - fr - j) (by omega) (dL per B (ti - fr) j) hd12
    rw [show ti - (ti - fr - j) = fr + j by omega] at hb
    have hb12 := hB12 (ti - fr - j) (dL per B (ti - fr) j)
    have hpb := pdb_le per (dL per B (ti - fr) j) (B (ti - fr - j) (dL per B (ti - fr) j))
    refine g_iload_n d0_coinsAhead_10 rfl ?_
    refine g_aload_n d0_coinsAhead_11 rfl ?_
    refine g_get fl0_42 d0_coinsAhead_12 f_29_1 ?_
    refine g_get fl0_58 d0_coinsAhead_15 f_28_1 ?_
    refine g_topI (nI (fr)) (u1) ?_
    refine g_iload_n d0_coinsAhead_18 rfl ?_
    refine g_iaddN d0_coinsAhead_19 ?_
    refine g_ic_ge (((fr + j) : Nat) : Int) (((fr + i) : Nat) : Int) 70 (nI_ti (by omega)) (nI_ti (by omega)) d0_coinsAhead_20 rfl (fun c20 => absurd c20 (by omega)) (fun _ => ?_)
    refine g_iload_n d0_coinsAhead_23 rfl ?_
    refine g_aload_n d0_coinsAhead_24 rfl ?_
    refine g_get fl0_42 d0_coinsAhead_25 f_29_1 ?_
    refine g_get fl0_52 d0_coinsAhead_28 f_28_2 ?_
    refine g_topI (nI (ti)) (u2) ?_
    refine g_ic_ge (((fr + j) : Nat) : Int) ((ti : Nat) : Int) 70 (nI_ti (by omega)) (nI_ti (by omega)) d0_coinsAhead_31 rfl (fun c31 => absurd c31 (by omega)) (fun _ => ?_)
    refine g_aload_n d0_coinsAhead_34 rfl ?_
    refine g_get fl0_42 d0_coinsAhead_35 f_29_1 ?_
    refine g_iload_n d0_coinsAhead_38 rfl ?_
    refine g_aload_n d0_coinsAhead_39 rfl ?_
    refine g_get fl0_28 d0_coinsAhead_40 f_29_6 ?_
    refine g_iload_n d0_coinsAhead_43 rfl ?_
    refine g_bipushv (nI 13) d0_coinsAhead_44 rfl ?_
    refine g_imulN d0_coinsAhead_46 ?_
    refine g_iload_n d0_coinsAhead_47 rfl ?_
    refine g_iaddN d0_coinsAhead_48 ?_
    refine g_ialdN ((((fr + j) * 13) + (dL per B (ti - fr) j))) d0_coinsAhead_49 a_36 (rfl) (by omega) (by decide) ?_
    refine g_topI (nI ((B (ti - fr - j) (dL per B (ti - fr) j)))) (hb) ?_
    refine g_EV2 vm7_paidWith ml0_75 c_28 (r7_paid c fr ti se fl coin per fine hS (dL per B (ti - fr) j) (B (ti - fr - j) (dL per B (ti - fr) j)) hd12 hb12 (Nat.le_refl 1)) (by omega) (Nat.le_of_ble_eq_true rfl) d0_coinsAhead_50 ?_
    refine g_istore d0_coinsAhead_53 (by decide) ?_
    refine g_iconstv (nI 0) d0_coinsAhead_55 rfl ?_
    refine g_iload d0_coinsAhead_56 rfl ?_
    refine g_iconstv (nI 1) d0_coinsAhead_58 rfl ?_
    refine g_isub d0_coinsAhead_59 ?_
    refine g_max ml0_103 (by omega) (Nat.le_of_ble_eq_true rfl) d0_coinsAhead_60 ?_
    refine g_topI (nI ((les (pdb per (dL per B (ti - fr) j) (B (ti - fr - j) (dL per B (ti - fr) j)))))) (mx_les hpb) ?_
    refine g_istore_n d0_coinsAhead_63 (by decide) ?_
    refine g_iincN d0_coinsAhead_64 rfl (by decide) ?_
    refine g_goto 10 d0_coinsAhead_67 rfl ?_
    refine g_lo [(0, .ref 29), (1, .int (nI i)), (2, .int (nI (dL per B (ti - fr) (j + 1)))), (3, .int (nI (fr + (j + 1))))] ⟨rfl, rfl, rfl, rfl, trivial⟩ ?_
    exact ih (j + 1) (by omega)
set_option maxHeartbeats 200000 in
theorem r0_ahead {l : Launch} {K : cK} {d : Nat} {I : wI} {L : wL} {R : wR} {dy : cH} (c fr ti se fl coin per fine : Nat) (hS : STA I c fr ti se fl coin per fine) (B : Nat → Nat → Nat) (hB : ∀ m2, m2 < ti + 1 - fr → ∀ q, q ≤ 12 → I 36 ((ti - m2) * 13 + q) = nI (B m2 q)) (hB12 : ∀ m q, B m q ≤ 12) (i : Nat) (hi : fr + i ≤ ti) (hd : 2 ≤ d) : CE l K m0_coinsAhead d [.ref 29, .int (nI i)] (hp I L R dy) (.int (nI (dI per B (ti - fr) (i + 1)))) (hp I L R dy) := by
  obtain ⟨u0, u1, u2, u3, u4, u5, u6, u7, u8, u9, u10, u11, u12, u13, u14, u15⟩ := id hS
  refine CC.of ok0_coinsAhead (Nat.le_of_ble_eq_true rfl) ?_
  refine g_iconstv (nI 0) d0_coinsAhead_0 rfl ?_
  refine g_istore_n d0_coinsAhead_1 (by decide) ?_
  refine g_aload_n d0_coinsAhead_2 rfl ?_
  refine g_get fl0_42 d0_coinsAhead_3 f_29_1 ?_
  refine g_get fl0_58 d0_coinsAhead_6 f_28_1 ?_
  refine g_topI (nI (fr)) (u1) ?_
  refine g_istore_n d0_coinsAhead_9 (by decide) ?_
  refine g_lo [(0, .ref 29), (1, .int (nI i)), (2, .int (nI (dL per B (ti - fr) 0))), (3, .int (nI (fr + 0)))] ⟨rfl, rfl, rfl, rfl, trivial⟩ ?_
  exact r0_caL c fr ti se fl coin per fine hS B hB hB12 i hi hd i 0 (by omega)
