theorem dv10 {a p : Nat} (h : 10 ^ (a + 1) ∣ p) : 10 ^ a ∣ p / 10 := by
  obtain ⟨q, hq⟩ := h
  rw [Nat.pow_succ] at hq
  refine ⟨q, ?_⟩
  rw [hq, Nat.mul_assoc, Nat.mul_comm 10 q, ← Nat.mul_assoc, Nat.mul_div_cancel _ (by decide)]
theorem hS_dvd {per fr : Nat} {cm : Nat → Nat → Nat} {co : Nat → Nat → Nat → Nat} {Pp : Nat → Nat} (hP : ∀ k, 10 ^ (12 - fr) ∣ Pp k) : ∀ m, fr + m ≤ 12 → ∀ q, 10 ^ (12 - (fr + m)) ∣ hS per fr cm co Pp m q
  | 0, _, q => by
    show 10 ^ (12 - fr) ∣ (if q % 13 = 0 ∧ 0 < q then Pp (q / 13) else 0)
    split
    · exact hP _
    · exact ⟨0, rfl⟩
  | m + 1, hm, q => by
    have ih := hS_dvd (per := per) (cm := cm) (co := co) hP m (by omega)
    have h1 : ∀ k, 10 ^ (12 - (fr + (m + 1))) ∣ hS per fr cm co Pp m k / 10 := fun k => dv10 (by rw [show 12 - (fr + (m + 1)) + 1 = 12 - (fr + m) by omega]; exact ih k)
    show _ ∣ hxs per cm co (hS per fr cm co Pp m) (fr + m) 156 q
    have h2 : ∀ n, 10 ^ (12 - (fr + (m + 1))) ∣ hxs per cm co (hS per fr cm co Pp m) (fr + m) n q := by
      intro n
      induction n with
      | zero => exact ⟨0, rfl⟩
      | succ n ihn =>
        show _ ∣ hxs per cm co (hS per fr cm co Pp m) (fr + m) n q + _ + _
        refine Nat.dvd_add (Nat.dvd_add ihn ?_) ?_
        · split
          · exact Nat.dvd_trans (h1 _) (Nat.dvd_mul_right _ _)
          · exact ⟨0, rfl⟩
        · split
          · exact Nat.dvd_trans (h1 _) (Nat.dvd_mul_right _ _)
          · exact ⟨0, rfl⟩
    exact h2 156
theorem sp_ge (cm Pp : Nat → Nat) (k : Nat) (h1 : 1 ≤ k) : ∀ n, k ≤ n → Pp k / 10 * cm k ≤ sp 2 cm Pp n 1 ∧ Pp k / 10 * (10 - cm k) ≤ sp 2 cm Pp n (lat k)
  | 0, h => by omega
  | n + 1, h => by
    have e : ∀ j, sp 2 cm Pp (n + 1) j = sp 2 cm Pp n j + (if j = 1 ∧ 2 ≠ 0 then Pp (n + 1) / 10 * cm (n + 1) else 0) + (if j = lat (n + 1) ∧ 2 ≠ 1 then Pp (n + 1) / 10 * (10 - cm (n + 1)) else 0) := fun _ => rfl
    by_cases hk : k = n + 1
    · subst hk
      refine ⟨?_, ?_⟩
      · rw [e 1, if_pos ⟨rfl, by decide⟩]; omega
      · rw [e (lat (n + 1)), if_pos (c := lat (n + 1) = lat (n + 1) ∧ 2 ≠ 1) ⟨rfl, by decide⟩]; omega
    · obtain ⟨i1, i2⟩ := sp_ge cm Pp k h1 n (by omega)
      rw [e 1, e (lat k)]
      exact ⟨by omega, by omega⟩
theorem hxs_nz {per : Nat} {cm : Nat → Nat → Nat} {co : Nat → Nat → Nat → Nat} {S : Nat → Nat} {s q : Nat} : ∀ n, hxs per cm co S s n q ≠ 0 → ∃ j, j < n ∧ ((q = 13 + les (hpd per co s (13 + j)) ∧ S (13 + j) / 10 * cm s ((13 + j) / 13) ≠ 0) ∨ (q = 13 * lat ((13 + j) / 13) + les (hpd per co s (13 + j)) ∧ S (13 + j) / 10 * (10 - cm s ((13 + j) / 13)) ≠ 0))
  | 0, h => absurd rfl h
  | n + 1, h => by
    have e : hxs per cm co S s (n + 1) q = hxs per cm co S s n q + (if q = 13 + les (hpd per co s (13 + n)) then S (13 + n) / 10 * cm s ((13 + n) / 13) else 0) + (if q = 13 * lat ((13 + n) / 13) + les (hpd per co s (13 + n)) then S (13 + n) / 10 * (10 - cm s ((13 + n) / 13)) else 0) := rfl
    rw [e] at h
    by_cases h0 : hxs per cm co S s n q = 0
    · by_cases a : q = 13 + les (hpd per co s (13 + n))
      · by_cases b : S (13 + n) / 10 * cm s ((13 + n) / 13) = 0
        · refine ⟨n, by omega, Or.inr ?_⟩
          rw [h0, if_pos a, b] at h
          by_cases c : q = 13 * lat ((13 + n) / 13) + les (hpd per co s (13 + n))
          · rw [if_pos c] at h; exact ⟨c, fun z => h (by rw [z])⟩
          · rw [if_neg c] at h; exact absurd rfl h
        · exact ⟨n, by omega, Or.inl ⟨a, b⟩⟩
      · refine ⟨n, by omega, Or.inr ?_⟩
        rw [h0, if_neg a] at h
        by_cases c : q = 13 * lat ((13 + n) / 13) + les (hpd per co s (13 + n))
        · rw [if_pos c] at h; exact ⟨c, fun z => h (by rw [z])⟩
        · rw [if_neg c] at h; exact absurd rfl h
    · obtain ⟨j, hj, hq⟩ := hxs_nz n h0
      exact ⟨j, by omega, hq⟩
theorem les_le {p : Nat} (h : p ≤ 12) : les p ≤ 11 := by unfold les; omega
theorem hS_nz {per fr : Nat} {cm : Nat → Nat → Nat} {co : Nat → Nat → Nat → Nat} {s0 : Nat} : ∀ m, fr + m ≤ 12 → ∀ q, hS per fr cm co (pt fr2 cm s0 fr) m q ≠ 0 → pt fr2 cm s0 (fr + m) (q / 13) ≠ 0
  | 0, _, q, h => by
    have e : hS per fr cm co (pt fr2 cm s0 fr) 0 q = if q % 13 = 0 ∧ 0 < q then pt fr2 cm s0 fr (q / 13) else 0 := rfl
    rw [e] at h
    split at h
    · exact h
    · exact absurd rfl h
  | m + 1, hm, q, h => by
    obtain ⟨j, hj, hq⟩ := hxs_nz 156 h
    have hnz : hS per fr cm co (pt fr2 cm s0 fr) m (13 + j) ≠ 0 := fun z => by
      rcases hq with ⟨_, hq⟩ | ⟨_, hq⟩ <;> (rw [z] at hq; simp at hq)
    have ih := hS_nz (per := per) (fr := fr) (cm := cm) (co := co) (s0 := s0) m (by omega) (13 + j) hnz
    have hl := les_le (hpd_le per co (fr + m) (13 + j))
    have ht := pt_ten (m := fr2) (cm := cm) (s0 := s0) (s := fr + m) (by omega) ((13 + j) / 13)
    obtain ⟨g1, g2⟩ := sp_ge (cm (fr + m)) (pt fr2 cm s0 (fr + m)) ((13 + j) / 13) (by omega) 12 (by omega)
    have hp : pt fr2 cm s0 (fr + m) ((13 + j) / 13) / 10 ≠ 0 := by omega
    obtain ⟨l1, l2⟩ := lat_le (k := (13 + j) / 13) (by omega) (by omega)
    show sp 2 (cm (fr + m)) (pt fr2 cm s0 (fr + m)) 12 (q / 13) ≠ 0
    rcases hq with ⟨e, hq⟩ | ⟨e, hq⟩
    · rw [show q / 13 = 1 by omega]
      have : cm (fr + m) ((13 + j) / 13) ≠ 0 := fun z => hq (by rw [z, Nat.mul_zero])
      have h3 : 0 < pt fr2 cm s0 (fr + m) ((13 + j) / 13) / 10 * cm (fr + m) ((13 + j) / 13) := Nat.mul_pos (by omega) (by omega)
      omega
    · rw [show q / 13 = lat ((13 + j) / 13) by omega]
      have : 10 - cm (fr + m) ((13 + j) / 13) ≠ 0 := fun z => hq (by rw [z, Nat.mul_zero])
      have h3 : 0 < pt fr2 cm s0 (fr + m) ((13 + j) / 13) / 10 * (10 - cm (fr + m) ((13 + j) / 13)) := Nat.mul_pos (by omega) (by omega)
      omega
theorem lat_2 {k : Nat} (h : 1 ≤ k) : 2 ≤ lat k := by unfold lat; split <;> omega
/-- the words of a habit -/
def hw7 (I : wI) (a b c e f g k : Int32) : wI := uI (uI (uI (uI (uI (uI (uI I 31 0 a) 31 1 b) 31 2 c) 31 3 e) 31 4 f) 31 5 g) 31 6 k
theorem hw7_env {I : wI} {a b c e f g k : Int32} : ∀ j, j < 7 → lE a.toInt64 b.toInt64 c.toInt64 e.toInt64 f.toInt64 g.toInt64 k.toInt64 (j + 1) = (hw7 I a b c e f g k 31 j).toInt64 := by
  intro j hj
  rcases (by omega : j = 0 ∨ j = 1 ∨ j = 2 ∨ j = 3 ∨ j = 4 ∨ j = 5 ∨ j = 6) with rfl | rfl | rfl | rfl | rfl | rfl | rfl <;> simp [hw7, uI_at, lE]
theorem hw7_fk {I : wI} {L : wL} {a b c e f g k : Int32} {ci cl : List Nat} (h : 31 ∈ ci) : FK ci cl I L (hw7 I a b c e f g k) L := (((((((FK.rf.ui h).ui h).ui h).ui h).ui h).ui h).ui h)
theorem thr_0 {cs : List Cl} {coin per fr ti se s k left : Nat} (h : tW cs (hEv coin per fr ti se s k left) 0 cs.length = none) : thr (txF cs) coin per fr ti se s k left = 0 := by
  unfold thr txF; rw [h]; rfl
theorem thr_1 {cs : List Cl} {coin per fr ti se s k left : Nat} {v : Int64} (h : tW cs (hEv coin per fr ti se s k left) 0 cs.length = some v) : thr (txF cs) coin per fr ti se s k left = (clp 0 12 v).toNat := by
  unfold thr txF; rw [h]; rfl
set_option maxHeartbeats 400000 in
theorem r0_coinsBy {l : Launch} {K : cK} {d : Nat} {I : wI} {L : wL} {R : wR} {dy : cH} (c fr ti se fl coin per fine : Nat) (hS : STA I c fr ti se fl coin per fine) (T : Nat) (cs : List Cl) (hC : CTX dy T cs) (s k left : Nat) (hs1 : fr ≤ s) (hs2 : s ≤ ti) (hk : k ≤ 12) (hl : left ≤ 12) (hd : 3 ≤ d) : CX l K m0_coinsBy d [.ref 29, .ref T, .int (nI s), .int (nI k), .int (nI left)] (hp I L R dy) (α := wI × wL) (fun x => FK [30, 31] [30, 32] I L x.1 x.2) (fun _ => .int (nI (thr (txF cs) coin per fr ti se s k left))) (fun x => hp x.1 x.2 R dy) := by
  refine CC.of ok0_coinsBy (Nat.le_of_ble_eq_true rfl) ?_
  obtain ⟨u0, u1, u2, u3, u4, u5, u6, u7, u8, u9, u10, u11, u12, u13, u14, u15⟩ := id hS
  by_cases hse : se = 1
  · have he : ∀ j, j < 7 → hEv coin per fr ti se s k left (j + 1) = ((hw7 I (nI s) (nI left) (nI (s - fr)) (nI (ti - s + 1)) (nI k) (nI coin) (nI per)) 31 j).toInt64 := fun j hj => by
      have hm1 : (-1 : Int32).toInt64 = (-1 : Int64) := by decide
      unfold hEv
      rw [if_pos hse, ← nI_l (show s < 2 ^ 31 by omega), ← nI_l (show left < 2 ^ 31 by omega), ← nI_l (show s - fr < 2 ^ 31 by omega), ← nI_l (show ti - s + 1 < 2 ^ 31 by omega), ← nI_l (show k < 2 ^ 31 by omega), ← nI_l (show coin < 2 ^ 31 by omega), ← nI_l (show per < 2 ^ 31 by omega)]
      exact hw7_env j hj
    have u3b : I 28 3 = 1 := by rw [u3, if_pos hse]
    refine g_aload_n d0_coinsBy_0 rfl ?_
    refine g_get fl0_12 d0_coinsBy_1 f_29_2 ?_
    refine g_get fl0_110 d0_coinsBy_4 f_30_0 ?_
    refine g_iconstv (nI 0) d0_coinsBy_7 rfl ?_
    refine g_iload_n d0_coinsBy_8 rfl ?_
    refine g_iastN (0) _ d0_coinsBy_9 a_31 (rfl) (by omega) (by decide) t_31 ?_
    refine g_aload_n d0_coinsBy_10 rfl ?_
    refine g_get fl0_12 d0_coinsBy_11 f_29_2 ?_
    refine g_get fl0_110 d0_coinsBy_14 f_30_0 ?_
    refine g_iconstv (nI 1) d0_coinsBy_17 rfl ?_
    refine g_iload d0_coinsBy_18 rfl ?_
    refine g_iastN (1) _ d0_coinsBy_20 a_31 (rfl) (by omega) (by decide) t_31 ?_
    refine g_aload_n d0_coinsBy_21 rfl ?_
    refine g_get fl0_12 d0_coinsBy_22 f_29_2 ?_
    refine g_get fl0_110 d0_coinsBy_25 f_30_0 ?_
    refine g_iconstv (nI 2) d0_coinsBy_28 rfl ?_
    refine g_iload_n d0_coinsBy_29 rfl ?_
    refine g_aload_n d0_coinsBy_30 rfl ?_
    refine g_get fl0_42 d0_coinsBy_31 f_29_1 ?_
    refine g_get fl0_58 d0_coinsBy_34 f_28_1 ?_
    refine g_topI (nI (fr)) (u1) ?_
    refine g_isubN (hs1) d0_coinsBy_37 ?_
    refine g_iastN (2) _ d0_coinsBy_38 a_31 (rfl) (by omega) (by decide) t_31 ?_
    refine g_aload_n d0_coinsBy_39 rfl ?_
    refine g_get fl0_12 d0_coinsBy_40 f_29_2 ?_
    refine g_get fl0_110 d0_coinsBy_43 f_30_0 ?_
    refine g_iconstv (nI 3) d0_coinsBy_46 rfl ?_
    refine g_aload_n d0_coinsBy_47 rfl ?_
    refine g_get fl0_42 d0_coinsBy_48 f_29_1 ?_
    refine g_get fl0_52 d0_coinsBy_51 f_28_2 ?_
    refine g_topI (nI (ti)) (u2) ?_
    refine g_iload_n d0_coinsBy_54 rfl ?_
    refine g_isubN (hs2) d0_coinsBy_55 ?_
    refine g_iconstv (nI 1) d0_coinsBy_56 rfl ?_
    refine g_iaddN d0_coinsBy_57 ?_
    refine g_iastN (3) _ d0_coinsBy_58 a_31 (rfl) (by omega) (by decide) t_31 ?_
    refine g_aload_n d0_coinsBy_59 rfl ?_
    refine g_get fl0_12 d0_coinsBy_60 f_29_2 ?_
    refine g_get fl0_110 d0_coinsBy_63 f_30_0 ?_
    refine g_iconstv (nI 4) d0_coinsBy_66 rfl ?_
    refine g_aload_n d0_coinsBy_67 rfl ?_
    refine g_get fl0_42 d0_coinsBy_68 f_29_1 ?_
    refine g_get fl0_113 d0_coinsBy_71 f_28_3 ?_
    refine g_topI ((1 : Int32)) (u3b) ?_
    refine g_iz_eq (1) 81 (by decide) d0_coinsBy_74 rfl (fun c74 => absurd c74 (by decide)) (fun _ => ?_)
    refine g_iload_n d0_coinsBy_77 rfl ?_
    refine g_goto 82 d0_coinsBy_78 rfl ?_
    refine g_iastN (4) _ d0_coinsBy_82 a_31 (rfl) (by omega) (by decide) t_31 ?_
    refine g_aload_n d0_coinsBy_83 rfl ?_
    refine g_get fl0_12 d0_coinsBy_84 f_29_2 ?_
    refine g_get fl0_110 d0_coinsBy_87 f_30_0 ?_
    refine g_iconstv (nI 5) d0_coinsBy_90 rfl ?_
    refine g_aload_n d0_coinsBy_91 rfl ?_
    refine g_get fl0_42 d0_coinsBy_92 f_29_1 ?_
    refine g_get fl0_117 d0_coinsBy_95 f_28_5 ?_
    refine g_topI (nI (coin)) (u5) ?_
    refine g_iastN (5) _ d0_coinsBy_98 a_31 (rfl) (by omega) (by decide) t_31 ?_
    refine g_aload_n d0_coinsBy_99 rfl ?_
    refine g_get fl0_12 d0_coinsBy_100 f_29_2 ?_
    refine g_get fl0_110 d0_coinsBy_103 f_30_0 ?_
    refine g_bipushv (nI 6) d0_coinsBy_106 rfl ?_
    refine g_aload_n d0_coinsBy_108 rfl ?_
    refine g_get fl0_42 d0_coinsBy_109 f_29_1 ?_
    refine g_get fl0_120 d0_coinsBy_112 f_28_6 ?_
    refine g_topI (nI (per)) (u6) ?_
    refine g_iastN (6) _ d0_coinsBy_115 a_31 (rfl) (by omega) (by decide) t_31 ?_
    refine g_aload_n d0_coinsBy_116 rfl ?_
    refine g_get fl0_12 d0_coinsBy_117 f_29_2 ?_
    refine g_aload_n d0_coinsBy_120 rfl ?_
    refine g_iconstv (nI 0) d0_coinsBy_121 rfl ?_
    refine g_XV2 vm5_lastHolds ml0_125 c_30 (r5_30_holds (I := (hw7 I (nI s) (nI left) (nI (s - fr)) (nI (ti - s + 1)) (nI k) (nI coin) (nI per))) (L := L) hC 0 (by decide) (hEv coin per fr ti se s k left) he (Nat.le_refl 2)) (by omega) (Nat.le_of_ble_eq_true rfl) d0_coinsBy_122 (fun x hx => ?_)
    obtain ⟨hR, hv⟩ := hx
    have hF : FK [30, 31] [30, 32] I L x.1 x.2 := (hw7_fk (by decide)).tr (hR.fk30.up (by decide) (by decide))
    refine g_bz 141 d0_coinsBy_125 rfl (fun c125 => ?_) (fun c125 => ?_)
    · have hn : tW cs (hEv coin per fr ti se s k left) 0 cs.length = none := by
        cases hz : tW cs (hEv coin per fr ti se s k left) 0 cs.length with
        | none => rfl
        | some v => exact absurd (by rw [hz]; rfl) c125
      have e5 := thr_0 hn
      refine g_iconstv (nI 0) d0_coinsBy_141 rfl ?_
      exact g_iret rfl d0_coinsBy_142 (⟨x, hF, by first | (rw [e5, hv v hz]; rfl) | rw [e5], rfl⟩)
    · obtain ⟨v, hz⟩ := Option.isSome_iff_exists.mp c125
      have e5 := thr_1 hz
      refine g_aload_n d0_coinsBy_128 rfl ?_
      refine g_get fl0_12 d0_coinsBy_129 f_29_2 ?_
      refine g_iconstv (nI 0) d0_coinsBy_132 rfl ?_
      refine g_bipushv (nI 12) d0_coinsBy_133 rfl ?_
      refine g_EV2 vm5_toldWithin ml0_129 c_30 (r5_30_told (I := x.1) (L := x.2) 12 (by decide) (Nat.le_refl 1)) (by omega) (Nat.le_of_ble_eq_true rfl) d0_coinsBy_135 ?_
      refine g_goto 142 d0_coinsBy_138 rfl ?_
      exact g_iret rfl d0_coinsBy_142 (⟨x, hF, by first | (rw [e5, hv v hz]; rfl) | rw [e5], rfl⟩)
  · have he : ∀ j, j < 7 → hEv coin per fr ti se s k left (j + 1) = ((hw7 I (nI s) (nI left) (nI (s - fr)) (nI (ti - s + 1)) (-1) (nI coin) (nI per)) 31 j).toInt64 := fun j hj => by
      have hm1 : (-1 : Int32).toInt64 = (-1 : Int64) := by decide
      unfold hEv
      rw [if_neg hse, ← nI_l (show s < 2 ^ 31 by omega), ← nI_l (show left < 2 ^ 31 by omega), ← nI_l (show s - fr < 2 ^ 31 by omega), ← nI_l (show ti - s + 1 < 2 ^ 31 by omega), ← hm1, ← nI_l (show coin < 2 ^ 31 by omega), ← nI_l (show per < 2 ^ 31 by omega)]
      exact hw7_env j hj
    have u3b : I 28 3 = 0 := by rw [u3, if_neg hse]
    refine g_aload_n d0_coinsBy_0 rfl ?_
    refine g_get fl0_12 d0_coinsBy_1 f_29_2 ?_
    refine g_get fl0_110 d0_coinsBy_4 f_30_0 ?_
    refine g_iconstv (nI 0) d0_coinsBy_7 rfl ?_
    refine g_iload_n d0_coinsBy_8 rfl ?_
    refine g_iastN (0) _ d0_coinsBy_9 a_31 (rfl) (by omega) (by decide) t_31 ?_
    refine g_aload_n d0_coinsBy_10 rfl ?_
    refine g_get fl0_12 d0_coinsBy_11 f_29_2 ?_
    refine g_get fl0_110 d0_coinsBy_14 f_30_0 ?_
    refine g_iconstv (nI 1) d0_coinsBy_17 rfl ?_
    refine g_iload d0_coinsBy_18 rfl ?_
    refine g_iastN (1) _ d0_coinsBy_20 a_31 (rfl) (by omega) (by decide) t_31 ?_
    refine g_aload_n d0_coinsBy_21 rfl ?_
    refine g_get fl0_12 d0_coinsBy_22 f_29_2 ?_
    refine g_get fl0_110 d0_coinsBy_25 f_30_0 ?_
    refine g_iconstv (nI 2) d0_coinsBy_28 rfl ?_
    refine g_iload_n d0_coinsBy_29 rfl ?_
    refine g_aload_n d0_coinsBy_30 rfl ?_
    refine g_get fl0_42 d0_coinsBy_31 f_29_1 ?_
    refine g_get fl0_58 d0_coinsBy_34 f_28_1 ?_
    refine g_topI (nI (fr)) (u1) ?_
    refine g_isubN (hs1) d0_coinsBy_37 ?_
    refine g_iastN (2) _ d0_coinsBy_38 a_31 (rfl) (by omega) (by decide) t_31 ?_
    refine g_aload_n d0_coinsBy_39 rfl ?_
    refine g_get fl0_12 d0_coinsBy_40 f_29_2 ?_
    refine g_get fl0_110 d0_coinsBy_43 f_30_0 ?_
    refine g_iconstv (nI 3) d0_coinsBy_46 rfl ?_
    refine g_aload_n d0_coinsBy_47 rfl ?_
    refine g_get fl0_42 d0_coinsBy_48 f_29_1 ?_
    refine g_get fl0_52 d0_coinsBy_51 f_28_2 ?_
    refine g_topI (nI (ti)) (u2) ?_
    refine g_iload_n d0_coinsBy_54 rfl ?_
    refine g_isubN (hs2) d0_coinsBy_55 ?_
    refine g_iconstv (nI 1) d0_coinsBy_56 rfl ?_
    refine g_iaddN d0_coinsBy_57 ?_
    refine g_iastN (3) _ d0_coinsBy_58 a_31 (rfl) (by omega) (by decide) t_31 ?_
    refine g_aload_n d0_coinsBy_59 rfl ?_
    refine g_get fl0_12 d0_coinsBy_60 f_29_2 ?_
    refine g_get fl0_110 d0_coinsBy_63 f_30_0 ?_
    refine g_iconstv (nI 4) d0_coinsBy_66 rfl ?_
    refine g_aload_n d0_coinsBy_67 rfl ?_
    refine g_get fl0_42 d0_coinsBy_68 f_29_1 ?_
    refine g_get fl0_113 d0_coinsBy_71 f_28_3 ?_
    refine g_topI ((0 : Int32)) (u3b) ?_
    refine g_iz_eq (0) 81 (by decide) d0_coinsBy_74 rfl (fun _ => ?_) (fun c74 => absurd c74 (by decide))
    refine g_iconstv ((-1 : Int32)) d0_coinsBy_81 rfl ?_
    refine g_iastN (4) _ d0_coinsBy_82 a_31 (rfl) (by omega) (by decide) t_31 ?_
    refine g_aload_n d0_coinsBy_83 rfl ?_
    refine g_get fl0_12 d0_coinsBy_84 f_29_2 ?_
    refine g_get fl0_110 d0_coinsBy_87 f_30_0 ?_
    refine g_iconstv (nI 5) d0_coinsBy_90 rfl ?_
    refine g_aload_n d0_coinsBy_91 rfl ?_
    refine g_get fl0_42 d0_coinsBy_92 f_29_1 ?_
    refine g_get fl0_117 d0_coinsBy_95 f_28_5 ?_
    refine g_topI (nI (coin)) (u5) ?_
    refine g_iastN (5) _ d0_coinsBy_98 a_31 (rfl) (by omega) (by decide) t_31 ?_
    refine g_aload_n d0_coinsBy_99 rfl ?_
    refine g_get fl0_12 d0_coinsBy_100 f_29_2 ?_
    refine g_get fl0_110 d0_coinsBy_103 f_30_0 ?_
    refine g_bipushv (nI 6) d0_coinsBy_106 rfl ?_
    refine g_aload_n d0_coinsBy_108 rfl ?_
    refine g_get fl0_42 d0_coinsBy_109 f_29_1 ?_
    refine g_get fl0_120 d0_coinsBy_112 f_28_6 ?_
    refine g_topI (nI (per)) (u6) ?_
    refine g_iastN (6) _ d0_coinsBy_115 a_31 (rfl) (by omega) (by decide) t_31 ?_
    refine g_aload_n d0_coinsBy_116 rfl ?_
    refine g_get fl0_12 d0_coinsBy_117 f_29_2 ?_
    refine g_aload_n d0_coinsBy_120 rfl ?_
    refine g_iconstv (nI 0) d0_coinsBy_121 rfl ?_
    refine g_XV2 vm5_lastHolds ml0_125 c_30 (r5_30_holds (I := (hw7 I (nI s) (nI left) (nI (s - fr)) (nI (ti - s + 1)) (-1) (nI coin) (nI per))) (L := L) hC 0 (by decide) (hEv coin per fr ti se s k left) he (Nat.le_refl 2)) (by omega) (Nat.le_of_ble_eq_true rfl) d0_coinsBy_122 (fun x hx => ?_)
    obtain ⟨hR, hv⟩ := hx
    have hF : FK [30, 31] [30, 32] I L x.1 x.2 := (hw7_fk (by decide)).tr (hR.fk30.up (by decide) (by decide))
    refine g_bz 141 d0_coinsBy_125 rfl (fun c125 => ?_) (fun c125 => ?_)
    · have hn : tW cs (hEv coin per fr ti se s k left) 0 cs.length = none := by
        cases hz : tW cs (hEv coin per fr ti se s k left) 0 cs.length with
        | none => rfl
        | some v => exact absurd (by rw [hz]; rfl) c125
      have e5 := thr_0 hn
      refine g_iconstv (nI 0) d0_coinsBy_141 rfl ?_
      exact g_iret rfl d0_coinsBy_142 (⟨x, hF, by first | (rw [e5, hv v hz]; rfl) | rw [e5], rfl⟩)
    · obtain ⟨v, hz⟩ := Option.isSome_iff_exists.mp c125
      have e5 := thr_1 hz
      refine g_aload_n d0_coinsBy_128 rfl ?_
      refine g_get fl0_12 d0_coinsBy_129 f_29_2 ?_
      refine g_iconstv (nI 0) d0_coinsBy_132 rfl ?_
      refine g_bipushv (nI 12) d0_coinsBy_133 rfl ?_
      refine g_EV2 vm5_toldWithin ml0_129 c_30 (r5_30_told (I := x.1) (L := x.2) 12 (by decide) (Nat.le_refl 1)) (by omega) (Nat.le_of_ble_eq_true rfl) d0_coinsBy_135 ?_
      refine g_goto 142 d0_coinsBy_138 rfl ?_
      exact g_iret rfl d0_coinsBy_142 (⟨x, hF, by first | (rw [e5, hv v hz]; rfl) | rw [e5], rfl⟩)
set_option maxHeartbeats 1000000 in
theorem r0_walk {l : Launch} {K : cK} {d : Nat} {I : wI} {L : wL} {R : wR} {dy : cH} (g : Nat → Int32) (wa : Int32) (hw : WW I g wa) (lc : Option (List Cl)) (hL : LWc dy (R 21 1) lc) (c fr ti se fl coin per fine : Nat) (hS : STA I c fr ti se fl coin per fine) (T : Nat) (cs : List Cl) (hC : CTX dy T cs) (s at_ p cmv_ : Nat) (hs1 : fr ≤ s) (hs2 : s ≤ ti) (ha1 : 13 ≤ at_) (ha2 : at_ < 169) (hp0 : L 37 at_ = lN p) (hp9 : p ≤ 1000000000000) (hp10 : p = 10 * (p / 10)) (hc : I 26 (s * 13 + at_ / 13) = nI cmv_) (hc9 : cmv_ ≤ 10) (N : Nat → Nat) (hN : ∀ q, q < 169 → L 38 q = lN (N q)) (hd : 4 ≤ d) : CX l K m0_walk d [.ref 29, .ref T, .int (nI s), .int (nI at_)] (hp I L R dy) (α := wI × wL) (fun x => FK [22, 23, 30, 31] [22, 24, 30, 32, 38] I L x.1 x.2 ∧ WW x.1 g wa ∧ ∀ q, q < 169 → x.2 38 q = lN (N q + (if q = 13 + les (pdb per (at_ % 13) (thr (txF cs) coin per fr ti se s (at_ / 13) (at_ % 13))) then p / 10 * cmv_ else 0) + (if q = 13 * lat (at_ / 13) + les (pdb per (at_ % 13) (thr (txF cs) coin per fr ti se s (at_ / 13) (at_ % 13))) then p / 10 * (10 - cmv_) else 0))) (fun _ => .long (lN (p * prc coin fr fl s (thr (txF cs) coin per fr ti se s (at_ / 13) (at_ % 13)) + (if 0 < (pdb per (at_ % 13) (thr (txF cs) coin per fr ti se s (at_ / 13) (at_ % 13))) then 0 else p / 10 * cmv_ * (fnR g wa (lfO lc) c fr fine s (at_ / 13)))))) (fun x => hp x.1 x.2 R dy) := by
  refine CC.of ok0_walk (Nat.le_of_ble_eq_true rfl) ?_
  obtain ⟨u0, u1, u2, u3, u4, u5, u6, u7, u8, u9, u10, u11, u12, u13, u14, u15⟩ := id hS
  have hco : (thr (txF cs) coin per fr ti se s (at_ / 13) (at_ % 13)) ≤ 12 := thr_le _ _ _ _ _ _ _ _ _
  have hpb := pdb_le per (at_ % 13) (thr (txF cs) coin per fr ti se s (at_ / 13) (at_ % 13))
  have hpr := prc_le (fr := fr) (s := s) (n := (thr (txF cs) coin per fr ti se s (at_ / 13) (at_ % 13))) u13 u12 hco
  obtain ⟨aw, aw2⟩ := away_eq hp10 hc9
  have hl2 := lat_2 (k := at_ / 13) (by omega)
  obtain ⟨hl3, hl4⟩ := lat_le (k := at_ / 13) (by omega) (by omega)
  have hle := les_le hpb
  have hfn9 := fnR_le g wa (lfO lc) c fr s (at_ / 13) u15
  have hN1 := hN (13 + les (pdb per (at_ % 13) (thr (txF cs) coin per fr ti se s (at_ / 13) (at_ % 13)))) (by omega)
  have hN2 := hN (13 * lat (at_ / 13) + les (pdb per (at_ % 13) (thr (txF cs) coin per fr ti se s (at_ / 13) (at_ % 13)))) (by omega)
  by_cases h0 : 0 < (pdb per (at_ % 13) (thr (txF cs) coin per fr ti se s (at_ / 13) (at_ % 13)))
  · rw [if_pos h0]
    refine g_iload_n d0_walk_0 rfl ?_
    refine g_bipushv (nI 13) d0_walk_1 rfl ?_
    refine g_idiv d0_walk_3 (by decide) ?_
    refine g_topI (nI (at_ / 13)) (pk_div (d := 13) (by omega) (by omega) (by omega)) ?_
    refine g_istore d0_walk_4 (by decide) ?_
    refine g_iload_n d0_walk_6 rfl ?_
    refine g_bipushv (nI 13) d0_walk_7 rfl ?_
    refine g_irem d0_walk_9 (by decide) ?_
    refine g_topI (nI (at_ % 13)) (pk_rem (d := 13) (by omega) (by omega) (by omega)) ?_
    refine g_istore d0_walk_10 (by decide) ?_
    refine g_aload_n d0_walk_12 rfl ?_
    refine g_get fl0_32 d0_walk_13 f_29_7 ?_
    refine g_iload_n d0_walk_16 rfl ?_
    refine g_laldN (at_) d0_walk_17 a_37 (rfl) (by omega) (by decide) ?_
    refine g_topL (lN (p)) (hp0) ?_
    refine g_lstore d0_walk_18 (by decide) ?_
    refine g_aload_n d0_walk_20 rfl ?_
    refine g_aload_n d0_walk_21 rfl ?_
    refine g_iload_n d0_walk_22 rfl ?_
    refine g_iload d0_walk_23 rfl ?_
    refine g_iload d0_walk_25 rfl ?_
    refine g_XV4 vm0_coinsBy ml0_145 c_29 (r0_coinsBy (I := I) (L := L) c fr ti se fl coin per fine hS T cs hC s (at_ / 13) (at_ % 13) hs1 hs2 (by omega) (by omega) (Nat.le_refl 3)) (by omega) (Nat.le_of_ble_eq_true rfl) d0_walk_27 (fun x hx => ?_)
    obtain ⟨I4, L4⟩ := x
    dsimp only at hx ⊢
    have z4 : STA I4 c fr ti se fl coin per fine := hS.of (hx.1 28 (by decide))
    have w4 : WW I4 g wa := hw.of (hx.1 23 (by decide))
    have e38 : L4 38 = L 38 := hx.2 38 (by decide)
    have F4 : FK [22, 23, 30, 31] [22, 24, 30, 32, 38] I L I4 L4 := hx.up (by decide) (by decide)
    refine g_istore d0_walk_30 (by decide) ?_
    refine g_aload_n d0_walk_32 rfl ?_
    refine g_get fl0_42 d0_walk_33 f_29_1 ?_
    refine g_iload d0_walk_36 rfl ?_
    refine g_iload d0_walk_38 rfl ?_
    refine g_EV2 vm7_paidWith ml0_75 c_28 (r7_paid (I := I4) (L := L4) c fr ti se fl coin per fine z4 (at_ % 13) (thr (txF cs) coin per fr ti se s (at_ / 13) (at_ % 13)) (by omega) hco (Nat.le_refl 1)) (by omega) (Nat.le_of_ble_eq_true rfl) d0_walk_40 ?_
    refine g_istore d0_walk_43 (by decide) ?_
    refine g_lload d0_walk_45 rfl ?_
    refine g_ldc2 d0_walk_47 kl0_149 ?_
    refine g_ldiv d0_walk_50 (by decide) ?_
    refine g_topL (lN (p / 10)) (pk_lDiv (b := 10) (by omega) (by omega) (by omega)) ?_
    refine g_aload_n d0_walk_51 rfl ?_
    refine g_get fl0_38 d0_walk_52 f_29_0 ?_
    refine g_iload_n d0_walk_55 rfl ?_
    refine g_iload d0_walk_56 rfl ?_
    refine g_EV2 vm10_comesMet ml0_151 c_21 (r10_met (I := I4) (L := L4) s (at_ / 13) cmv_ (by omega) (by omega) (by rw [hx.1 26 (by decide)]; exact hc) (Nat.le_refl 0)) (by omega) (Nat.le_of_ble_eq_true rfl) d0_walk_58 ?_
    refine g_i2lN (by omega) d0_walk_61 ?_
    refine g_lmul d0_walk_62 ?_
    refine g_topL (lN ((p / 10) * cmv_)) (lN_mul _ _) ?_
    refine g_lstore d0_walk_63 (by decide) ?_
    refine g_lload d0_walk_65 rfl ?_
    refine g_aload_n d0_walk_67 rfl ?_
    refine g_get fl0_42 d0_walk_68 f_29_1 ?_
    refine g_iload d0_walk_71 rfl ?_
    refine g_iload_n d0_walk_73 rfl ?_
    refine g_EV2 vm7_price ml0_86 c_28 (r7_price (I := I4) (L := L4) c fr ti se fl coin per fine z4 (thr (txF cs) coin per fr ti se s (at_ / 13) (at_ % 13)) s hco (by omega) (Nat.le_refl 0)) (by omega) (Nat.le_of_ble_eq_true rfl) d0_walk_74 ?_
    refine g_i2lN (by omega) d0_walk_77 ?_
    refine g_lmul d0_walk_78 ?_
    refine g_topL (lN (p * (prc coin fr fl s (thr (txF cs) coin per fr ti se s (at_ / 13) (at_ % 13))))) (lN_mul _ _) ?_
    refine g_lstore d0_walk_79 (by decide) ?_
    refine g_iload d0_walk_81 rfl ?_
    refine g_iz_ne (((pdb per (at_ % 13) (thr (txF cs) coin per fr ti se s (at_ / 13) (at_ % 13))) : Nat) : Int) 116 (nI_ti (by omega)) d0_walk_83 rfl (fun _ => ?_) (fun c83 => absurd c83 (by omega))
    refine g_iconstv (nI 0) d0_walk_116 rfl ?_
    refine g_iload d0_walk_117 rfl ?_
    refine g_iconstv (nI 1) d0_walk_119 rfl ?_
    refine g_isub d0_walk_120 ?_
    refine g_max ml0_103 (by omega) (Nat.le_of_ble_eq_true rfl) d0_walk_121 ?_
    refine g_topI (nI ((les (pdb per (at_ % 13) (thr (txF cs) coin per fr ti se s (at_ / 13) (at_ % 13)))))) (mx_les hpb) ?_
    refine g_istore d0_walk_124 (by decide) ?_
    refine g_aload_n d0_walk_126 rfl ?_
    refine g_get fl0_35 d0_walk_127 f_29_8 ?_
    refine g_bipushv (nI 13) d0_walk_130 rfl ?_
    refine g_iload d0_walk_132 rfl ?_
    refine g_iaddN d0_walk_134 ?_
    refine g_dup2 d0_walk_135 rfl rfl ?_
    refine g_laldN ((13 + (les (pdb per (at_ % 13) (thr (txF cs) coin per fr ti se s (at_ / 13) (at_ % 13)))))) d0_walk_136 a_38 (rfl) (by omega) (by decide) ?_
    refine g_topL (lN ((N (13 + les (pdb per (at_ % 13) (thr (txF cs) coin per fr ti se s (at_ / 13) (at_ % 13))))))) (by rw [e38]; exact hN1) ?_
    refine g_lload d0_walk_137 rfl ?_
    refine g_ladd d0_walk_139 ?_
    refine g_topL (lN ((N (13 + les (pdb per (at_ % 13) (thr (txF cs) coin per fr ti se s (at_ / 13) (at_ % 13))))) + ((p / 10) * cmv_))) (lN_add _ _) ?_
    refine g_lastN ((13 + (les (pdb per (at_ % 13) (thr (txF cs) coin per fr ti se s (at_ / 13) (at_ % 13)))))) _ d0_walk_140 a_38 (rfl) (by omega) (by decide) t_38 ?_
    refine g_aload_n d0_walk_141 rfl ?_
    refine g_get fl0_35 d0_walk_142 f_29_8 ?_
    refine g_bipushv (nI 12) d0_walk_145 rfl ?_
    refine g_iload d0_walk_147 rfl ?_
    refine g_iconstv (nI 1) d0_walk_149 rfl ?_
    refine g_iaddN d0_walk_150 ?_
    refine g_min ml0_79 (by omega) (Nat.le_of_ble_eq_true rfl) d0_walk_151 ?_
    refine g_topI (nI ((lat (at_ / 13)))) (mn_lat (by omega)) ?_
    refine g_bipushv (nI 13) d0_walk_154 rfl ?_
    refine g_imulN d0_walk_156 ?_
    refine g_iload d0_walk_157 rfl ?_
    refine g_iaddN d0_walk_159 ?_
    refine g_dup2 d0_walk_160 rfl rfl ?_
    refine g_laldN ((((lat (at_ / 13)) * 13) + (les (pdb per (at_ % 13) (thr (txF cs) coin per fr ti se s (at_ / 13) (at_ % 13)))))) d0_walk_161 a_38 (rfl) (by omega) (by decide) ?_
    refine g_topL (lN ((N (13 * lat (at_ / 13) + les (pdb per (at_ % 13) (thr (txF cs) coin per fr ti se s (at_ / 13) (at_ % 13))))))) (by rw [uL_sn (by omega), e38, Nat.mul_comm (lat (at_ / 13)) 13]; exact hN2) ?_
    refine g_lload d0_walk_162 rfl ?_
    refine g_lload d0_walk_164 rfl ?_
    refine g_lsub d0_walk_166 ?_
    refine g_topL (lN (p - ((p / 10) * cmv_))) (lN_sub (aw2)) ?_
    refine g_ladd d0_walk_167 ?_
    refine g_topL (lN ((N (13 * lat (at_ / 13) + les (pdb per (at_ % 13) (thr (txF cs) coin per fr ti se s (at_ / 13) (at_ % 13))))) + (p - ((p / 10) * cmv_)))) (lN_add _ _) ?_
    refine g_lastN ((((lat (at_ / 13)) * 13) + (les (pdb per (at_ % 13) (thr (txF cs) coin per fr ti se s (at_ / 13) (at_ % 13)))))) _ d0_walk_168 a_38 (rfl) (by omega) (by decide) t_38 ?_
    refine g_lload d0_walk_169 rfl ?_
    refine g_lret rfl d0_walk_171 ⟨(I4, (uL (uL L4 38 (13 + les (pdb per (at_ % 13) (thr (txF cs) coin per fr ti se s (at_ / 13) (at_ % 13)))) (lN (N (13 + les (pdb per (at_ % 13) (thr (txF cs) coin per fr ti se s (at_ / 13) (at_ % 13)))) + p / 10 * cmv_))) 38 (lat (at_ / 13) * 13 + les (pdb per (at_ % 13) (thr (txF cs) coin per fr ti se s (at_ / 13) (at_ % 13)))) (lN (N (13 * lat (at_ / 13) + les (pdb per (at_ % 13) (thr (txF cs) coin per fr ti se s (at_ / 13) (at_ % 13)))) + (p - p / 10 * cmv_))))), ⟨(F4.ul (by decide)).ul (by decide), w4, fun q hq => ?_⟩, ?_, rfl⟩
    · show (uL (uL L4 38 (13 + les (pdb per (at_ % 13) (thr (txF cs) coin per fr ti se s (at_ / 13) (at_ % 13)))) (lN (N (13 + les (pdb per (at_ % 13) (thr (txF cs) coin per fr ti se s (at_ / 13) (at_ % 13)))) + p / 10 * cmv_))) 38 (lat (at_ / 13) * 13 + les (pdb per (at_ % 13) (thr (txF cs) coin per fr ti se s (at_ / 13) (at_ % 13)))) (lN (N (13 * lat (at_ / 13) + les (pdb per (at_ % 13) (thr (txF cs) coin per fr ti se s (at_ / 13) (at_ % 13)))) + (p - p / 10 * cmv_)))) 38 q = _
      rw [aw]
      by_cases e1 : q = 13 * lat (at_ / 13) + les (pdb per (at_ % 13) (thr (txF cs) coin per fr ti se s (at_ / 13) (at_ % 13)))
      · rw [if_pos e1, if_neg (by omega), e1, Nat.mul_comm (lat (at_ / 13)) 13, uL_ss]; rfl
      · rw [if_neg e1, uL_sn (by omega)]
        by_cases e2 : q = 13 + les (pdb per (at_ % 13) (thr (txF cs) coin per fr ti se s (at_ / 13) (at_ % 13)))
        · rw [if_pos e2, e2, uL_ss]; rfl
        · rw [if_neg e2, uL_sn e2, e38, hN q hq]; rfl
    · show some (Value.long (lN (p * prc coin fr fl s (thr (txF cs) coin per fr ti se s (at_ / 13) (at_ % 13))))) = _; rfl
  · rw [if_neg h0]
    by_cases h1 : p / 10 * cmv_ = 0
    · skip
      refine g_iload_n d0_walk_0 rfl ?_
      refine g_bipushv (nI 13) d0_walk_1 rfl ?_
      refine g_idiv d0_walk_3 (by decide) ?_
      refine g_topI (nI (at_ / 13)) (pk_div (d := 13) (by omega) (by omega) (by omega)) ?_
      refine g_istore d0_walk_4 (by decide) ?_
      refine g_iload_n d0_walk_6 rfl ?_
      refine g_bipushv (nI 13) d0_walk_7 rfl ?_
      refine g_irem d0_walk_9 (by decide) ?_
      refine g_topI (nI (at_ % 13)) (pk_rem (d := 13) (by omega) (by omega) (by omega)) ?_
      refine g_istore d0_walk_10 (by decide) ?_
      refine g_aload_n d0_walk_12 rfl ?_
      refine g_get fl0_32 d0_walk_13 f_29_7 ?_
      refine g_iload_n d0_walk_16 rfl ?_
      refine g_laldN (at_) d0_walk_17 a_37 (rfl) (by omega) (by decide) ?_
      refine g_topL (lN (p)) (hp0) ?_
      refine g_lstore d0_walk_18 (by decide) ?_
      refine g_aload_n d0_walk_20 rfl ?_
      refine g_aload_n d0_walk_21 rfl ?_
      refine g_iload_n d0_walk_22 rfl ?_
      refine g_iload d0_walk_23 rfl ?_
      refine g_iload d0_walk_25 rfl ?_
      refine g_XV4 vm0_coinsBy ml0_145 c_29 (r0_coinsBy (I := I) (L := L) c fr ti se fl coin per fine hS T cs hC s (at_ / 13) (at_ % 13) hs1 hs2 (by omega) (by omega) (Nat.le_refl 3)) (by omega) (Nat.le_of_ble_eq_true rfl) d0_walk_27 (fun x hx => ?_)
      obtain ⟨I4, L4⟩ := x
      dsimp only at hx ⊢
      have z4 : STA I4 c fr ti se fl coin per fine := hS.of (hx.1 28 (by decide))
      have w4 : WW I4 g wa := hw.of (hx.1 23 (by decide))
      have e38 : L4 38 = L 38 := hx.2 38 (by decide)
      have F4 : FK [22, 23, 30, 31] [22, 24, 30, 32, 38] I L I4 L4 := hx.up (by decide) (by decide)
      refine g_istore d0_walk_30 (by decide) ?_
      refine g_aload_n d0_walk_32 rfl ?_
      refine g_get fl0_42 d0_walk_33 f_29_1 ?_
      refine g_iload d0_walk_36 rfl ?_
      refine g_iload d0_walk_38 rfl ?_
      refine g_EV2 vm7_paidWith ml0_75 c_28 (r7_paid (I := I4) (L := L4) c fr ti se fl coin per fine z4 (at_ % 13) (thr (txF cs) coin per fr ti se s (at_ / 13) (at_ % 13)) (by omega) hco (Nat.le_refl 1)) (by omega) (Nat.le_of_ble_eq_true rfl) d0_walk_40 ?_
      refine g_istore d0_walk_43 (by decide) ?_
      refine g_lload d0_walk_45 rfl ?_
      refine g_ldc2 d0_walk_47 kl0_149 ?_
      refine g_ldiv d0_walk_50 (by decide) ?_
      refine g_topL (lN (p / 10)) (pk_lDiv (b := 10) (by omega) (by omega) (by omega)) ?_
      refine g_aload_n d0_walk_51 rfl ?_
      refine g_get fl0_38 d0_walk_52 f_29_0 ?_
      refine g_iload_n d0_walk_55 rfl ?_
      refine g_iload d0_walk_56 rfl ?_
      refine g_EV2 vm10_comesMet ml0_151 c_21 (r10_met (I := I4) (L := L4) s (at_ / 13) cmv_ (by omega) (by omega) (by rw [hx.1 26 (by decide)]; exact hc) (Nat.le_refl 0)) (by omega) (Nat.le_of_ble_eq_true rfl) d0_walk_58 ?_
      refine g_i2lN (by omega) d0_walk_61 ?_
      refine g_lmul d0_walk_62 ?_
      refine g_topL (lN ((p / 10) * cmv_)) (lN_mul _ _) ?_
      refine g_lstore d0_walk_63 (by decide) ?_
      refine g_lload d0_walk_65 rfl ?_
      refine g_aload_n d0_walk_67 rfl ?_
      refine g_get fl0_42 d0_walk_68 f_29_1 ?_
      refine g_iload d0_walk_71 rfl ?_
      refine g_iload_n d0_walk_73 rfl ?_
      refine g_EV2 vm7_price ml0_86 c_28 (r7_price (I := I4) (L := L4) c fr ti se fl coin per fine z4 (thr (txF cs) coin per fr ti se s (at_ / 13) (at_ % 13)) s hco (by omega) (Nat.le_refl 0)) (by omega) (Nat.le_of_ble_eq_true rfl) d0_walk_74 ?_
      refine g_i2lN (by omega) d0_walk_77 ?_
      refine g_lmul d0_walk_78 ?_
      refine g_topL (lN (p * (prc coin fr fl s (thr (txF cs) coin per fr ti se s (at_ / 13) (at_ % 13))))) (lN_mul _ _) ?_
      refine g_lstore d0_walk_79 (by decide) ?_
      refine g_iload d0_walk_81 rfl ?_
      refine g_iz_ne (((pdb per (at_ % 13) (thr (txF cs) coin per fr ti se s (at_ / 13) (at_ % 13))) : Nat) : Int) 116 (nI_ti (by omega)) d0_walk_83 rfl (fun c83 => absurd c83 (by omega)) (fun _ => ?_)
      refine g_lload d0_walk_86 rfl ?_
      refine g_lconstv (0) d0_walk_88 rfl ?_
      refine g_lx_le ((((p / 10) * cmv_) : Nat) : Int) (0) 116 (pk_lT (by omega)) (by decide) d0_walk_89 d0_walk_90 rfl (fun _ => ?_) (fun c89 => absurd c89 (by omega))
      refine g_iconstv (nI 0) d0_walk_116 rfl ?_
      refine g_iload d0_walk_117 rfl ?_
      refine g_iconstv (nI 1) d0_walk_119 rfl ?_
      refine g_isub d0_walk_120 ?_
      refine g_max ml0_103 (by omega) (Nat.le_of_ble_eq_true rfl) d0_walk_121 ?_
      refine g_topI (nI ((les (pdb per (at_ % 13) (thr (txF cs) coin per fr ti se s (at_ / 13) (at_ % 13)))))) (mx_les hpb) ?_
      refine g_istore d0_walk_124 (by decide) ?_
      refine g_aload_n d0_walk_126 rfl ?_
      refine g_get fl0_35 d0_walk_127 f_29_8 ?_
      refine g_bipushv (nI 13) d0_walk_130 rfl ?_
      refine g_iload d0_walk_132 rfl ?_
      refine g_iaddN d0_walk_134 ?_
      refine g_dup2 d0_walk_135 rfl rfl ?_
      refine g_laldN ((13 + (les (pdb per (at_ % 13) (thr (txF cs) coin per fr ti se s (at_ / 13) (at_ % 13)))))) d0_walk_136 a_38 (rfl) (by omega) (by decide) ?_
      refine g_topL (lN ((N (13 + les (pdb per (at_ % 13) (thr (txF cs) coin per fr ti se s (at_ / 13) (at_ % 13))))))) (by rw [e38]; exact hN1) ?_
      refine g_lload d0_walk_137 rfl ?_
      refine g_ladd d0_walk_139 ?_
      refine g_topL (lN ((N (13 + les (pdb per (at_ % 13) (thr (txF cs) coin per fr ti se s (at_ / 13) (at_ % 13))))) + ((p / 10) * cmv_))) (lN_add _ _) ?_
      refine g_lastN ((13 + (les (pdb per (at_ % 13) (thr (txF cs) coin per fr ti se s (at_ / 13) (at_ % 13)))))) _ d0_walk_140 a_38 (rfl) (by omega) (by decide) t_38 ?_
      refine g_aload_n d0_walk_141 rfl ?_
      refine g_get fl0_35 d0_walk_142 f_29_8 ?_
      refine g_bipushv (nI 12) d0_walk_145 rfl ?_
      refine g_iload d0_walk_147 rfl ?_
      refine g_iconstv (nI 1) d0_walk_149 rfl ?_
      refine g_iaddN d0_walk_150 ?_
      refine g_min ml0_79 (by omega) (Nat.le_of_ble_eq_true rfl) d0_walk_151 ?_
      refine g_topI (nI ((lat (at_ / 13)))) (mn_lat (by omega)) ?_
      refine g_bipushv (nI 13) d0_walk_154 rfl ?_
      refine g_imulN d0_walk_156 ?_
      refine g_iload d0_walk_157 rfl ?_
      refine g_iaddN d0_walk_159 ?_
      refine g_dup2 d0_walk_160 rfl rfl ?_
      refine g_laldN ((((lat (at_ / 13)) * 13) + (les (pdb per (at_ % 13) (thr (txF cs) coin per fr ti se s (at_ / 13) (at_ % 13)))))) d0_walk_161 a_38 (rfl) (by omega) (by decide) ?_
      refine g_topL (lN ((N (13 * lat (at_ / 13) + les (pdb per (at_ % 13) (thr (txF cs) coin per fr ti se s (at_ / 13) (at_ % 13))))))) (by rw [uL_sn (by omega), e38, Nat.mul_comm (lat (at_ / 13)) 13]; exact hN2) ?_
      refine g_lload d0_walk_162 rfl ?_
      refine g_lload d0_walk_164 rfl ?_
      refine g_lsub d0_walk_166 ?_
      refine g_topL (lN (p - ((p / 10) * cmv_))) (lN_sub (aw2)) ?_
      refine g_ladd d0_walk_167 ?_
      refine g_topL (lN ((N (13 * lat (at_ / 13) + les (pdb per (at_ % 13) (thr (txF cs) coin per fr ti se s (at_ / 13) (at_ % 13))))) + (p - ((p / 10) * cmv_)))) (lN_add _ _) ?_
      refine g_lastN ((((lat (at_ / 13)) * 13) + (les (pdb per (at_ % 13) (thr (txF cs) coin per fr ti se s (at_ / 13) (at_ % 13)))))) _ d0_walk_168 a_38 (rfl) (by omega) (by decide) t_38 ?_
      refine g_lload d0_walk_169 rfl ?_
      refine g_lret rfl d0_walk_171 ⟨(I4, (uL (uL L4 38 (13 + les (pdb per (at_ % 13) (thr (txF cs) coin per fr ti se s (at_ / 13) (at_ % 13)))) (lN (N (13 + les (pdb per (at_ % 13) (thr (txF cs) coin per fr ti se s (at_ / 13) (at_ % 13)))) + p / 10 * cmv_))) 38 (lat (at_ / 13) * 13 + les (pdb per (at_ % 13) (thr (txF cs) coin per fr ti se s (at_ / 13) (at_ % 13)))) (lN (N (13 * lat (at_ / 13) + les (pdb per (at_ % 13) (thr (txF cs) coin per fr ti se s (at_ / 13) (at_ % 13)))) + (p - p / 10 * cmv_))))), ⟨(F4.ul (by decide)).ul (by decide), w4, fun q hq => ?_⟩, ?_, rfl⟩
      · show (uL (uL L4 38 (13 + les (pdb per (at_ % 13) (thr (txF cs) coin per fr ti se s (at_ / 13) (at_ % 13)))) (lN (N (13 + les (pdb per (at_ % 13) (thr (txF cs) coin per fr ti se s (at_ / 13) (at_ % 13)))) + p / 10 * cmv_))) 38 (lat (at_ / 13) * 13 + les (pdb per (at_ % 13) (thr (txF cs) coin per fr ti se s (at_ / 13) (at_ % 13)))) (lN (N (13 * lat (at_ / 13) + les (pdb per (at_ % 13) (thr (txF cs) coin per fr ti se s (at_ / 13) (at_ % 13)))) + (p - p / 10 * cmv_)))) 38 q = _
        rw [aw]
        by_cases e1 : q = 13 * lat (at_ / 13) + les (pdb per (at_ % 13) (thr (txF cs) coin per fr ti se s (at_ / 13) (at_ % 13)))
        · rw [if_pos e1, if_neg (by omega), e1, Nat.mul_comm (lat (at_ / 13)) 13, uL_ss]; rfl
        · rw [if_neg e1, uL_sn (by omega)]
          by_cases e2 : q = 13 + les (pdb per (at_ % 13) (thr (txF cs) coin per fr ti se s (at_ / 13) (at_ % 13)))
          · rw [if_pos e2, e2, uL_ss]; rfl
          · rw [if_neg e2, uL_sn e2, e38, hN q hq]; rfl
      · rw [h1, Nat.zero_mul]; rfl
    · skip
      refine g_iload_n d0_walk_0 rfl ?_
      refine g_bipushv (nI 13) d0_walk_1 rfl ?_
      refine g_idiv d0_walk_3 (by decide) ?_
      refine g_topI (nI (at_ / 13)) (pk_div (d := 13) (by omega) (by omega) (by omega)) ?_
      refine g_istore d0_walk_4 (by decide) ?_
      refine g_iload_n d0_walk_6 rfl ?_
      refine g_bipushv (nI 13) d0_walk_7 rfl ?_
      refine g_irem d0_walk_9 (by decide) ?_
      refine g_topI (nI (at_ % 13)) (pk_rem (d := 13) (by omega) (by omega) (by omega)) ?_
      refine g_istore d0_walk_10 (by decide) ?_
      refine g_aload_n d0_walk_12 rfl ?_
      refine g_get fl0_32 d0_walk_13 f_29_7 ?_
      refine g_iload_n d0_walk_16 rfl ?_
      refine g_laldN (at_) d0_walk_17 a_37 (rfl) (by omega) (by decide) ?_
      refine g_topL (lN (p)) (hp0) ?_
      refine g_lstore d0_walk_18 (by decide) ?_
      refine g_aload_n d0_walk_20 rfl ?_
      refine g_aload_n d0_walk_21 rfl ?_
      refine g_iload_n d0_walk_22 rfl ?_
      refine g_iload d0_walk_23 rfl ?_
      refine g_iload d0_walk_25 rfl ?_
      refine g_XV4 vm0_coinsBy ml0_145 c_29 (r0_coinsBy (I := I) (L := L) c fr ti se fl coin per fine hS T cs hC s (at_ / 13) (at_ % 13) hs1 hs2 (by omega) (by omega) (Nat.le_refl 3)) (by omega) (Nat.le_of_ble_eq_true rfl) d0_walk_27 (fun x hx => ?_)
      obtain ⟨I4, L4⟩ := x
      dsimp only at hx ⊢
      have z4 : STA I4 c fr ti se fl coin per fine := hS.of (hx.1 28 (by decide))
      have w4 : WW I4 g wa := hw.of (hx.1 23 (by decide))
      have e38 : L4 38 = L 38 := hx.2 38 (by decide)
      have F4 : FK [22, 23, 30, 31] [22, 24, 30, 32, 38] I L I4 L4 := hx.up (by decide) (by decide)
      refine g_istore d0_walk_30 (by decide) ?_
      refine g_aload_n d0_walk_32 rfl ?_
      refine g_get fl0_42 d0_walk_33 f_29_1 ?_
      refine g_iload d0_walk_36 rfl ?_
      refine g_iload d0_walk_38 rfl ?_
      refine g_EV2 vm7_paidWith ml0_75 c_28 (r7_paid (I := I4) (L := L4) c fr ti se fl coin per fine z4 (at_ % 13) (thr (txF cs) coin per fr ti se s (at_ / 13) (at_ % 13)) (by omega) hco (Nat.le_refl 1)) (by omega) (Nat.le_of_ble_eq_true rfl) d0_walk_40 ?_
      refine g_istore d0_walk_43 (by decide) ?_
      refine g_lload d0_walk_45 rfl ?_
      refine g_ldc2 d0_walk_47 kl0_149 ?_
      refine g_ldiv d0_walk_50 (by decide) ?_
      refine g_topL (lN (p / 10)) (pk_lDiv (b := 10) (by omega) (by omega) (by omega)) ?_
      refine g_aload_n d0_walk_51 rfl ?_
      refine g_get fl0_38 d0_walk_52 f_29_0 ?_
      refine g_iload_n d0_walk_55 rfl ?_
      refine g_iload d0_walk_56 rfl ?_
      refine g_EV2 vm10_comesMet ml0_151 c_21 (r10_met (I := I4) (L := L4) s (at_ / 13) cmv_ (by omega) (by omega) (by rw [hx.1 26 (by decide)]; exact hc) (Nat.le_refl 0)) (by omega) (Nat.le_of_ble_eq_true rfl) d0_walk_58 ?_
      refine g_i2lN (by omega) d0_walk_61 ?_
      refine g_lmul d0_walk_62 ?_
      refine g_topL (lN ((p / 10) * cmv_)) (lN_mul _ _) ?_
      refine g_lstore d0_walk_63 (by decide) ?_
      refine g_lload d0_walk_65 rfl ?_
      refine g_aload_n d0_walk_67 rfl ?_
      refine g_get fl0_42 d0_walk_68 f_29_1 ?_
      refine g_iload d0_walk_71 rfl ?_
      refine g_iload_n d0_walk_73 rfl ?_
      refine g_EV2 vm7_price ml0_86 c_28 (r7_price (I := I4) (L := L4) c fr ti se fl coin per fine z4 (thr (txF cs) coin per fr ti se s (at_ / 13) (at_ % 13)) s hco (by omega) (Nat.le_refl 0)) (by omega) (Nat.le_of_ble_eq_true rfl) d0_walk_74 ?_
      refine g_i2lN (by omega) d0_walk_77 ?_
      refine g_lmul d0_walk_78 ?_
      refine g_topL (lN (p * (prc coin fr fl s (thr (txF cs) coin per fr ti se s (at_ / 13) (at_ % 13))))) (lN_mul _ _) ?_
      refine g_lstore d0_walk_79 (by decide) ?_
      refine g_iload d0_walk_81 rfl ?_
      refine g_iz_ne (((pdb per (at_ % 13) (thr (txF cs) coin per fr ti se s (at_ / 13) (at_ % 13))) : Nat) : Int) 116 (nI_ti (by omega)) d0_walk_83 rfl (fun c83 => absurd c83 (by omega)) (fun _ => ?_)
      refine g_lload d0_walk_86 rfl ?_
      refine g_lconstv (0) d0_walk_88 rfl ?_
      refine g_lx_le ((((p / 10) * cmv_) : Nat) : Int) (0) 116 (pk_lT (by omega)) (by decide) d0_walk_89 d0_walk_90 rfl (fun c89 => absurd c89 (by omega)) (fun _ => ?_)
      refine g_lload d0_walk_93 rfl ?_
      refine g_lload d0_walk_95 rfl ?_
      refine g_aload_n d0_walk_97 rfl ?_
      refine g_get fl0_38 d0_walk_98 f_29_0 ?_
      refine g_iload_n d0_walk_101 rfl ?_
      refine g_iload d0_walk_102 rfl ?_
      refine g_aload_n d0_walk_104 rfl ?_
      refine g_get fl0_42 d0_walk_105 f_29_1 ?_
      refine g_XV3 vm10_finesOf ml0_154 c_21 (r10_finesOf (I := I4) (L := L4) g wa w4 lc hL c fr ti se fl coin per fine z4 s (at_ / 13) hs1 (by omega) (by omega) (Nat.le_refl 3)) (by omega) (Nat.le_of_ble_eq_true rfl) d0_walk_108 (fun y hy => ?_)
      obtain ⟨I5, L5⟩ := y
      obtain ⟨f5, w5⟩ := hy
      dsimp only at f5 w5 ⊢
      have e385 : L5 38 = L 38 := (f5.2 38 (by decide)).trans e38
      have F5 : FK [22, 23, 30, 31] [22, 24, 30, 32, 38] I L I5 L5 := F4.tr (f5.up (by decide) (by decide))
      refine g_i2lN (by omega) d0_walk_111 ?_
      refine g_lmul d0_walk_112 ?_
      refine g_topL (lN (((p / 10) * cmv_) * (fnR g wa (lfO lc) c fr fine s (at_ / 13)))) (lN_mul _ _) ?_
      refine g_ladd d0_walk_113 ?_
      refine g_topL (lN ((p * (prc coin fr fl s (thr (txF cs) coin per fr ti se s (at_ / 13) (at_ % 13)))) + (((p / 10) * cmv_) * (fnR g wa (lfO lc) c fr fine s (at_ / 13))))) (lN_add _ _) ?_
      refine g_lstore d0_walk_114 (by decide) ?_
      refine g_iconstv (nI 0) d0_walk_116 rfl ?_
      refine g_iload d0_walk_117 rfl ?_
      refine g_iconstv (nI 1) d0_walk_119 rfl ?_
      refine g_isub d0_walk_120 ?_
      refine g_max ml0_103 (by omega) (Nat.le_of_ble_eq_true rfl) d0_walk_121 ?_
      refine g_topI (nI ((les (pdb per (at_ % 13) (thr (txF cs) coin per fr ti se s (at_ / 13) (at_ % 13)))))) (mx_les hpb) ?_
      refine g_istore d0_walk_124 (by decide) ?_
      refine g_aload_n d0_walk_126 rfl ?_
      refine g_get fl0_35 d0_walk_127 f_29_8 ?_
      refine g_bipushv (nI 13) d0_walk_130 rfl ?_
      refine g_iload d0_walk_132 rfl ?_
      refine g_iaddN d0_walk_134 ?_
      refine g_dup2 d0_walk_135 rfl rfl ?_
      refine g_laldN ((13 + (les (pdb per (at_ % 13) (thr (txF cs) coin per fr ti se s (at_ / 13) (at_ % 13)))))) d0_walk_136 a_38 (rfl) (by omega) (by decide) ?_
      refine g_topL (lN ((N (13 + les (pdb per (at_ % 13) (thr (txF cs) coin per fr ti se s (at_ / 13) (at_ % 13))))))) (by rw [e385]; exact hN1) ?_
      refine g_lload d0_walk_137 rfl ?_
      refine g_ladd d0_walk_139 ?_
      refine g_topL (lN ((N (13 + les (pdb per (at_ % 13) (thr (txF cs) coin per fr ti se s (at_ / 13) (at_ % 13))))) + ((p / 10) * cmv_))) (lN_add _ _) ?_
      refine g_lastN ((13 + (les (pdb per (at_ % 13) (thr (txF cs) coin per fr ti se s (at_ / 13) (at_ % 13)))))) _ d0_walk_140 a_38 (rfl) (by omega) (by decide) t_38 ?_
      refine g_aload_n d0_walk_141 rfl ?_
      refine g_get fl0_35 d0_walk_142 f_29_8 ?_
      refine g_bipushv (nI 12) d0_walk_145 rfl ?_
      refine g_iload d0_walk_147 rfl ?_
      refine g_iconstv (nI 1) d0_walk_149 rfl ?_
      refine g_iaddN d0_walk_150 ?_
      refine g_min ml0_79 (by omega) (Nat.le_of_ble_eq_true rfl) d0_walk_151 ?_
      refine g_topI (nI ((lat (at_ / 13)))) (mn_lat (by omega)) ?_
      refine g_bipushv (nI 13) d0_walk_154 rfl ?_
      refine g_imulN d0_walk_156 ?_
      refine g_iload d0_walk_157 rfl ?_
      refine g_iaddN d0_walk_159 ?_
      refine g_dup2 d0_walk_160 rfl rfl ?_
      refine g_laldN ((((lat (at_ / 13)) * 13) + (les (pdb per (at_ % 13) (thr (txF cs) coin per fr ti se s (at_ / 13) (at_ % 13)))))) d0_walk_161 a_38 (rfl) (by omega) (by decide) ?_
      refine g_topL (lN ((N (13 * lat (at_ / 13) + les (pdb per (at_ % 13) (thr (txF cs) coin per fr ti se s (at_ / 13) (at_ % 13))))))) (by rw [uL_sn (by omega), e385, Nat.mul_comm (lat (at_ / 13)) 13]; exact hN2) ?_
      refine g_lload d0_walk_162 rfl ?_
      refine g_lload d0_walk_164 rfl ?_
      refine g_lsub d0_walk_166 ?_
      refine g_topL (lN (p - ((p / 10) * cmv_))) (lN_sub (aw2)) ?_
      refine g_ladd d0_walk_167 ?_
      refine g_topL (lN ((N (13 * lat (at_ / 13) + les (pdb per (at_ % 13) (thr (txF cs) coin per fr ti se s (at_ / 13) (at_ % 13))))) + (p - ((p / 10) * cmv_)))) (lN_add _ _) ?_
      refine g_lastN ((((lat (at_ / 13)) * 13) + (les (pdb per (at_ % 13) (thr (txF cs) coin per fr ti se s (at_ / 13) (at_ % 13)))))) _ d0_walk_168 a_38 (rfl) (by omega) (by decide) t_38 ?_
      refine g_lload d0_walk_169 rfl ?_
      refine g_lret rfl d0_walk_171 ⟨(I5, (uL (uL L5 38 (13 + les (pdb per (at_ % 13) (thr (txF cs) coin per fr ti se s (at_ / 13) (at_ % 13)))) (lN (N (13 + les (pdb per (at_ % 13) (thr (txF cs) coin per fr ti se s (at_ / 13) (at_ % 13)))) + p / 10 * cmv_))) 38 (lat (at_ / 13) * 13 + les (pdb per (at_ % 13) (thr (txF cs) coin per fr ti se s (at_ / 13) (at_ % 13)))) (lN (N (13 * lat (at_ / 13) + les (pdb per (at_ % 13) (thr (txF cs) coin per fr ti se s (at_ / 13) (at_ % 13)))) + (p - p / 10 * cmv_))))), ⟨(F5.ul (by decide)).ul (by decide), w5, fun q hq => ?_⟩, ?_, rfl⟩
      · show (uL (uL L5 38 (13 + les (pdb per (at_ % 13) (thr (txF cs) coin per fr ti se s (at_ / 13) (at_ % 13)))) (lN (N (13 + les (pdb per (at_ % 13) (thr (txF cs) coin per fr ti se s (at_ / 13) (at_ % 13)))) + p / 10 * cmv_))) 38 (lat (at_ / 13) * 13 + les (pdb per (at_ % 13) (thr (txF cs) coin per fr ti se s (at_ / 13) (at_ % 13)))) (lN (N (13 * lat (at_ / 13) + les (pdb per (at_ % 13) (thr (txF cs) coin per fr ti se s (at_ / 13) (at_ % 13)))) + (p - p / 10 * cmv_)))) 38 q = _
        rw [aw]
        by_cases e1 : q = 13 * lat (at_ / 13) + les (pdb per (at_ % 13) (thr (txF cs) coin per fr ti se s (at_ / 13) (at_ % 13)))
        · rw [if_pos e1, if_neg (by omega), e1, Nat.mul_comm (lat (at_ / 13)) 13, uL_ss]; rfl
        · rw [if_neg e1, uL_sn (by omega)]
          by_cases e2 : q = 13 + les (pdb per (at_ % 13) (thr (txF cs) coin per fr ti se s (at_ / 13) (at_ % 13)))
          · rw [if_pos e2, e2, uL_ss]; rfl
          · rw [if_neg e2, uL_sn e2, e385, hN q hq]; rfl
      · rfl
