/-- null, or a text -/
def okT (dy : cH) (o : Option Nat) : Prop := o = none ∨ ∃ k vs, o = some (k + 105) ∧ dy[k]? = some (.inr (9, vs))
theorem g_aastV {l : Launch} {K : cK} {M : MI} {d kc ks pc n : Nat} {lo : List (Nat × Value)} {st : List Value} {I : wI} {L : wL} {R : wR} {dy : cH} {Q : Option Value → cH → Prop} {k n0 : Nat} {f : Nat → Option Nat} (j : Nat) {o : Option Nat} (h2 : cH) (hd : dc M pc .aastore 1 n) (ha : aR (hp I L R dy) k 3 = some (n0, f)) (hj : j < n0) (hN : n0 < 2147483648) (ho : okT dy o) (hh : (hp I L R dy).set k (.inl (3, n0, .inr (.inr (.inr (.inr (va_up f j o)))))) = h2) (kk : GL l K M d kc ks n lo st h2 Q) : GL l K M d kc ks pc lo (rfv o :: .int (nI j) :: .ref k :: st) (hp I L R dy) Q := by
  subst hh
  have e := (nn_nI (a := j) (by omega)).2
  rcases ho with rfl | ⟨q, vs, rfl, hq⟩
  · refine g_aastN 3 "CoinsWarden$Text" (Or.inl ⟨rfl, rfl⟩) hd ha (vp_nI hj hN) ?_
    rw [e]; exact kk
  · refine g_aast (ci := 9) (vs := vs) 3 "CoinsWarden$Text" (Or.inl ⟨rfl, rfl⟩) rfl hd ha (by rw [hp_dy]; exact hq) (vp_nI hj hN) ?_
    rw [e]; exact kk
/-- a state's cells are another's -/
def SEq (I I2 : wI) (R R2 : wR) (p q : Nat) : Prop := (∀ j, j = 0 ∨ j = 3 ∨ j = 5 ∨ j = 6 ∨ j = 8 ∨ j = 11 → I2 p j = I q j) ∧ (∀ j, j < 24 → I2 (p + 1) j = I (q + 1) j) ∧ (∀ j, j < 8 → I2 (p + 2) j = I (q + 2) j) ∧ (∀ j, j < 6 → I2 (p + 5) j = I (q + 5) j ∧ I2 (p + 6) j = I (q + 6) j) ∧ (∀ j, j < 12 → I2 (p + 7) j = I (q + 7) j ∧ I2 (p + 8) j = I (q + 8) j) ∧ ∀ j, j < 6 → R2 (p + 3) j = R (q + 3) j ∧ R2 (p + 4) j = R (q + 4) j
theorem cpy_at {α : Type} {f g : Nat → α} {n j : Nat} (h : j < n) : va_cpy f g 0 0 n j = f j := by
  unfold va_cpy; rw [if_pos ⟨Nat.zero_le _, by omega⟩, show 0 + (j - 0) = j by omega]
set_option maxHeartbeats 800000 in
theorem r6_become_56_1L {l : Launch} {K : cK} {d : Nat} {I : wI} {L : wL} {R : wR} {dy : cH} {Q : Option Value → cH → Prop} (hok : ∀ j, j < 6 → okT dy (R 4 j) ∧ okT dy (R 5 j)) (kk : ∀ R3 : wR, (∀ k, k ≠ 59 → k ≠ 60 → R3 k = R k) → (∀ i, i < 6 → R3 59 i = R 4 i ∧ R3 60 i = R 5 i) → Q none (hp I L R3 dy)) :
    ∀ (m j : Nat) (R2 : wR), j + m = 6 → (∀ k, k ≠ 59 → k ≠ 60 → R2 k = R k) → (∀ i, i < j → R2 59 i = R 4 i ∧ R2 60 i = R 5 i) → GL l K m6_become d 0 0 158 [(0, .ref 56), (1, .ref 1), (2, .int (nI j))] [] (hp I L R2 dy) Q := by
  intro m
  induction m with
  | zero =>
    intro j R2 hj h1 h2
    obtain rfl : j = 6 := by omega
    refine g_iload_n d6_become_158 rfl ?_
    refine g_bipushv (nI 6) d6_become_159 rfl ?_
    refine g_ic_ge (6) (6) 194 (by decide) (by decide) d6_become_161 rfl (fun _ => ?_) (fun c161 => absurd c161 (by decide))
    exact g_vret rfl d6_become_194 (kk R2 h1 h2)
  | succ m ih =>
    intro j R2 hj h1 h2
    obtain ⟨o1, o2⟩ := hok j (by omega)
    have a1 : R2 4 = R 4 := h1 4 (by decide) (by decide)
    have a2 : R2 5 = R 5 := h1 5 (by decide) (by decide)
    refine g_iload_n d6_become_158 rfl ?_
    refine g_bipushv (nI 6) d6_become_159 rfl ?_
    refine g_ic_ge ((j : Nat) : Int) (6) 194 (nI_ti (by omega)) (by decide) d6_become_161 rfl (fun c161 => absurd c161 (by omega)) (fun _ => ?_)
    refine g_aload_n d6_become_164 rfl ?_
    refine g_get fl6_20 d6_become_165 f_56_4 ?_
    refine g_iload_n d6_become_168 rfl ?_
    refine g_aload_n d6_become_169 rfl ?_
    refine g_get fl6_20 d6_become_170 f_1_4 ?_
    refine g_iload_n d6_become_173 rfl ?_
    refine g_aaldN (j) 3 "CoinsWarden$Text" (by decide) d6_become_174 a_4 (rfl) (by omega) (by decide) ?_
    refine g_aastV j _ d6_become_175 a_59 (by omega) (by decide) (by rw [a1]; exact o1) t_59 ?_
    refine g_aload_n d6_become_176 rfl ?_
    refine g_get fl6_28 d6_become_177 f_56_7 ?_
    refine g_iload_n d6_become_180 rfl ?_
    refine g_aload_n d6_become_181 rfl ?_
    refine g_get fl6_28 d6_become_182 f_1_7 ?_
    refine g_iload_n d6_become_185 rfl ?_
    refine g_aaldN (j) 3 "CoinsWarden$Text" (by decide) d6_become_186 a_5 (rfl) (by omega) (by decide) ?_
    refine g_aastV j _ d6_become_187 a_60 (by omega) (by decide) (by rw [uR_n (by decide), a2]; exact o2) t_60 ?_
    refine g_iincN d6_become_188 rfl (by decide) ?_
    refine g_goto 158 d6_become_191 rfl ?_
    refine g_lo [(0, .ref 56), (1, .ref 1), (2, .int (nI (j + 1)))] ⟨rfl, rfl, rfl, trivial⟩ ?_
    refine ih (j + 1) _ (by omega) (fun k x y => by rw [uR_n y, uR_n x]; exact h1 k x y) (fun i hi => ?_)
    by_cases e : i = j
    · subst e
      rw [uR_n (by decide), uR_at, uR_at, if_pos ⟨rfl, rfl⟩, if_pos ⟨rfl, rfl⟩, uR_n (by decide), a1, a2]; exact ⟨rfl, rfl⟩
    · rw [uR_n (by decide), uR_at, uR_at, if_neg (fun z => e z.2), if_neg (fun z => e z.2), uR_n (by decide)]; exact h2 i (by omega)
set_option maxHeartbeats 800000 in
theorem r6_become_56_1 {l : Launch} {K : cK} {d : Nat} {I : wI} {L : wL} {R : wR} {dy : cH} (hok : ∀ j, j < 6 → okT dy (R 4 j) ∧ okT dy (R 5 j)) (hd : 1 ≤ d) : CW l K m6_become d [.ref 56, .ref 1] (hp I L R dy) (α := wI × wR) (fun x => (∀ k, k ∉ [56, 57, 58, 59, 60, 61, 62, 63, 64] → x.1 k = I k) ∧ (∀ k, k ≠ 59 → k ≠ 60 → x.2 k = R k) ∧ SEq I x.1 R x.2 56 1) (fun x => hp x.1 L x.2 dy) := by
  refine CC.of ok6_become (Nat.le_of_ble_eq_true rfl) ?_
  refine g_aload_n d6_become_0 rfl ?_
  refine g_aload_n d6_become_1 rfl ?_
  refine g_get fl6_52 d6_become_2 f_1_0 ?_
  refine g_putIh _ fl6_52 d6_become_5 f_56_0 s_56_0 ?_
  refine g_aload_n d6_become_8 rfl ?_
  refine g_aload_n d6_become_9 rfl ?_
  refine g_get fl6_55 d6_become_10 f_1_3 ?_
  refine g_topI (I 1 (3)) rfl ?_
  refine g_putIh _ fl6_55 d6_become_13 f_56_3 s_56_3 ?_
  refine g_aload_n d6_become_16 rfl ?_
  refine g_aload_n d6_become_17 rfl ?_
  refine g_get fl6_24 d6_become_18 f_1_5 ?_
  refine g_topI (I 1 (5)) rfl ?_
  refine g_putIh _ fl6_24 d6_become_21 f_56_5 s_56_5 ?_
  refine g_aload_n d6_become_24 rfl ?_
  refine g_aload_n d6_become_25 rfl ?_
  refine g_get fl6_58 d6_become_26 f_1_6 ?_
  refine g_topI (I 1 (6)) rfl ?_
  refine g_putIh _ fl6_58 d6_become_29 f_56_6 s_56_6 ?_
  refine g_aload_n d6_become_32 rfl ?_
  refine g_aload_n d6_become_33 rfl ?_
  refine g_get fl6_61 d6_become_34 f_1_8 ?_
  refine g_topI (I 1 (8)) rfl ?_
  refine g_putIh _ fl6_61 d6_become_37 f_56_8 s_56_8 ?_
  refine g_aload_n d6_become_40 rfl ?_
  refine g_aload_n d6_become_41 rfl ?_
  refine g_get fl6_64 d6_become_42 f_1_11 ?_
  refine g_topI (I 1 (11)) rfl ?_
  refine g_putIh _ fl6_64 d6_become_45 f_56_11 s_56_11 ?_
  obtain ⟨J0, hJ0⟩ : ∃ J, J = (uI (uI (uI (uI (uI (uI I 56 0 (I 1 0)) 56 3 (I 1 3)) 56 5 (I 1 5)) 56 6 (I 1 6)) 56 8 (I 1 8)) 56 11 (I 1 11)) := ⟨_, rfl⟩
  refine g_hp (hp J0 L R dy) (by subst hJ0; rfl) ?_
  refine g_aload_n d6_become_48 rfl ?_
  refine g_get fl6_9 d6_become_49 f_1_1 ?_
  refine g_iconstv (nI 0) d6_become_52 rfl ?_
  refine g_aload_n d6_become_53 rfl ?_
  refine g_get fl6_9 d6_become_54 f_56_1 ?_
  refine g_iconstv (nI 0) d6_become_57 rfl ?_
  refine g_aload_n d6_become_58 rfl ?_
  refine g_get fl6_9 d6_become_59 f_56_1 ?_
  refine g_alenI d6_become_62 (by decide) a_57 ?_
  obtain ⟨J1, hJ1⟩ : ∃ J, J = cI J0 57 (va_cpy (J0 2) (J0 57) 0 0 24) := ⟨_, rfl⟩
  refine g_cpI (h2 := hp J1 L R dy) 0 0 24 mw6_46 a_2 a_57 (by decide) (by decide) (by decide) (by decide) (by rw [hJ1]; rfl) (by omega) (Nat.le_of_ble_eq_true rfl) d6_become_63 ?_
  refine g_aload_n d6_become_66 rfl ?_
  refine g_get fl6_15 d6_become_67 f_1_2 ?_
  refine g_iconstv (nI 0) d6_become_70 rfl ?_
  refine g_aload_n d6_become_71 rfl ?_
  refine g_get fl6_15 d6_become_72 f_56_2 ?_
  refine g_iconstv (nI 0) d6_become_75 rfl ?_
  refine g_aload_n d6_become_76 rfl ?_
  refine g_get fl6_15 d6_become_77 f_56_2 ?_
  refine g_alenI d6_become_80 (by decide) a_58 ?_
  obtain ⟨J2, hJ2⟩ : ∃ J, J = cI J1 58 (va_cpy (J1 3) (J1 58) 0 0 8) := ⟨_, rfl⟩
  refine g_cpI (h2 := hp J2 L R dy) 0 0 8 mw6_46 a_3 a_58 (by decide) (by decide) (by decide) (by decide) (by rw [hJ2]; rfl) (by omega) (Nat.le_of_ble_eq_true rfl) d6_become_81 ?_
  refine g_aload_n d6_become_84 rfl ?_
  refine g_get fl6_31 d6_become_85 f_1_9 ?_
  refine g_iconstv (nI 0) d6_become_88 rfl ?_
  refine g_aload_n d6_become_89 rfl ?_
  refine g_get fl6_31 d6_become_90 f_56_9 ?_
  refine g_iconstv (nI 0) d6_become_93 rfl ?_
  refine g_aload_n d6_become_94 rfl ?_
  refine g_get fl6_31 d6_become_95 f_56_9 ?_
  refine g_alenI d6_become_98 (by decide) a_61 ?_
  obtain ⟨J3, hJ3⟩ : ∃ J, J = cI J2 61 (va_cpy (J2 6) (J2 61) 0 0 6) := ⟨_, rfl⟩
  refine g_cpI (h2 := hp J3 L R dy) 0 0 6 mw6_46 a_6 a_61 (by decide) (by decide) (by decide) (by decide) (by rw [hJ3]; rfl) (by omega) (Nat.le_of_ble_eq_true rfl) d6_become_99 ?_
  refine g_aload_n d6_become_102 rfl ?_
  refine g_get fl6_34 d6_become_103 f_1_10 ?_
  refine g_iconstv (nI 0) d6_become_106 rfl ?_
  refine g_aload_n d6_become_107 rfl ?_
  refine g_get fl6_34 d6_become_108 f_56_10 ?_
  refine g_iconstv (nI 0) d6_become_111 rfl ?_
  refine g_aload_n d6_become_112 rfl ?_
  refine g_get fl6_34 d6_become_113 f_56_10 ?_
  refine g_alenI d6_become_116 (by decide) a_62 ?_
  obtain ⟨J4, hJ4⟩ : ∃ J, J = cI J3 62 (va_cpy (J3 7) (J3 62) 0 0 6) := ⟨_, rfl⟩
  refine g_cpI (h2 := hp J4 L R dy) 0 0 6 mw6_46 a_7 a_62 (by decide) (by decide) (by decide) (by decide) (by rw [hJ4]; rfl) (by omega) (Nat.le_of_ble_eq_true rfl) d6_become_117 ?_
  refine g_aload_n d6_become_120 rfl ?_
  refine g_get fl6_37 d6_become_121 f_1_12 ?_
  refine g_iconstv (nI 0) d6_become_124 rfl ?_
  refine g_aload_n d6_become_125 rfl ?_
  refine g_get fl6_37 d6_become_126 f_56_12 ?_
  refine g_iconstv (nI 0) d6_become_129 rfl ?_
  refine g_aload_n d6_become_130 rfl ?_
  refine g_get fl6_37 d6_become_131 f_56_12 ?_
  refine g_alenI d6_become_134 (by decide) a_63 ?_
  obtain ⟨J5, hJ5⟩ : ∃ J, J = cI J4 63 (va_cpy (J4 8) (J4 63) 0 0 12) := ⟨_, rfl⟩
  refine g_cpI (h2 := hp J5 L R dy) 0 0 12 mw6_46 a_8 a_63 (by decide) (by decide) (by decide) (by decide) (by rw [hJ5]; rfl) (by omega) (Nat.le_of_ble_eq_true rfl) d6_become_135 ?_
  refine g_aload_n d6_become_138 rfl ?_
  refine g_get fl6_40 d6_become_139 f_1_13 ?_
  refine g_iconstv (nI 0) d6_become_142 rfl ?_
  refine g_aload_n d6_become_143 rfl ?_
  refine g_get fl6_40 d6_become_144 f_56_13 ?_
  refine g_iconstv (nI 0) d6_become_147 rfl ?_
  refine g_aload_n d6_become_148 rfl ?_
  refine g_get fl6_40 d6_become_149 f_56_13 ?_
  refine g_alenI d6_become_152 (by decide) a_64 ?_
  obtain ⟨J6, hJ6⟩ : ∃ J, J = cI J5 64 (va_cpy (J5 9) (J5 64) 0 0 12) := ⟨_, rfl⟩
  refine g_cpI (h2 := hp J6 L R dy) 0 0 12 mw6_46 a_9 a_64 (by decide) (by decide) (by decide) (by decide) (by rw [hJ6]; rfl) (by omega) (Nat.le_of_ble_eq_true rfl) d6_become_153 ?_
  refine g_iconstv (nI 0) d6_become_156 rfl ?_
  refine g_istore_n d6_become_157 (by decide) ?_
  refine g_lo [(0, .ref 56), (1, .ref 1), (2, .int (nI 0))] ⟨rfl, rfl, rfl, trivial⟩ ?_
  refine r6_become_56_1L hok (fun R3 h1 h2 => ⟨(J6, R3), ⟨fun k hk => ?_, h1, ?_⟩, rfl, rfl⟩) 6 0 R (by omega) (fun _ _ _ => rfl) (fun i hi => absurd hi (Nat.not_lt_zero i))
  · show J6 k = I k
    have e : ∀ a ∈ [56, 57, 58, 59, 60, 61, 62, 63, 64], k ≠ a := fun a ha z => hk (by rw [z]; exact ha)
    rw [hJ6, cI_n (e 64 (by decide)), hJ5, cI_n (e 63 (by decide)), hJ4, cI_n (e 62 (by decide)), hJ3, cI_n (e 61 (by decide)), hJ2, cI_n (e 58 (by decide)), hJ1, cI_n (e 57 (by decide)), hJ0, uI_n (e 56 (by decide)), uI_n (e 56 (by decide)), uI_n (e 56 (by decide)), uI_n (e 56 (by decide)), uI_n (e 56 (by decide)), uI_n (e 56 (by decide))]
  · refine ⟨fun j hj => ?_, fun j hj => ?_, fun j hj => ?_, fun j hj => ⟨?_, ?_⟩, fun j hj => ⟨?_, ?_⟩, h2⟩
    · show J6 56 j = I 1 j
      rw [hJ6, cI_n (by decide), hJ5, cI_n (by decide), hJ4, cI_n (by decide), hJ3, cI_n (by decide), hJ2, cI_n (by decide), hJ1, cI_n (by decide), hJ0]
      rcases hj with rfl | rfl | rfl | rfl | rfl | rfl <;> simp [uI_at]
    · show J6 57 j = I 2 j
      rw [hJ6, cI_n (by decide), hJ5, cI_n (by decide), hJ4, cI_n (by decide), hJ3, cI_n (by decide), hJ2, cI_n (by decide), hJ1, cI_s, cpy_at hj, hJ0, uI_n (by decide), uI_n (by decide), uI_n (by decide), uI_n (by decide), uI_n (by decide), uI_n (by decide)]
    · show J6 58 j = I 3 j
      rw [hJ6, cI_n (by decide), hJ5, cI_n (by decide), hJ4, cI_n (by decide), hJ3, cI_n (by decide), hJ2, cI_s, cpy_at hj, hJ1, cI_n (by decide), hJ0, uI_n (by decide), uI_n (by decide), uI_n (by decide), uI_n (by decide), uI_n (by decide), uI_n (by decide)]
    · show J6 61 j = I 6 j
      rw [hJ6, cI_n (by decide), hJ5, cI_n (by decide), hJ4, cI_n (by decide), hJ3, cI_s, cpy_at hj, hJ2, cI_n (by decide), hJ1, cI_n (by decide), hJ0, uI_n (by decide), uI_n (by decide), uI_n (by decide), uI_n (by decide), uI_n (by decide), uI_n (by decide)]
    · show J6 62 j = I 7 j
      rw [hJ6, cI_n (by decide), hJ5, cI_n (by decide), hJ4, cI_s, cpy_at hj, hJ3, cI_n (by decide), hJ2, cI_n (by decide), hJ1, cI_n (by decide), hJ0, uI_n (by decide), uI_n (by decide), uI_n (by decide), uI_n (by decide), uI_n (by decide), uI_n (by decide)]
    · show J6 63 j = I 8 j
      rw [hJ6, cI_n (by decide), hJ5, cI_s, cpy_at hj, hJ4, cI_n (by decide), hJ3, cI_n (by decide), hJ2, cI_n (by decide), hJ1, cI_n (by decide), hJ0, uI_n (by decide), uI_n (by decide), uI_n (by decide), uI_n (by decide), uI_n (by decide), uI_n (by decide)]
    · show J6 64 j = I 9 j
      rw [show (J6 : wI) = J6 from rfl, hJ6, cI_s, cpy_at hj, hJ5, cI_n (by decide), hJ4, cI_n (by decide), hJ3, cI_n (by decide), hJ2, cI_n (by decide), hJ1, cI_n (by decide), hJ0, uI_n (by decide), uI_n (by decide), uI_n (by decide), uI_n (by decide), uI_n (by decide), uI_n (by decide)]
set_option maxHeartbeats 800000 in
theorem r6_become_65_1L {l : Launch} {K : cK} {d : Nat} {I : wI} {L : wL} {R : wR} {dy : cH} {Q : Option Value → cH → Prop} (hok : ∀ j, j < 6 → okT dy (R 4 j) ∧ okT dy (R 5 j)) (kk : ∀ R3 : wR, (∀ k, k ≠ 68 → k ≠ 69 → R3 k = R k) → (∀ i, i < 6 → R3 68 i = R 4 i ∧ R3 69 i = R 5 i) → Q none (hp I L R3 dy)) :
    ∀ (m j : Nat) (R2 : wR), j + m = 6 → (∀ k, k ≠ 68 → k ≠ 69 → R2 k = R k) → (∀ i, i < j → R2 68 i = R 4 i ∧ R2 69 i = R 5 i) → GL l K m6_become d 0 0 158 [(0, .ref 65), (1, .ref 1), (2, .int (nI j))] [] (hp I L R2 dy) Q := by
  intro m
  induction m with
  | zero =>
    intro j R2 hj h1 h2
    obtain rfl : j = 6 := by omega
    refine g_iload_n d6_become_158 rfl ?_
    refine g_bipushv (nI 6) d6_become_159 rfl ?_
    refine g_ic_ge (6) (6) 194 (by decide) (by decide) d6_become_161 rfl (fun _ => ?_) (fun c161 => absurd c161 (by decide))
    exact g_vret rfl d6_become_194 (kk R2 h1 h2)
  | succ m ih =>
    intro j R2 hj h1 h2
    obtain ⟨o1, o2⟩ := hok j (by omega)
    have a1 : R2 4 = R 4 := h1 4 (by decide) (by decide)
    have a2 : R2 5 = R 5 := h1 5 (by decide) (by decide)
    refine g_iload_n d6_become_158 rfl ?_
    refine g_bipushv (nI 6) d6_become_159 rfl ?_
    refine g_ic_ge ((j : Nat) : Int) (6) 194 (nI_ti (by omega)) (by decide) d6_become_161 rfl (fun c161 => absurd c161 (by omega)) (fun _ => ?_)
    refine g_aload_n d6_become_164 rfl ?_
    refine g_get fl6_20 d6_become_165 f_65_4 ?_
    refine g_iload_n d6_become_168 rfl ?_
    refine g_aload_n d6_become_169 rfl ?_
    refine g_get fl6_20 d6_become_170 f_1_4 ?_
    refine g_iload_n d6_become_173 rfl ?_
    refine g_aaldN (j) 3 "CoinsWarden$Text" (by decide) d6_become_174 a_4 (rfl) (by omega) (by decide) ?_
    refine g_aastV j _ d6_become_175 a_68 (by omega) (by decide) (by rw [a1]; exact o1) t_68 ?_
    refine g_aload_n d6_become_176 rfl ?_
    refine g_get fl6_28 d6_become_177 f_65_7 ?_
    refine g_iload_n d6_become_180 rfl ?_
    refine g_aload_n d6_become_181 rfl ?_
    refine g_get fl6_28 d6_become_182 f_1_7 ?_
    refine g_iload_n d6_become_185 rfl ?_
    refine g_aaldN (j) 3 "CoinsWarden$Text" (by decide) d6_become_186 a_5 (rfl) (by omega) (by decide) ?_
    refine g_aastV j _ d6_become_187 a_69 (by omega) (by decide) (by rw [uR_n (by decide), a2]; exact o2) t_69 ?_
    refine g_iincN d6_become_188 rfl (by decide) ?_
    refine g_goto 158 d6_become_191 rfl ?_
    refine g_lo [(0, .ref 65), (1, .ref 1), (2, .int (nI (j + 1)))] ⟨rfl, rfl, rfl, trivial⟩ ?_
    refine ih (j + 1) _ (by omega) (fun k x y => by rw [uR_n y, uR_n x]; exact h1 k x y) (fun i hi => ?_)
    by_cases e : i = j
    · subst e
      rw [uR_n (by decide), uR_at, uR_at, if_pos ⟨rfl, rfl⟩, if_pos ⟨rfl, rfl⟩, uR_n (by decide), a1, a2]; exact ⟨rfl, rfl⟩
    · rw [uR_n (by decide), uR_at, uR_at, if_neg (fun z => e z.2), if_neg (fun z => e z.2), uR_n (by decide)]; exact h2 i (by omega)
set_option maxHeartbeats 800000 in
theorem r6_become_65_1 {l : Launch} {K : cK} {d : Nat} {I : wI} {L : wL} {R : wR} {dy : cH} (hok : ∀ j, j < 6 → okT dy (R 4 j) ∧ okT dy (R 5 j)) (hd : 1 ≤ d) : CW l K m6_become d [.ref 65, .ref 1] (hp I L R dy) (α := wI × wR) (fun x => (∀ k, k ∉ [65, 66, 67, 68, 69, 70, 71, 72, 73] → x.1 k = I k) ∧ (∀ k, k ≠ 68 → k ≠ 69 → x.2 k = R k) ∧ SEq I x.1 R x.2 65 1) (fun x => hp x.1 L x.2 dy) := by
  refine CC.of ok6_become (Nat.le_of_ble_eq_true rfl) ?_
  refine g_aload_n d6_become_0 rfl ?_
  refine g_aload_n d6_become_1 rfl ?_
  refine g_get fl6_52 d6_become_2 f_1_0 ?_
  refine g_putIh _ fl6_52 d6_become_5 f_65_0 s_65_0 ?_
  refine g_aload_n d6_become_8 rfl ?_
  refine g_aload_n d6_become_9 rfl ?_
  refine g_get fl6_55 d6_become_10 f_1_3 ?_
  refine g_topI (I 1 (3)) rfl ?_
  refine g_putIh _ fl6_55 d6_become_13 f_65_3 s_65_3 ?_
  refine g_aload_n d6_become_16 rfl ?_
  refine g_aload_n d6_become_17 rfl ?_
  refine g_get fl6_24 d6_become_18 f_1_5 ?_
  refine g_topI (I 1 (5)) rfl ?_
  refine g_putIh _ fl6_24 d6_become_21 f_65_5 s_65_5 ?_
  refine g_aload_n d6_become_24 rfl ?_
  refine g_aload_n d6_become_25 rfl ?_
  refine g_get fl6_58 d6_become_26 f_1_6 ?_
  refine g_topI (I 1 (6)) rfl ?_
  refine g_putIh _ fl6_58 d6_become_29 f_65_6 s_65_6 ?_
  refine g_aload_n d6_become_32 rfl ?_
  refine g_aload_n d6_become_33 rfl ?_
  refine g_get fl6_61 d6_become_34 f_1_8 ?_
  refine g_topI (I 1 (8)) rfl ?_
  refine g_putIh _ fl6_61 d6_become_37 f_65_8 s_65_8 ?_
  refine g_aload_n d6_become_40 rfl ?_
  refine g_aload_n d6_become_41 rfl ?_
  refine g_get fl6_64 d6_become_42 f_1_11 ?_
  refine g_topI (I 1 (11)) rfl ?_
  refine g_putIh _ fl6_64 d6_become_45 f_65_11 s_65_11 ?_
  obtain ⟨J0, hJ0⟩ : ∃ J, J = (uI (uI (uI (uI (uI (uI I 65 0 (I 1 0)) 65 3 (I 1 3)) 65 5 (I 1 5)) 65 6 (I 1 6)) 65 8 (I 1 8)) 65 11 (I 1 11)) := ⟨_, rfl⟩
  refine g_hp (hp J0 L R dy) (by subst hJ0; rfl) ?_
  refine g_aload_n d6_become_48 rfl ?_
  refine g_get fl6_9 d6_become_49 f_1_1 ?_
  refine g_iconstv (nI 0) d6_become_52 rfl ?_
  refine g_aload_n d6_become_53 rfl ?_
  refine g_get fl6_9 d6_become_54 f_65_1 ?_
  refine g_iconstv (nI 0) d6_become_57 rfl ?_
  refine g_aload_n d6_become_58 rfl ?_
  refine g_get fl6_9 d6_become_59 f_65_1 ?_
  refine g_alenI d6_become_62 (by decide) a_66 ?_
  obtain ⟨J1, hJ1⟩ : ∃ J, J = cI J0 66 (va_cpy (J0 2) (J0 66) 0 0 24) := ⟨_, rfl⟩
  refine g_cpI (h2 := hp J1 L R dy) 0 0 24 mw6_46 a_2 a_66 (by decide) (by decide) (by decide) (by decide) (by rw [hJ1]; rfl) (by omega) (Nat.le_of_ble_eq_true rfl) d6_become_63 ?_
  refine g_aload_n d6_become_66 rfl ?_
  refine g_get fl6_15 d6_become_67 f_1_2 ?_
  refine g_iconstv (nI 0) d6_become_70 rfl ?_
  refine g_aload_n d6_become_71 rfl ?_
  refine g_get fl6_15 d6_become_72 f_65_2 ?_
  refine g_iconstv (nI 0) d6_become_75 rfl ?_
  refine g_aload_n d6_become_76 rfl ?_
  refine g_get fl6_15 d6_become_77 f_65_2 ?_
  refine g_alenI d6_become_80 (by decide) a_67 ?_
  obtain ⟨J2, hJ2⟩ : ∃ J, J = cI J1 67 (va_cpy (J1 3) (J1 67) 0 0 8) := ⟨_, rfl⟩
  refine g_cpI (h2 := hp J2 L R dy) 0 0 8 mw6_46 a_3 a_67 (by decide) (by decide) (by decide) (by decide) (by rw [hJ2]; rfl) (by omega) (Nat.le_of_ble_eq_true rfl) d6_become_81 ?_
  refine g_aload_n d6_become_84 rfl ?_
  refine g_get fl6_31 d6_become_85 f_1_9 ?_
  refine g_iconstv (nI 0) d6_become_88 rfl ?_
  refine g_aload_n d6_become_89 rfl ?_
  refine g_get fl6_31 d6_become_90 f_65_9 ?_
  refine g_iconstv (nI 0) d6_become_93 rfl ?_
  refine g_aload_n d6_become_94 rfl ?_
  refine g_get fl6_31 d6_become_95 f_65_9 ?_
  refine g_alenI d6_become_98 (by decide) a_70 ?_
  obtain ⟨J3, hJ3⟩ : ∃ J, J = cI J2 70 (va_cpy (J2 6) (J2 70) 0 0 6) := ⟨_, rfl⟩
  refine g_cpI (h2 := hp J3 L R dy) 0 0 6 mw6_46 a_6 a_70 (by decide) (by decide) (by decide) (by decide) (by rw [hJ3]; rfl) (by omega) (Nat.le_of_ble_eq_true rfl) d6_become_99 ?_
  refine g_aload_n d6_become_102 rfl ?_
  refine g_get fl6_34 d6_become_103 f_1_10 ?_
  refine g_iconstv (nI 0) d6_become_106 rfl ?_
  refine g_aload_n d6_become_107 rfl ?_
  refine g_get fl6_34 d6_become_108 f_65_10 ?_
  refine g_iconstv (nI 0) d6_become_111 rfl ?_
  refine g_aload_n d6_become_112 rfl ?_
  refine g_get fl6_34 d6_become_113 f_65_10 ?_
  refine g_alenI d6_become_116 (by decide) a_71 ?_
  obtain ⟨J4, hJ4⟩ : ∃ J, J = cI J3 71 (va_cpy (J3 7) (J3 71) 0 0 6) := ⟨_, rfl⟩
  refine g_cpI (h2 := hp J4 L R dy) 0 0 6 mw6_46 a_7 a_71 (by decide) (by decide) (by decide) (by decide) (by rw [hJ4]; rfl) (by omega) (Nat.le_of_ble_eq_true rfl) d6_become_117 ?_
  refine g_aload_n d6_become_120 rfl ?_
  refine g_get fl6_37 d6_become_121 f_1_12 ?_
  refine g_iconstv (nI 0) d6_become_124 rfl ?_
  refine g_aload_n d6_become_125 rfl ?_
  refine g_get fl6_37 d6_become_126 f_65_12 ?_
  refine g_iconstv (nI 0) d6_become_129 rfl ?_
  refine g_aload_n d6_become_130 rfl ?_
  refine g_get fl6_37 d6_become_131 f_65_12 ?_
  refine g_alenI d6_become_134 (by decide) a_72 ?_
  obtain ⟨J5, hJ5⟩ : ∃ J, J = cI J4 72 (va_cpy (J4 8) (J4 72) 0 0 12) := ⟨_, rfl⟩
  refine g_cpI (h2 := hp J5 L R dy) 0 0 12 mw6_46 a_8 a_72 (by decide) (by decide) (by decide) (by decide) (by rw [hJ5]; rfl) (by omega) (Nat.le_of_ble_eq_true rfl) d6_become_135 ?_
  refine g_aload_n d6_become_138 rfl ?_
  refine g_get fl6_40 d6_become_139 f_1_13 ?_
  refine g_iconstv (nI 0) d6_become_142 rfl ?_
  refine g_aload_n d6_become_143 rfl ?_
  refine g_get fl6_40 d6_become_144 f_65_13 ?_
  refine g_iconstv (nI 0) d6_become_147 rfl ?_
  refine g_aload_n d6_become_148 rfl ?_
  refine g_get fl6_40 d6_become_149 f_65_13 ?_
  refine g_alenI d6_become_152 (by decide) a_73 ?_
  obtain ⟨J6, hJ6⟩ : ∃ J, J = cI J5 73 (va_cpy (J5 9) (J5 73) 0 0 12) := ⟨_, rfl⟩
  refine g_cpI (h2 := hp J6 L R dy) 0 0 12 mw6_46 a_9 a_73 (by decide) (by decide) (by decide) (by decide) (by rw [hJ6]; rfl) (by omega) (Nat.le_of_ble_eq_true rfl) d6_become_153 ?_
  refine g_iconstv (nI 0) d6_become_156 rfl ?_
  refine g_istore_n d6_become_157 (by decide) ?_
  refine g_lo [(0, .ref 65), (1, .ref 1), (2, .int (nI 0))] ⟨rfl, rfl, rfl, trivial⟩ ?_
  refine r6_become_65_1L hok (fun R3 h1 h2 => ⟨(J6, R3), ⟨fun k hk => ?_, h1, ?_⟩, rfl, rfl⟩) 6 0 R (by omega) (fun _ _ _ => rfl) (fun i hi => absurd hi (Nat.not_lt_zero i))
  · show J6 k = I k
    have e : ∀ a ∈ [65, 66, 67, 68, 69, 70, 71, 72, 73], k ≠ a := fun a ha z => hk (by rw [z]; exact ha)
    rw [hJ6, cI_n (e 73 (by decide)), hJ5, cI_n (e 72 (by decide)), hJ4, cI_n (e 71 (by decide)), hJ3, cI_n (e 70 (by decide)), hJ2, cI_n (e 67 (by decide)), hJ1, cI_n (e 66 (by decide)), hJ0, uI_n (e 65 (by decide)), uI_n (e 65 (by decide)), uI_n (e 65 (by decide)), uI_n (e 65 (by decide)), uI_n (e 65 (by decide)), uI_n (e 65 (by decide))]
  · refine ⟨fun j hj => ?_, fun j hj => ?_, fun j hj => ?_, fun j hj => ⟨?_, ?_⟩, fun j hj => ⟨?_, ?_⟩, h2⟩
    · show J6 65 j = I 1 j
      rw [hJ6, cI_n (by decide), hJ5, cI_n (by decide), hJ4, cI_n (by decide), hJ3, cI_n (by decide), hJ2, cI_n (by decide), hJ1, cI_n (by decide), hJ0]
      rcases hj with rfl | rfl | rfl | rfl | rfl | rfl <;> simp [uI_at]
    · show J6 66 j = I 2 j
      rw [hJ6, cI_n (by decide), hJ5, cI_n (by decide), hJ4, cI_n (by decide), hJ3, cI_n (by decide), hJ2, cI_n (by decide), hJ1, cI_s, cpy_at hj, hJ0, uI_n (by decide), uI_n (by decide), uI_n (by decide), uI_n (by decide), uI_n (by decide), uI_n (by decide)]
    · show J6 67 j = I 3 j
      rw [hJ6, cI_n (by decide), hJ5, cI_n (by decide), hJ4, cI_n (by decide), hJ3, cI_n (by decide), hJ2, cI_s, cpy_at hj, hJ1, cI_n (by decide), hJ0, uI_n (by decide), uI_n (by decide), uI_n (by decide), uI_n (by decide), uI_n (by decide), uI_n (by decide)]
    · show J6 70 j = I 6 j
      rw [hJ6, cI_n (by decide), hJ5, cI_n (by decide), hJ4, cI_n (by decide), hJ3, cI_s, cpy_at hj, hJ2, cI_n (by decide), hJ1, cI_n (by decide), hJ0, uI_n (by decide), uI_n (by decide), uI_n (by decide), uI_n (by decide), uI_n (by decide), uI_n (by decide)]
    · show J6 71 j = I 7 j
      rw [hJ6, cI_n (by decide), hJ5, cI_n (by decide), hJ4, cI_s, cpy_at hj, hJ3, cI_n (by decide), hJ2, cI_n (by decide), hJ1, cI_n (by decide), hJ0, uI_n (by decide), uI_n (by decide), uI_n (by decide), uI_n (by decide), uI_n (by decide), uI_n (by decide)]
    · show J6 72 j = I 8 j
      rw [hJ6, cI_n (by decide), hJ5, cI_s, cpy_at hj, hJ4, cI_n (by decide), hJ3, cI_n (by decide), hJ2, cI_n (by decide), hJ1, cI_n (by decide), hJ0, uI_n (by decide), uI_n (by decide), uI_n (by decide), uI_n (by decide), uI_n (by decide), uI_n (by decide)]
    · show J6 73 j = I 9 j
      rw [show (J6 : wI) = J6 from rfl, hJ6, cI_s, cpy_at hj, hJ5, cI_n (by decide), hJ4, cI_n (by decide), hJ3, cI_n (by decide), hJ2, cI_n (by decide), hJ1, cI_n (by decide), hJ0, uI_n (by decide), uI_n (by decide), uI_n (by decide), uI_n (by decide), uI_n (by decide), uI_n (by decide)]
set_option maxHeartbeats 800000 in
theorem r6_become_1_56L {l : Launch} {K : cK} {d : Nat} {I : wI} {L : wL} {R : wR} {dy : cH} {Q : Option Value → cH → Prop} (hok : ∀ j, j < 6 → okT dy (R 59 j) ∧ okT dy (R 60 j)) (kk : ∀ R3 : wR, (∀ k, k ≠ 4 → k ≠ 5 → R3 k = R k) → (∀ i, i < 6 → R3 4 i = R 59 i ∧ R3 5 i = R 60 i) → Q none (hp I L R3 dy)) :
    ∀ (m j : Nat) (R2 : wR), j + m = 6 → (∀ k, k ≠ 4 → k ≠ 5 → R2 k = R k) → (∀ i, i < j → R2 4 i = R 59 i ∧ R2 5 i = R 60 i) → GL l K m6_become d 0 0 158 [(0, .ref 1), (1, .ref 56), (2, .int (nI j))] [] (hp I L R2 dy) Q := by
  intro m
  induction m with
  | zero =>
    intro j R2 hj h1 h2
    obtain rfl : j = 6 := by omega
    refine g_iload_n d6_become_158 rfl ?_
    refine g_bipushv (nI 6) d6_become_159 rfl ?_
    refine g_ic_ge (6) (6) 194 (by decide) (by decide) d6_become_161 rfl (fun _ => ?_) (fun c161 => absurd c161 (by decide))
    exact g_vret rfl d6_become_194 (kk R2 h1 h2)
  | succ m ih =>
    intro j R2 hj h1 h2
    obtain ⟨o1, o2⟩ := hok j (by omega)
    have a1 : R2 59 = R 59 := h1 59 (by decide) (by decide)
    have a2 : R2 60 = R 60 := h1 60 (by decide) (by decide)
    refine g_iload_n d6_become_158 rfl ?_
    refine g_bipushv (nI 6) d6_become_159 rfl ?_
    refine g_ic_ge ((j : Nat) : Int) (6) 194 (nI_ti (by omega)) (by decide) d6_become_161 rfl (fun c161 => absurd c161 (by omega)) (fun _ => ?_)
    refine g_aload_n d6_become_164 rfl ?_
    refine g_get fl6_20 d6_become_165 f_1_4 ?_
    refine g_iload_n d6_become_168 rfl ?_
    refine g_aload_n d6_become_169 rfl ?_
    refine g_get fl6_20 d6_become_170 f_56_4 ?_
    refine g_iload_n d6_become_173 rfl ?_
    refine g_aaldN (j) 3 "CoinsWarden$Text" (by decide) d6_become_174 a_59 (rfl) (by omega) (by decide) ?_
    refine g_aastV j _ d6_become_175 a_4 (by omega) (by decide) (by rw [a1]; exact o1) t_4 ?_
    refine g_aload_n d6_become_176 rfl ?_
    refine g_get fl6_28 d6_become_177 f_1_7 ?_
    refine g_iload_n d6_become_180 rfl ?_
    refine g_aload_n d6_become_181 rfl ?_
    refine g_get fl6_28 d6_become_182 f_56_7 ?_
    refine g_iload_n d6_become_185 rfl ?_
    refine g_aaldN (j) 3 "CoinsWarden$Text" (by decide) d6_become_186 a_60 (rfl) (by omega) (by decide) ?_
    refine g_aastV j _ d6_become_187 a_5 (by omega) (by decide) (by rw [uR_n (by decide), a2]; exact o2) t_5 ?_
    refine g_iincN d6_become_188 rfl (by decide) ?_
    refine g_goto 158 d6_become_191 rfl ?_
    refine g_lo [(0, .ref 1), (1, .ref 56), (2, .int (nI (j + 1)))] ⟨rfl, rfl, rfl, trivial⟩ ?_
    refine ih (j + 1) _ (by omega) (fun k x y => by rw [uR_n y, uR_n x]; exact h1 k x y) (fun i hi => ?_)
    by_cases e : i = j
    · subst e
      rw [uR_n (by decide), uR_at, uR_at, if_pos ⟨rfl, rfl⟩, if_pos ⟨rfl, rfl⟩, uR_n (by decide), a1, a2]; exact ⟨rfl, rfl⟩
    · rw [uR_n (by decide), uR_at, uR_at, if_neg (fun z => e z.2), if_neg (fun z => e z.2), uR_n (by decide)]; exact h2 i (by omega)
set_option maxHeartbeats 800000 in
theorem r6_become_1_56 {l : Launch} {K : cK} {d : Nat} {I : wI} {L : wL} {R : wR} {dy : cH} (hok : ∀ j, j < 6 → okT dy (R 59 j) ∧ okT dy (R 60 j)) (hd : 1 ≤ d) : CW l K m6_become d [.ref 1, .ref 56] (hp I L R dy) (α := wI × wR) (fun x => (∀ k, k ∉ [1, 2, 3, 4, 5, 6, 7, 8, 9] → x.1 k = I k) ∧ (∀ k, k ≠ 4 → k ≠ 5 → x.2 k = R k) ∧ SEq I x.1 R x.2 1 56) (fun x => hp x.1 L x.2 dy) := by
  refine CC.of ok6_become (Nat.le_of_ble_eq_true rfl) ?_
  refine g_aload_n d6_become_0 rfl ?_
  refine g_aload_n d6_become_1 rfl ?_
  refine g_get fl6_52 d6_become_2 f_56_0 ?_
  refine g_putIh _ fl6_52 d6_become_5 f_1_0 s_1_0 ?_
  refine g_aload_n d6_become_8 rfl ?_
  refine g_aload_n d6_become_9 rfl ?_
  refine g_get fl6_55 d6_become_10 f_56_3 ?_
  refine g_topI (I 56 (3)) rfl ?_
  refine g_putIh _ fl6_55 d6_become_13 f_1_3 s_1_3 ?_
  refine g_aload_n d6_become_16 rfl ?_
  refine g_aload_n d6_become_17 rfl ?_
  refine g_get fl6_24 d6_become_18 f_56_5 ?_
  refine g_topI (I 56 (5)) rfl ?_
  refine g_putIh _ fl6_24 d6_become_21 f_1_5 s_1_5 ?_
  refine g_aload_n d6_become_24 rfl ?_
  refine g_aload_n d6_become_25 rfl ?_
  refine g_get fl6_58 d6_become_26 f_56_6 ?_
  refine g_topI (I 56 (6)) rfl ?_
  refine g_putIh _ fl6_58 d6_become_29 f_1_6 s_1_6 ?_
  refine g_aload_n d6_become_32 rfl ?_
  refine g_aload_n d6_become_33 rfl ?_
  refine g_get fl6_61 d6_become_34 f_56_8 ?_
  refine g_topI (I 56 (8)) rfl ?_
  refine g_putIh _ fl6_61 d6_become_37 f_1_8 s_1_8 ?_
  refine g_aload_n d6_become_40 rfl ?_
  refine g_aload_n d6_become_41 rfl ?_
  refine g_get fl6_64 d6_become_42 f_56_11 ?_
  refine g_topI (I 56 (11)) rfl ?_
  refine g_putIh _ fl6_64 d6_become_45 f_1_11 s_1_11 ?_
  obtain ⟨J0, hJ0⟩ : ∃ J, J = (uI (uI (uI (uI (uI (uI I 1 0 (I 56 0)) 1 3 (I 56 3)) 1 5 (I 56 5)) 1 6 (I 56 6)) 1 8 (I 56 8)) 1 11 (I 56 11)) := ⟨_, rfl⟩
  refine g_hp (hp J0 L R dy) (by subst hJ0; rfl) ?_
  refine g_aload_n d6_become_48 rfl ?_
  refine g_get fl6_9 d6_become_49 f_56_1 ?_
  refine g_iconstv (nI 0) d6_become_52 rfl ?_
  refine g_aload_n d6_become_53 rfl ?_
  refine g_get fl6_9 d6_become_54 f_1_1 ?_
  refine g_iconstv (nI 0) d6_become_57 rfl ?_
  refine g_aload_n d6_become_58 rfl ?_
  refine g_get fl6_9 d6_become_59 f_1_1 ?_
  refine g_alenI d6_become_62 (by decide) a_2 ?_
  obtain ⟨J1, hJ1⟩ : ∃ J, J = cI J0 2 (va_cpy (J0 57) (J0 2) 0 0 24) := ⟨_, rfl⟩
  refine g_cpI (h2 := hp J1 L R dy) 0 0 24 mw6_46 a_57 a_2 (by decide) (by decide) (by decide) (by decide) (by rw [hJ1]; rfl) (by omega) (Nat.le_of_ble_eq_true rfl) d6_become_63 ?_
  refine g_aload_n d6_become_66 rfl ?_
  refine g_get fl6_15 d6_become_67 f_56_2 ?_
  refine g_iconstv (nI 0) d6_become_70 rfl ?_
  refine g_aload_n d6_become_71 rfl ?_
  refine g_get fl6_15 d6_become_72 f_1_2 ?_
  refine g_iconstv (nI 0) d6_become_75 rfl ?_
  refine g_aload_n d6_become_76 rfl ?_
  refine g_get fl6_15 d6_become_77 f_1_2 ?_
  refine g_alenI d6_become_80 (by decide) a_3 ?_
  obtain ⟨J2, hJ2⟩ : ∃ J, J = cI J1 3 (va_cpy (J1 58) (J1 3) 0 0 8) := ⟨_, rfl⟩
  refine g_cpI (h2 := hp J2 L R dy) 0 0 8 mw6_46 a_58 a_3 (by decide) (by decide) (by decide) (by decide) (by rw [hJ2]; rfl) (by omega) (Nat.le_of_ble_eq_true rfl) d6_become_81 ?_
  refine g_aload_n d6_become_84 rfl ?_
  refine g_get fl6_31 d6_become_85 f_56_9 ?_
  refine g_iconstv (nI 0) d6_become_88 rfl ?_
  refine g_aload_n d6_become_89 rfl ?_
  refine g_get fl6_31 d6_become_90 f_1_9 ?_
  refine g_iconstv (nI 0) d6_become_93 rfl ?_
  refine g_aload_n d6_become_94 rfl ?_
  refine g_get fl6_31 d6_become_95 f_1_9 ?_
  refine g_alenI d6_become_98 (by decide) a_6 ?_
  obtain ⟨J3, hJ3⟩ : ∃ J, J = cI J2 6 (va_cpy (J2 61) (J2 6) 0 0 6) := ⟨_, rfl⟩
  refine g_cpI (h2 := hp J3 L R dy) 0 0 6 mw6_46 a_61 a_6 (by decide) (by decide) (by decide) (by decide) (by rw [hJ3]; rfl) (by omega) (Nat.le_of_ble_eq_true rfl) d6_become_99 ?_
  refine g_aload_n d6_become_102 rfl ?_
  refine g_get fl6_34 d6_become_103 f_56_10 ?_
  refine g_iconstv (nI 0) d6_become_106 rfl ?_
  refine g_aload_n d6_become_107 rfl ?_
  refine g_get fl6_34 d6_become_108 f_1_10 ?_
  refine g_iconstv (nI 0) d6_become_111 rfl ?_
  refine g_aload_n d6_become_112 rfl ?_
  refine g_get fl6_34 d6_become_113 f_1_10 ?_
  refine g_alenI d6_become_116 (by decide) a_7 ?_
  obtain ⟨J4, hJ4⟩ : ∃ J, J = cI J3 7 (va_cpy (J3 62) (J3 7) 0 0 6) := ⟨_, rfl⟩
  refine g_cpI (h2 := hp J4 L R dy) 0 0 6 mw6_46 a_62 a_7 (by decide) (by decide) (by decide) (by decide) (by rw [hJ4]; rfl) (by omega) (Nat.le_of_ble_eq_true rfl) d6_become_117 ?_
  refine g_aload_n d6_become_120 rfl ?_
  refine g_get fl6_37 d6_become_121 f_56_12 ?_
  refine g_iconstv (nI 0) d6_become_124 rfl ?_
  refine g_aload_n d6_become_125 rfl ?_
  refine g_get fl6_37 d6_become_126 f_1_12 ?_
  refine g_iconstv (nI 0) d6_become_129 rfl ?_
  refine g_aload_n d6_become_130 rfl ?_
  refine g_get fl6_37 d6_become_131 f_1_12 ?_
  refine g_alenI d6_become_134 (by decide) a_8 ?_
  obtain ⟨J5, hJ5⟩ : ∃ J, J = cI J4 8 (va_cpy (J4 63) (J4 8) 0 0 12) := ⟨_, rfl⟩
  refine g_cpI (h2 := hp J5 L R dy) 0 0 12 mw6_46 a_63 a_8 (by decide) (by decide) (by decide) (by decide) (by rw [hJ5]; rfl) (by omega) (Nat.le_of_ble_eq_true rfl) d6_become_135 ?_
  refine g_aload_n d6_become_138 rfl ?_
  refine g_get fl6_40 d6_become_139 f_56_13 ?_
  refine g_iconstv (nI 0) d6_become_142 rfl ?_
  refine g_aload_n d6_become_143 rfl ?_
  refine g_get fl6_40 d6_become_144 f_1_13 ?_
  refine g_iconstv (nI 0) d6_become_147 rfl ?_
  refine g_aload_n d6_become_148 rfl ?_
  refine g_get fl6_40 d6_become_149 f_1_13 ?_
  refine g_alenI d6_become_152 (by decide) a_9 ?_
  obtain ⟨J6, hJ6⟩ : ∃ J, J = cI J5 9 (va_cpy (J5 64) (J5 9) 0 0 12) := ⟨_, rfl⟩
  refine g_cpI (h2 := hp J6 L R dy) 0 0 12 mw6_46 a_64 a_9 (by decide) (by decide) (by decide) (by decide) (by rw [hJ6]; rfl) (by omega) (Nat.le_of_ble_eq_true rfl) d6_become_153 ?_
  refine g_iconstv (nI 0) d6_become_156 rfl ?_
  refine g_istore_n d6_become_157 (by decide) ?_
  refine g_lo [(0, .ref 1), (1, .ref 56), (2, .int (nI 0))] ⟨rfl, rfl, rfl, trivial⟩ ?_
  refine r6_become_1_56L hok (fun R3 h1 h2 => ⟨(J6, R3), ⟨fun k hk => ?_, h1, ?_⟩, rfl, rfl⟩) 6 0 R (by omega) (fun _ _ _ => rfl) (fun i hi => absurd hi (Nat.not_lt_zero i))
  · show J6 k = I k
    have e : ∀ a ∈ [1, 2, 3, 4, 5, 6, 7, 8, 9], k ≠ a := fun a ha z => hk (by rw [z]; exact ha)
    rw [hJ6, cI_n (e 9 (by decide)), hJ5, cI_n (e 8 (by decide)), hJ4, cI_n (e 7 (by decide)), hJ3, cI_n (e 6 (by decide)), hJ2, cI_n (e 3 (by decide)), hJ1, cI_n (e 2 (by decide)), hJ0, uI_n (e 1 (by decide)), uI_n (e 1 (by decide)), uI_n (e 1 (by decide)), uI_n (e 1 (by decide)), uI_n (e 1 (by decide)), uI_n (e 1 (by decide))]
  · refine ⟨fun j hj => ?_, fun j hj => ?_, fun j hj => ?_, fun j hj => ⟨?_, ?_⟩, fun j hj => ⟨?_, ?_⟩, h2⟩
    · show J6 1 j = I 56 j
      rw [hJ6, cI_n (by decide), hJ5, cI_n (by decide), hJ4, cI_n (by decide), hJ3, cI_n (by decide), hJ2, cI_n (by decide), hJ1, cI_n (by decide), hJ0]
      rcases hj with rfl | rfl | rfl | rfl | rfl | rfl <;> simp [uI_at]
    · show J6 2 j = I 57 j
      rw [hJ6, cI_n (by decide), hJ5, cI_n (by decide), hJ4, cI_n (by decide), hJ3, cI_n (by decide), hJ2, cI_n (by decide), hJ1, cI_s, cpy_at hj, hJ0, uI_n (by decide), uI_n (by decide), uI_n (by decide), uI_n (by decide), uI_n (by decide), uI_n (by decide)]
    · show J6 3 j = I 58 j
      rw [hJ6, cI_n (by decide), hJ5, cI_n (by decide), hJ4, cI_n (by decide), hJ3, cI_n (by decide), hJ2, cI_s, cpy_at hj, hJ1, cI_n (by decide), hJ0, uI_n (by decide), uI_n (by decide), uI_n (by decide), uI_n (by decide), uI_n (by decide), uI_n (by decide)]
    · show J6 6 j = I 61 j
      rw [hJ6, cI_n (by decide), hJ5, cI_n (by decide), hJ4, cI_n (by decide), hJ3, cI_s, cpy_at hj, hJ2, cI_n (by decide), hJ1, cI_n (by decide), hJ0, uI_n (by decide), uI_n (by decide), uI_n (by decide), uI_n (by decide), uI_n (by decide), uI_n (by decide)]
    · show J6 7 j = I 62 j
      rw [hJ6, cI_n (by decide), hJ5, cI_n (by decide), hJ4, cI_s, cpy_at hj, hJ3, cI_n (by decide), hJ2, cI_n (by decide), hJ1, cI_n (by decide), hJ0, uI_n (by decide), uI_n (by decide), uI_n (by decide), uI_n (by decide), uI_n (by decide), uI_n (by decide)]
    · show J6 8 j = I 63 j
      rw [hJ6, cI_n (by decide), hJ5, cI_s, cpy_at hj, hJ4, cI_n (by decide), hJ3, cI_n (by decide), hJ2, cI_n (by decide), hJ1, cI_n (by decide), hJ0, uI_n (by decide), uI_n (by decide), uI_n (by decide), uI_n (by decide), uI_n (by decide), uI_n (by decide)]
    · show J6 9 j = I 64 j
      rw [show (J6 : wI) = J6 from rfl, hJ6, cI_s, cpy_at hj, hJ5, cI_n (by decide), hJ4, cI_n (by decide), hJ3, cI_n (by decide), hJ2, cI_n (by decide), hJ1, cI_n (by decide), hJ0, uI_n (by decide), uI_n (by decide), uI_n (by decide), uI_n (by decide), uI_n (by decide), uI_n (by decide)]
set_option maxHeartbeats 800000 in
theorem r6_become_1_65L {l : Launch} {K : cK} {d : Nat} {I : wI} {L : wL} {R : wR} {dy : cH} {Q : Option Value → cH → Prop} (hok : ∀ j, j < 6 → okT dy (R 68 j) ∧ okT dy (R 69 j)) (kk : ∀ R3 : wR, (∀ k, k ≠ 4 → k ≠ 5 → R3 k = R k) → (∀ i, i < 6 → R3 4 i = R 68 i ∧ R3 5 i = R 69 i) → Q none (hp I L R3 dy)) :
    ∀ (m j : Nat) (R2 : wR), j + m = 6 → (∀ k, k ≠ 4 → k ≠ 5 → R2 k = R k) → (∀ i, i < j → R2 4 i = R 68 i ∧ R2 5 i = R 69 i) → GL l K m6_become d 0 0 158 [(0, .ref 1), (1, .ref 65), (2, .int (nI j))] [] (hp I L R2 dy) Q := by
  intro m
  induction m with
  | zero =>
    intro j R2 hj h1 h2
    obtain rfl : j = 6 := by omega
    refine g_iload_n d6_become_158 rfl ?_
    refine g_bipushv (nI 6) d6_become_159 rfl ?_
    refine g_ic_ge (6) (6) 194 (by decide) (by decide) d6_become_161 rfl (fun _ => ?_) (fun c161 => absurd c161 (by decide))
    exact g_vret rfl d6_become_194 (kk R2 h1 h2)
  | succ m ih =>
    intro j R2 hj h1 h2
    obtain ⟨o1, o2⟩ := hok j (by omega)
    have a1 : R2 68 = R 68 := h1 68 (by decide) (by decide)
    have a2 : R2 69 = R 69 := h1 69 (by decide) (by decide)
    refine g_iload_n d6_become_158 rfl ?_
    refine g_bipushv (nI 6) d6_become_159 rfl ?_
    refine g_ic_ge ((j : Nat) : Int) (6) 194 (nI_ti (by omega)) (by decide) d6_become_161 rfl (fun c161 => absurd c161 (by omega)) (fun _ => ?_)
    refine g_aload_n d6_become_164 rfl ?_
    refine g_get fl6_20 d6_become_165 f_1_4 ?_
    refine g_iload_n d6_become_168 rfl ?_
    refine g_aload_n d6_become_169 rfl ?_
    refine g_get fl6_20 d6_become_170 f_65_4 ?_
    refine g_iload_n d6_become_173 rfl ?_
    refine g_aaldN (j) 3 "CoinsWarden$Text" (by decide) d6_become_174 a_68 (rfl) (by omega) (by decide) ?_
    refine g_aastV j _ d6_become_175 a_4 (by omega) (by decide) (by rw [a1]; exact o1) t_4 ?_
    refine g_aload_n d6_become_176 rfl ?_
    refine g_get fl6_28 d6_become_177 f_1_7 ?_
    refine g_iload_n d6_become_180 rfl ?_
    refine g_aload_n d6_become_181 rfl ?_
    refine g_get fl6_28 d6_become_182 f_65_7 ?_
    refine g_iload_n d6_become_185 rfl ?_
    refine g_aaldN (j) 3 "CoinsWarden$Text" (by decide) d6_become_186 a_69 (rfl) (by omega) (by decide) ?_
    refine g_aastV j _ d6_become_187 a_5 (by omega) (by decide) (by rw [uR_n (by decide), a2]; exact o2) t_5 ?_
    refine g_iincN d6_become_188 rfl (by decide) ?_
    refine g_goto 158 d6_become_191 rfl ?_
    refine g_lo [(0, .ref 1), (1, .ref 65), (2, .int (nI (j + 1)))] ⟨rfl, rfl, rfl, trivial⟩ ?_
    refine ih (j + 1) _ (by omega) (fun k x y => by rw [uR_n y, uR_n x]; exact h1 k x y) (fun i hi => ?_)
    by_cases e : i = j
    · subst e
      rw [uR_n (by decide), uR_at, uR_at, if_pos ⟨rfl, rfl⟩, if_pos ⟨rfl, rfl⟩, uR_n (by decide), a1, a2]; exact ⟨rfl, rfl⟩
    · rw [uR_n (by decide), uR_at, uR_at, if_neg (fun z => e z.2), if_neg (fun z => e z.2), uR_n (by decide)]; exact h2 i (by omega)
set_option maxHeartbeats 800000 in
theorem r6_become_1_65 {l : Launch} {K : cK} {d : Nat} {I : wI} {L : wL} {R : wR} {dy : cH} (hok : ∀ j, j < 6 → okT dy (R 68 j) ∧ okT dy (R 69 j)) (hd : 1 ≤ d) : CW l K m6_become d [.ref 1, .ref 65] (hp I L R dy) (α := wI × wR) (fun x => (∀ k, k ∉ [1, 2, 3, 4, 5, 6, 7, 8, 9] → x.1 k = I k) ∧ (∀ k, k ≠ 4 → k ≠ 5 → x.2 k = R k) ∧ SEq I x.1 R x.2 1 65) (fun x => hp x.1 L x.2 dy) := by
  refine CC.of ok6_become (Nat.le_of_ble_eq_true rfl) ?_
  refine g_aload_n d6_become_0 rfl ?_
  refine g_aload_n d6_become_1 rfl ?_
  refine g_get fl6_52 d6_become_2 f_65_0 ?_
  refine g_putIh _ fl6_52 d6_become_5 f_1_0 s_1_0 ?_
  refine g_aload_n d6_become_8 rfl ?_
  refine g_aload_n d6_become_9 rfl ?_
  refine g_get fl6_55 d6_become_10 f_65_3 ?_
  refine g_topI (I 65 (3)) rfl ?_
  refine g_putIh _ fl6_55 d6_become_13 f_1_3 s_1_3 ?_
  refine g_aload_n d6_become_16 rfl ?_
  refine g_aload_n d6_become_17 rfl ?_
  refine g_get fl6_24 d6_become_18 f_65_5 ?_
  refine g_topI (I 65 (5)) rfl ?_
  refine g_putIh _ fl6_24 d6_become_21 f_1_5 s_1_5 ?_
  refine g_aload_n d6_become_24 rfl ?_
  refine g_aload_n d6_become_25 rfl ?_
  refine g_get fl6_58 d6_become_26 f_65_6 ?_
  refine g_topI (I 65 (6)) rfl ?_
  refine g_putIh _ fl6_58 d6_become_29 f_1_6 s_1_6 ?_
  refine g_aload_n d6_become_32 rfl ?_
  refine g_aload_n d6_become_33 rfl ?_
  refine g_get fl6_61 d6_become_34 f_65_8 ?_
  refine g_topI (I 65 (8)) rfl ?_
  refine g_putIh _ fl6_61 d6_become_37 f_1_8 s_1_8 ?_
  refine g_aload_n d6_become_40 rfl ?_
  refine g_aload_n d6_become_41 rfl ?_
  refine g_get fl6_64 d6_become_42 f_65_11 ?_
  refine g_topI (I 65 (11)) rfl ?_
  refine g_putIh _ fl6_64 d6_become_45 f_1_11 s_1_11 ?_
  obtain ⟨J0, hJ0⟩ : ∃ J, J = (uI (uI (uI (uI (uI (uI I 1 0 (I 65 0)) 1 3 (I 65 3)) 1 5 (I 65 5)) 1 6 (I 65 6)) 1 8 (I 65 8)) 1 11 (I 65 11)) := ⟨_, rfl⟩
  refine g_hp (hp J0 L R dy) (by subst hJ0; rfl) ?_
  refine g_aload_n d6_become_48 rfl ?_
  refine g_get fl6_9 d6_become_49 f_65_1 ?_
  refine g_iconstv (nI 0) d6_become_52 rfl ?_
  refine g_aload_n d6_become_53 rfl ?_
  refine g_get fl6_9 d6_become_54 f_1_1 ?_
  refine g_iconstv (nI 0) d6_become_57 rfl ?_
  refine g_aload_n d6_become_58 rfl ?_
  refine g_get fl6_9 d6_become_59 f_1_1 ?_
  refine g_alenI d6_become_62 (by decide) a_2 ?_
  obtain ⟨J1, hJ1⟩ : ∃ J, J = cI J0 2 (va_cpy (J0 66) (J0 2) 0 0 24) := ⟨_, rfl⟩
  refine g_cpI (h2 := hp J1 L R dy) 0 0 24 mw6_46 a_66 a_2 (by decide) (by decide) (by decide) (by decide) (by rw [hJ1]; rfl) (by omega) (Nat.le_of_ble_eq_true rfl) d6_become_63 ?_
  refine g_aload_n d6_become_66 rfl ?_
  refine g_get fl6_15 d6_become_67 f_65_2 ?_
  refine g_iconstv (nI 0) d6_become_70 rfl ?_
  refine g_aload_n d6_become_71 rfl ?_
  refine g_get fl6_15 d6_become_72 f_1_2 ?_
  refine g_iconstv (nI 0) d6_become_75 rfl ?_
  refine g_aload_n d6_become_76 rfl ?_
  refine g_get fl6_15 d6_become_77 f_1_2 ?_
  refine g_alenI d6_become_80 (by decide) a_3 ?_
  obtain ⟨J2, hJ2⟩ : ∃ J, J = cI J1 3 (va_cpy (J1 67) (J1 3) 0 0 8) := ⟨_, rfl⟩
  refine g_cpI (h2 := hp J2 L R dy) 0 0 8 mw6_46 a_67 a_3 (by decide) (by decide) (by decide) (by decide) (by rw [hJ2]; rfl) (by omega) (Nat.le_of_ble_eq_true rfl) d6_become_81 ?_
  refine g_aload_n d6_become_84 rfl ?_
  refine g_get fl6_31 d6_become_85 f_65_9 ?_
  refine g_iconstv (nI 0) d6_become_88 rfl ?_
  refine g_aload_n d6_become_89 rfl ?_
  refine g_get fl6_31 d6_become_90 f_1_9 ?_
  refine g_iconstv (nI 0) d6_become_93 rfl ?_
  refine g_aload_n d6_become_94 rfl ?_
  refine g_get fl6_31 d6_become_95 f_1_9 ?_
  refine g_alenI d6_become_98 (by decide) a_6 ?_
  obtain ⟨J3, hJ3⟩ : ∃ J, J = cI J2 6 (va_cpy (J2 70) (J2 6) 0 0 6) := ⟨_, rfl⟩
  refine g_cpI (h2 := hp J3 L R dy) 0 0 6 mw6_46 a_70 a_6 (by decide) (by decide) (by decide) (by decide) (by rw [hJ3]; rfl) (by omega) (Nat.le_of_ble_eq_true rfl) d6_become_99 ?_
  refine g_aload_n d6_become_102 rfl ?_
  refine g_get fl6_34 d6_become_103 f_65_10 ?_
  refine g_iconstv (nI 0) d6_become_106 rfl ?_
  refine g_aload_n d6_become_107 rfl ?_
  refine g_get fl6_34 d6_become_108 f_1_10 ?_
  refine g_iconstv (nI 0) d6_become_111 rfl ?_
  refine g_aload_n d6_become_112 rfl ?_
  refine g_get fl6_34 d6_become_113 f_1_10 ?_
  refine g_alenI d6_become_116 (by decide) a_7 ?_
  obtain ⟨J4, hJ4⟩ : ∃ J, J = cI J3 7 (va_cpy (J3 71) (J3 7) 0 0 6) := ⟨_, rfl⟩
  refine g_cpI (h2 := hp J4 L R dy) 0 0 6 mw6_46 a_71 a_7 (by decide) (by decide) (by decide) (by decide) (by rw [hJ4]; rfl) (by omega) (Nat.le_of_ble_eq_true rfl) d6_become_117 ?_
  refine g_aload_n d6_become_120 rfl ?_
  refine g_get fl6_37 d6_become_121 f_65_12 ?_
  refine g_iconstv (nI 0) d6_become_124 rfl ?_
  refine g_aload_n d6_become_125 rfl ?_
  refine g_get fl6_37 d6_become_126 f_1_12 ?_
  refine g_iconstv (nI 0) d6_become_129 rfl ?_
  refine g_aload_n d6_become_130 rfl ?_
  refine g_get fl6_37 d6_become_131 f_1_12 ?_
  refine g_alenI d6_become_134 (by decide) a_8 ?_
  obtain ⟨J5, hJ5⟩ : ∃ J, J = cI J4 8 (va_cpy (J4 72) (J4 8) 0 0 12) := ⟨_, rfl⟩
  refine g_cpI (h2 := hp J5 L R dy) 0 0 12 mw6_46 a_72 a_8 (by decide) (by decide) (by decide) (by decide) (by rw [hJ5]; rfl) (by omega) (Nat.le_of_ble_eq_true rfl) d6_become_135 ?_
  refine g_aload_n d6_become_138 rfl ?_
  refine g_get fl6_40 d6_become_139 f_65_13 ?_
  refine g_iconstv (nI 0) d6_become_142 rfl ?_
  refine g_aload_n d6_become_143 rfl ?_
  refine g_get fl6_40 d6_become_144 f_1_13 ?_
  refine g_iconstv (nI 0) d6_become_147 rfl ?_
  refine g_aload_n d6_become_148 rfl ?_
  refine g_get fl6_40 d6_become_149 f_1_13 ?_
  refine g_alenI d6_become_152 (by decide) a_9 ?_
  obtain ⟨J6, hJ6⟩ : ∃ J, J = cI J5 9 (va_cpy (J5 73) (J5 9) 0 0 12) := ⟨_, rfl⟩
  refine g_cpI (h2 := hp J6 L R dy) 0 0 12 mw6_46 a_73 a_9 (by decide) (by decide) (by decide) (by decide) (by rw [hJ6]; rfl) (by omega) (Nat.le_of_ble_eq_true rfl) d6_become_153 ?_
  refine g_iconstv (nI 0) d6_become_156 rfl ?_
  refine g_istore_n d6_become_157 (by decide) ?_
  refine g_lo [(0, .ref 1), (1, .ref 65), (2, .int (nI 0))] ⟨rfl, rfl, rfl, trivial⟩ ?_
  refine r6_become_1_65L hok (fun R3 h1 h2 => ⟨(J6, R3), ⟨fun k hk => ?_, h1, ?_⟩, rfl, rfl⟩) 6 0 R (by omega) (fun _ _ _ => rfl) (fun i hi => absurd hi (Nat.not_lt_zero i))
  · show J6 k = I k
    have e : ∀ a ∈ [1, 2, 3, 4, 5, 6, 7, 8, 9], k ≠ a := fun a ha z => hk (by rw [z]; exact ha)
    rw [hJ6, cI_n (e 9 (by decide)), hJ5, cI_n (e 8 (by decide)), hJ4, cI_n (e 7 (by decide)), hJ3, cI_n (e 6 (by decide)), hJ2, cI_n (e 3 (by decide)), hJ1, cI_n (e 2 (by decide)), hJ0, uI_n (e 1 (by decide)), uI_n (e 1 (by decide)), uI_n (e 1 (by decide)), uI_n (e 1 (by decide)), uI_n (e 1 (by decide)), uI_n (e 1 (by decide))]
  · refine ⟨fun j hj => ?_, fun j hj => ?_, fun j hj => ?_, fun j hj => ⟨?_, ?_⟩, fun j hj => ⟨?_, ?_⟩, h2⟩
    · show J6 1 j = I 65 j
      rw [hJ6, cI_n (by decide), hJ5, cI_n (by decide), hJ4, cI_n (by decide), hJ3, cI_n (by decide), hJ2, cI_n (by decide), hJ1, cI_n (by decide), hJ0]
      rcases hj with rfl | rfl | rfl | rfl | rfl | rfl <;> simp [uI_at]
    · show J6 2 j = I 66 j
      rw [hJ6, cI_n (by decide), hJ5, cI_n (by decide), hJ4, cI_n (by decide), hJ3, cI_n (by decide), hJ2, cI_n (by decide), hJ1, cI_s, cpy_at hj, hJ0, uI_n (by decide), uI_n (by decide), uI_n (by decide), uI_n (by decide), uI_n (by decide), uI_n (by decide)]
    · show J6 3 j = I 67 j
      rw [hJ6, cI_n (by decide), hJ5, cI_n (by decide), hJ4, cI_n (by decide), hJ3, cI_n (by decide), hJ2, cI_s, cpy_at hj, hJ1, cI_n (by decide), hJ0, uI_n (by decide), uI_n (by decide), uI_n (by decide), uI_n (by decide), uI_n (by decide), uI_n (by decide)]
    · show J6 6 j = I 70 j
      rw [hJ6, cI_n (by decide), hJ5, cI_n (by decide), hJ4, cI_n (by decide), hJ3, cI_s, cpy_at hj, hJ2, cI_n (by decide), hJ1, cI_n (by decide), hJ0, uI_n (by decide), uI_n (by decide), uI_n (by decide), uI_n (by decide), uI_n (by decide), uI_n (by decide)]
    · show J6 7 j = I 71 j
      rw [hJ6, cI_n (by decide), hJ5, cI_n (by decide), hJ4, cI_s, cpy_at hj, hJ3, cI_n (by decide), hJ2, cI_n (by decide), hJ1, cI_n (by decide), hJ0, uI_n (by decide), uI_n (by decide), uI_n (by decide), uI_n (by decide), uI_n (by decide), uI_n (by decide)]
    · show J6 8 j = I 72 j
      rw [hJ6, cI_n (by decide), hJ5, cI_s, cpy_at hj, hJ4, cI_n (by decide), hJ3, cI_n (by decide), hJ2, cI_n (by decide), hJ1, cI_n (by decide), hJ0, uI_n (by decide), uI_n (by decide), uI_n (by decide), uI_n (by decide), uI_n (by decide), uI_n (by decide)]
    · show J6 9 j = I 73 j
      rw [show (J6 : wI) = J6 from rfl, hJ6, cI_s, cpy_at hj, hJ5, cI_n (by decide), hJ4, cI_n (by decide), hJ3, cI_n (by decide), hJ2, cI_n (by decide), hJ1, cI_n (by decide), hJ0, uI_n (by decide), uI_n (by decide), uI_n (by decide), uI_n (by decide), uI_n (by decide), uI_n (by decide)]
