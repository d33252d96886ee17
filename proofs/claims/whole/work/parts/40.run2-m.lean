set_option maxHeartbeats 1600000 in
theorem r12_fr1 {l : Launch} {K : cK} {d : Nat} {I : wI} {L L0 : wL} {R : wR} {dy : cH} {Q : Option Value → cH → Prop} (coin per c fr ti se fl : Nat) (hC : CF I c fr ti se fl) (hco : I 76 6 = nI coin) (hc9 : coin ≤ 9) (hpe : I 76 7 = nI per) (hp4 : per ≤ 4) (wn : Bool) (cm fn : Nat → Nat → Nat) (sb : Nat → Nat → Bool) (hcm : ∀ s k, cm s k ≤ 10) (hfn : ∀ s k, fn s k ≤ 99) (hcs : ∀ s, fr ≤ s → s < ti + 1 → ∀ k, 1 ≤ k → k ≤ 12 → I 90 (13 * s + k) = nI (cm s k) ∧ I 92 (13 * s + k) = nI (fn s k) ∧ I 93 (13 * s + k) = if sb s k = true then 1 else 0) (m k left : Nat) (hm : m ≤ 11) (hmt : fr + m ≤ ti) (hk1 : 1 ≤ k) (hk2 : k ≤ 12) (hl : left ≤ 12) (hd : 2 ≤ d) (J : wI) (hnx : ∀ j q, 1 ≤ j → j ≤ 12 → q ≤ 12 → L0 97 (169 * (ti - m + 1) + 13 * j + q) = lN (rD coin per fr ti fl wn cm fn sb m j q))
    (kk : ∀ (I3 : wI), FR [98] [] [97] [] I L I3 L0 → (∀ q, q ≠ 169 * (ti - m) + 13 * k + left → I3 98 q = J 98 q) → I3 98 (169 * (ti - m) + 13 * k + left) = nI (fa (rc1 coin per fr fl wn (10 ^ m) (cm (ti - m) k) (fn (ti - m) k) (sb (ti - m) k) (rD coin per fr ti fl wn cm fn sb m) (ti - m) k left) 12).2.1 → GL l K m12_findRun d 0 0 252 [(0, .ref 74), (1, .int (nI (c))), (2, .int (if wn = true then 1 else 0)), (3, .int (nI (ti))), (4, .int (nI (ti - m))), (5, .long (lN (10 ^ m))), (7, .int (nI (k))), (8, .int (nI (cm (ti - m) k))), (9, .int (nI (left))), (10, .long (lN (fa (rc1 coin per fr fl wn (10 ^ m) (cm (ti - m) k) (fn (ti - m) k) (sb (ti - m) k) (rD coin per fr ti fl wn cm fn sb m) (ti - m) k left) 12).1)), (12, .int (nI (169 * (ti - m) + 13 * k + left)))] [] (hp I3 L0 R dy) Q) :
    ∀ (n j : Nat) (I2 : wI), j + n = 12 → FR [98] [] [97] [] I L I2 L0 → (∀ q, q ≠ 169 * (ti - m) + 13 * k + left → I2 98 q = J 98 q) → I2 98 (169 * (ti - m) + 13 * k + left) = nI (fa (rc1 coin per fr fl wn (10 ^ m) (cm (ti - m) k) (fn (ti - m) k) (sb (ti - m) k) (rD coin per fr ti fl wn cm fn sb m) (ti - m) k left) j).2.1 →
    GL l K m12_findRun d 0 0 117 [(0, .ref 74), (1, .int (nI (c))), (2, .int (if wn = true then 1 else 0)), (3, .int (nI (ti))), (4, .int (nI (ti - m))), (5, .long (lN (10 ^ m))), (7, .int (nI (k))), (8, .int (nI (cm (ti - m) k))), (9, .int (nI (left))), (10, .long (lN (fa (rc1 coin per fr fl wn (10 ^ m) (cm (ti - m) k) (fn (ti - m) k) (sb (ti - m) k) (rD coin per fr ti fl wn cm fn sb m) (ti - m) k left) j).1)), (12, .int (nI (169 * (ti - m) + 13 * k + left))), (13, .int (nI (j + 1)))] [] (hp I2 L0 R dy) Q := by
  obtain ⟨hc6, q0, q1, -, q3, hft, ht11, -, hfl⟩ := id hC
  obtain ⟨c1, c2, c3⟩ := hcs (ti - m) (by omega) (by omega) k hk1 hk2
  have hc10 := hcm (ti - m) k
  have hlat : lat k ≤ 12 ∧ 1 ≤ lat k := by unfold lat; split <;> omega
  have hpw := pw12 (m := m) (by omega)
  intro n
  induction n with
  | zero =>
    intro j I2 hk hF hkeep hb
    obtain rfl : j = 12 := by omega
    refine g_iload d12_findRun_117 rfl ?_
    refine g_bipushv (nI 12) d12_findRun_119 rfl ?_
    refine g_ic_gt (((12 + 1) : Nat) : Int) (12) 252 (nI_ti (by omega)) (by decide) d12_findRun_121 rfl (fun _ => ?_) (fun c121 => absurd c121 (by decide))
    refine g_lo [(0, .ref 74), (1, .int (nI (c))), (2, .int (if wn = true then 1 else 0)), (3, .int (nI (ti))), (4, .int (nI (ti - m))), (5, .long (lN (10 ^ m))), (7, .int (nI (k))), (8, .int (nI (cm (ti - m) k))), (9, .int (nI (left))), (10, .long (lN (fa (rc1 coin per fr fl wn (10 ^ m) (cm (ti - m) k) (fn (ti - m) k) (sb (ti - m) k) (rD coin per fr ti fl wn cm fn sb m) (ti - m) k left) 12).1)), (12, .int (nI (169 * (ti - m) + 13 * k + left)))] ⟨rfl, rfl, rfl, rfl, rfl, rfl, rfl, rfl, rfl, rfl, rfl, trivial⟩ ?_
    exact kk I2 hF hkeep hb
  | succ n ih =>
    intro j I2 hj hF hkeep hb
    have hb0 : (rc1 coin per fr fl wn (10 ^ m) (cm (ti - m) k) (fn (ti - m) k) (sb (ti - m) k) (rD coin per fr ti fl wn cm fn sb m) (ti - m) k left) (j + 1) < 4000000000000000000 := rc1_lt hcm hfn hc9 hfl (by omega) (by omega) k left
    have hb1 : (fa (rc1 coin per fr fl wn (10 ^ m) (cm (ti - m) k) (fn (ti - m) k) (sb (ti - m) k) (rD coin per fr ti fl wn cm fn sb m) (ti - m) k left) j).1 < 4000000000000000000 := fa_lt _ j (fun i hi => rc1_lt hcm hfn hc9 hfl (by omega) (by omega) k left)
    have hprc : prc coin fr fl (ti - m) (j + 1) ≤ 117 := prc_le hc9 hfl (by omega)
    have hpd : pdb per left (j + 1) ≤ 12 := by unfold pdb; omega
    have hles : les (pdb per left (j + 1)) ≤ 12 := by unfold les; omega
    by_cases hv : (rc1 coin per fr fl wn (10 ^ m) (cm (ti - m) k) (fn (ti - m) k) (sb (ti - m) k) (rD coin per fr ti fl wn cm fn sb m) (ti - m) k left) (j + 1) < (fa (rc1 coin per fr fl wn (10 ^ m) (cm (ti - m) k) (fn (ti - m) k) (sb (ti - m) k) (rD coin per fr ti fl wn cm fn sb m) (ti - m) k left) j).1
    · have hfa : ((fa (rc1 coin per fr fl wn (10 ^ m) (cm (ti - m) k) (fn (ti - m) k) (sb (ti - m) k) (rD coin per fr ti fl wn cm fn sb m) (ti - m) k left) (j + 1)).1 = (rc1 coin per fr fl wn (10 ^ m) (cm (ti - m) k) (fn (ti - m) k) (sb (ti - m) k) (rD coin per fr ti fl wn cm fn sb m) (ti - m) k left) (j + 1)) ∧ (fa (rc1 coin per fr fl wn (10 ^ m) (cm (ti - m) k) (fn (ti - m) k) (sb (ti - m) k) (rD coin per fr ti fl wn cm fn sb m) (ti - m) k left) (j + 1)).2.1 = j + 1 := by show (if _ then _ else _ : Nat × Nat × Nat).1 = _ ∧ (if _ then _ else _ : Nat × Nat × Nat).2.1 = _; rw [if_pos hv]; exact ⟨rfl, rfl⟩
      refine g_iload d12_findRun_117 rfl ?_
      refine g_bipushv (nI 12) d12_findRun_119 rfl ?_
      refine g_ic_gt (((j + 1) : Nat) : Int) (12) 252 (nI_ti (by omega)) (by decide) d12_findRun_121 rfl (fun c121 => absurd c121 (by omega)) (fun _ => ?_)
      refine g_aload_n d12_findRun_124 rfl ?_
      refine g_iload d12_findRun_125 rfl ?_
      refine g_iload d12_findRun_127 rfl ?_
      refine g_EV2 vm12_paidBy ml12_424 c_74 (r12_paidBy per left (j + 1) (by exact ((congrFun (hF.1 76 (by decide) (by decide)) 7)).trans hpe) hp4 hl (by omega) (Nat.le_refl 1)) (by omega) (Nat.le_of_ble_eq_true rfl) d12_findRun_129 ?_
      refine g_istore d12_findRun_132 (by decide) ?_
      refine g_ldc2 d12_findRun_134 kl12_223 ?_
      refine g_lload d12_findRun_137 rfl ?_
      refine g_lmul d12_findRun_139 ?_
      refine g_topL (lN (10 * 10 ^ m)) (lN_mul _ _) ?_
      refine g_aload_n d12_findRun_140 rfl ?_
      refine g_iload_n d12_findRun_141 rfl ?_
      refine g_iload d12_findRun_142 rfl ?_
      refine g_iload d12_findRun_144 rfl ?_
      refine g_EV3 vm12_price ml12_454 c_74 (r12_price coin c fr ti se fl (ti - m) (j + 1) (hC.of (hF.1 76 (by decide) (by decide))) (by exact ((congrFun (hF.1 76 (by decide) (by decide)) 6)).trans hco) hc9 (by omega) (by omega) (Nat.le_refl 1)) (by omega) (Nat.le_of_ble_eq_true rfl) d12_findRun_146 ?_
      refine g_i2lN (by omega) d12_findRun_149 ?_
      refine g_lmul d12_findRun_150 ?_
      refine g_topL (lN (10 * 10 ^ m * (prc coin fr fl (ti - m) (j + 1)))) (lN_mul _ _) ?_
      refine g_iload d12_findRun_151 rfl ?_
      refine g_i2lN (by omega) d12_findRun_153 ?_
      refine g_aload_n d12_findRun_154 rfl ?_
      refine g_iload_n d12_findRun_155 rfl ?_
      refine g_iload d12_findRun_156 rfl ?_
      refine g_iload d12_findRun_158 rfl ?_
      refine g_iload d12_findRun_160 rfl ?_
      refine g_lload d12_findRun_162 rfl ?_
      refine g_iload_n d12_findRun_164 rfl ?_
      refine g_EV6 vm12_ifHeComes ml12_468 c_74 (r12_ifHeComes coin per c fr ti se fl (hC.of (hF.1 76 (by decide) (by decide))) (by exact ((congrFun (hF.1 76 (by decide) (by decide)) 6)).trans hco) hc9 (by exact ((congrFun (hF.1 76 (by decide) (by decide)) 7)).trans hpe) hp4 (ti - m) k (pdb per left (j + 1)) (10 ^ m) (fn (ti - m) k) (by omega) hk1 hk2 hpd (sb (ti - m) k) wn (by exact (congrFun (hF.1 93 (by decide) (by decide)) _).trans c3) (by exact (congrFun (hF.1 92 (by decide) (by decide)) _).trans c2) (hfn _ _) (rD coin per fr ti fl wn cm fn sb m 1) (fun q hq => hnx 1 q (by decide) (by decide) hq) hpw (fun q => Nat.le_trans (rD_lt hcm hfn (by omega) 1 q) (by decide)) (Nat.le_refl 1)) (by omega) (Nat.le_of_ble_eq_true rfl) d12_findRun_165 ?_
      refine g_lmul d12_findRun_168 ?_
      refine g_topL (lN (cm (ti - m) k * (ifc coin per fl wn (10 ^ m) (fn (ti - m) k) (sb (ti - m) k) (rD coin per fr ti fl wn cm fn sb m 1) (pdb per left (j + 1))))) (lN_mul _ _) ?_
      refine g_ladd d12_findRun_169 ?_
      refine g_topL (lN (10 * 10 ^ m * (prc coin fr fl (ti - m) (j + 1)) + cm (ti - m) k * (ifc coin per fl wn (10 ^ m) (fn (ti - m) k) (sb (ti - m) k) (rD coin per fr ti fl wn cm fn sb m 1) (pdb per left (j + 1))))) (lN_add _ _) ?_
      refine g_bipushv (nI 10) d12_findRun_170 rfl ?_
      refine g_iload d12_findRun_172 rfl ?_
      refine g_isubN (hc10) d12_findRun_174 ?_
      refine g_i2lN (by omega) d12_findRun_175 ?_
      refine g_aload_n d12_findRun_176 rfl ?_
      refine g_get fl12_104 d12_findRun_177 f_74_47 ?_
      refine g_iload d12_findRun_180 rfl ?_
      refine g_iconstv (nI 1) d12_findRun_182 rfl ?_
      refine g_iaddN d12_findRun_183 ?_
      refine g_iload d12_findRun_184 rfl ?_
      refine g_ES1 sm12_later ml12_418 (r12_later (k) (by omega) (Nat.le_refl 0)) (by omega) (Nat.le_of_ble_eq_true rfl) d12_findRun_186 ?_
      refine g_iload d12_findRun_189 rfl ?_
      refine g_ES1 sm12_less ml12_427 (r12_less ((pdb per left (j + 1))) (by omega) (Nat.le_refl 0)) (by omega) (Nat.le_of_ble_eq_true rfl) d12_findRun_191 ?_
      refine g_ES3 sm12_runAt ml12_461 (r12_runAt (((ti - m) + 1)) ((lat (k))) ((les ((pdb per left (j + 1))))) (Nat.le_refl 0)) (by omega) (Nat.le_of_ble_eq_true rfl) d12_findRun_194 ?_
      refine g_laldN ((169 * ((ti - m) + 1) + 13 * (lat (k)) + (les ((pdb per left (j + 1)))))) d12_findRun_197 a_97 (rfl) (by omega) (by decide) ?_
      refine g_topL (lN (rD coin per fr ti fl wn cm fn sb m (lat k) (les (pdb per left (j + 1))))) (hnx _ _ hlat.2 hlat.1 (by omega)) ?_
      refine g_lmul d12_findRun_198 ?_
      refine g_topL (lN ((10 - cm (ti - m) k) * (rD coin per fr ti fl wn cm fn sb m (lat k) (les (pdb per left (j + 1)))))) (lN_mul _ _) ?_
      refine g_ladd d12_findRun_199 ?_
      refine g_topL (lN ((rc1 coin per fr fl wn (10 ^ m) (cm (ti - m) k) (fn (ti - m) k) (sb (ti - m) k) (rD coin per fr ti fl wn cm fn sb m) (ti - m) k left) (j + 1))) (lN_add _ _) ?_
      refine g_lstore d12_findRun_200 (by decide) ?_
      refine g_aload_n d12_findRun_202 rfl ?_
      refine g_get fl12_107 d12_findRun_203 f_74_48 ?_
      refine g_iload d12_findRun_206 rfl ?_
      refine g_lload d12_findRun_208 rfl ?_
      refine g_lload d12_findRun_210 rfl ?_
      refine g_lx_ge (((rc1 coin per fr fl wn (10 ^ m) (cm (ti - m) k) (fn (ti - m) k) (sb (ti - m) k) (rD coin per fr ti fl wn cm fn sb m) (ti - m) k left) (j + 1) : Nat) : Int) (((fa (rc1 coin per fr fl wn (10 ^ m) (cm (ti - m) k) (fn (ti - m) k) (sb (ti - m) k) (rD coin per fr ti fl wn cm fn sb m) (ti - m) k left) j).1 : Nat) : Int) 221 (pk_lT (by omega)) (pk_lT (by omega)) d12_findRun_212 d12_findRun_213 rfl (fun c212 => absurd c212 (by omega)) (fun _ => ?_)
      refine g_iload d12_findRun_216 rfl ?_
      refine g_goto 228 d12_findRun_218 rfl ?_
      refine g_iastN ((169 * (ti - m) + 13 * k + left)) _ d12_findRun_228 a_98 (rfl) (by omega) (by decide) t_98 ?_
      refine g_lload d12_findRun_229 rfl ?_
      refine g_lload d12_findRun_231 rfl ?_
      refine g_lx_ge (((rc1 coin per fr fl wn (10 ^ m) (cm (ti - m) k) (fn (ti - m) k) (sb (ti - m) k) (rD coin per fr ti fl wn cm fn sb m) (ti - m) k left) (j + 1) : Nat) : Int) (((fa (rc1 coin per fr fl wn (10 ^ m) (cm (ti - m) k) (fn (ti - m) k) (sb (ti - m) k) (rD coin per fr ti fl wn cm fn sb m) (ti - m) k left) j).1 : Nat) : Int) 242 (pk_lT (by omega)) (pk_lT (by omega)) d12_findRun_233 d12_findRun_234 rfl (fun c233 => absurd c233 (by omega)) (fun _ => ?_)
      refine g_lload d12_findRun_237 rfl ?_
      refine g_goto 244 d12_findRun_239 rfl ?_
      refine g_lstore d12_findRun_244 (by decide) ?_
      refine g_iincN d12_findRun_246 rfl (by decide) ?_
      refine g_goto 117 d12_findRun_249 rfl ?_
      refine g_lo [(0, .ref 74), (1, .int (nI (c))), (2, .int (if wn = true then 1 else 0)), (3, .int (nI (ti))), (4, .int (nI (ti - m))), (5, .long (lN (10 ^ m))), (7, .int (nI (k))), (8, .int (nI (cm (ti - m) k))), (9, .int (nI (left))), (10, .long (lN (fa (rc1 coin per fr fl wn (10 ^ m) (cm (ti - m) k) (fn (ti - m) k) (sb (ti - m) k) (rD coin per fr ti fl wn cm fn sb m) (ti - m) k left) (j + 1)).1)), (12, .int (nI (169 * (ti - m) + 13 * k + left))), (13, .int (nI (j + 1 + 1)))] ⟨rfl, rfl, rfl, rfl, rfl, rfl, rfl, rfl, rfl, ?_, rfl, rfl, trivial⟩ ?_
      · show some (Value.long (lN ((rc1 coin per fr fl wn (10 ^ m) (cm (ti - m) k) (fn (ti - m) k) (sb (ti - m) k) (rD coin per fr ti fl wn cm fn sb m) (ti - m) k left) (j + 1)))) = some (Value.long (lN (fa (rc1 coin per fr fl wn (10 ^ m) (cm (ti - m) k) (fn (ti - m) k) (sb (ti - m) k) (rD coin per fr ti fl wn cm fn sb m) (ti - m) k left) (j + 1)).1))
        rw [hfa.1]
      refine ih (j + 1) _ (by omega) (hF.ui (by decide) (by decide)) (fun q hq => ?_) ?_
      · rw [uI_sn hq]; exact hkeep q hq
      · rw [uI_ss, hfa.2]
    · have hfa : ((fa (rc1 coin per fr fl wn (10 ^ m) (cm (ti - m) k) (fn (ti - m) k) (sb (ti - m) k) (rD coin per fr ti fl wn cm fn sb m) (ti - m) k left) (j + 1)).1 = (fa (rc1 coin per fr fl wn (10 ^ m) (cm (ti - m) k) (fn (ti - m) k) (sb (ti - m) k) (rD coin per fr ti fl wn cm fn sb m) (ti - m) k left) j).1) ∧ (fa (rc1 coin per fr fl wn (10 ^ m) (cm (ti - m) k) (fn (ti - m) k) (sb (ti - m) k) (rD coin per fr ti fl wn cm fn sb m) (ti - m) k left) (j + 1)).2.1 = (fa (rc1 coin per fr fl wn (10 ^ m) (cm (ti - m) k) (fn (ti - m) k) (sb (ti - m) k) (rD coin per fr ti fl wn cm fn sb m) (ti - m) k left) j).2.1 := by show (if _ then _ else _ : Nat × Nat × Nat).1 = _ ∧ (if _ then _ else _ : Nat × Nat × Nat).2.1 = _; rw [if_neg hv]; split <;> exact ⟨rfl, rfl⟩
      refine g_iload d12_findRun_117 rfl ?_
      refine g_bipushv (nI 12) d12_findRun_119 rfl ?_
      refine g_ic_gt (((j + 1) : Nat) : Int) (12) 252 (nI_ti (by omega)) (by decide) d12_findRun_121 rfl (fun c121 => absurd c121 (by omega)) (fun _ => ?_)
      refine g_aload_n d12_findRun_124 rfl ?_
      refine g_iload d12_findRun_125 rfl ?_
      refine g_iload d12_findRun_127 rfl ?_
      refine g_EV2 vm12_paidBy ml12_424 c_74 (r12_paidBy per left (j + 1) (by exact ((congrFun (hF.1 76 (by decide) (by decide)) 7)).trans hpe) hp4 hl (by omega) (Nat.le_refl 1)) (by omega) (Nat.le_of_ble_eq_true rfl) d12_findRun_129 ?_
      refine g_istore d12_findRun_132 (by decide) ?_
      refine g_ldc2 d12_findRun_134 kl12_223 ?_
      refine g_lload d12_findRun_137 rfl ?_
      refine g_lmul d12_findRun_139 ?_
      refine g_topL (lN (10 * 10 ^ m)) (lN_mul _ _) ?_
      refine g_aload_n d12_findRun_140 rfl ?_
      refine g_iload_n d12_findRun_141 rfl ?_
      refine g_iload d12_findRun_142 rfl ?_
      refine g_iload d12_findRun_144 rfl ?_
      refine g_EV3 vm12_price ml12_454 c_74 (r12_price coin c fr ti se fl (ti - m) (j + 1) (hC.of (hF.1 76 (by decide) (by decide))) (by exact ((congrFun (hF.1 76 (by decide) (by decide)) 6)).trans hco) hc9 (by omega) (by omega) (Nat.le_refl 1)) (by omega) (Nat.le_of_ble_eq_true rfl) d12_findRun_146 ?_
      refine g_i2lN (by omega) d12_findRun_149 ?_
      refine g_lmul d12_findRun_150 ?_
      refine g_topL (lN (10 * 10 ^ m * (prc coin fr fl (ti - m) (j + 1)))) (lN_mul _ _) ?_
      refine g_iload d12_findRun_151 rfl ?_
      refine g_i2lN (by omega) d12_findRun_153 ?_
      refine g_aload_n d12_findRun_154 rfl ?_
      refine g_iload_n d12_findRun_155 rfl ?_
      refine g_iload d12_findRun_156 rfl ?_
      refine g_iload d12_findRun_158 rfl ?_
      refine g_iload d12_findRun_160 rfl ?_
      refine g_lload d12_findRun_162 rfl ?_
      refine g_iload_n d12_findRun_164 rfl ?_
      refine g_EV6 vm12_ifHeComes ml12_468 c_74 (r12_ifHeComes coin per c fr ti se fl (hC.of (hF.1 76 (by decide) (by decide))) (by exact ((congrFun (hF.1 76 (by decide) (by decide)) 6)).trans hco) hc9 (by exact ((congrFun (hF.1 76 (by decide) (by decide)) 7)).trans hpe) hp4 (ti - m) k (pdb per left (j + 1)) (10 ^ m) (fn (ti - m) k) (by omega) hk1 hk2 hpd (sb (ti - m) k) wn (by exact (congrFun (hF.1 93 (by decide) (by decide)) _).trans c3) (by exact (congrFun (hF.1 92 (by decide) (by decide)) _).trans c2) (hfn _ _) (rD coin per fr ti fl wn cm fn sb m 1) (fun q hq => hnx 1 q (by decide) (by decide) hq) hpw (fun q => Nat.le_trans (rD_lt hcm hfn (by omega) 1 q) (by decide)) (Nat.le_refl 1)) (by omega) (Nat.le_of_ble_eq_true rfl) d12_findRun_165 ?_
      refine g_lmul d12_findRun_168 ?_
      refine g_topL (lN (cm (ti - m) k * (ifc coin per fl wn (10 ^ m) (fn (ti - m) k) (sb (ti - m) k) (rD coin per fr ti fl wn cm fn sb m 1) (pdb per left (j + 1))))) (lN_mul _ _) ?_
      refine g_ladd d12_findRun_169 ?_
      refine g_topL (lN (10 * 10 ^ m * (prc coin fr fl (ti - m) (j + 1)) + cm (ti - m) k * (ifc coin per fl wn (10 ^ m) (fn (ti - m) k) (sb (ti - m) k) (rD coin per fr ti fl wn cm fn sb m 1) (pdb per left (j + 1))))) (lN_add _ _) ?_
      refine g_bipushv (nI 10) d12_findRun_170 rfl ?_
      refine g_iload d12_findRun_172 rfl ?_
      refine g_isubN (hc10) d12_findRun_174 ?_
      refine g_i2lN (by omega) d12_findRun_175 ?_
      refine g_aload_n d12_findRun_176 rfl ?_
      refine g_get fl12_104 d12_findRun_177 f_74_47 ?_
      refine g_iload d12_findRun_180 rfl ?_
      refine g_iconstv (nI 1) d12_findRun_182 rfl ?_
      refine g_iaddN d12_findRun_183 ?_
      refine g_iload d12_findRun_184 rfl ?_
      refine g_ES1 sm12_later ml12_418 (r12_later (k) (by omega) (Nat.le_refl 0)) (by omega) (Nat.le_of_ble_eq_true rfl) d12_findRun_186 ?_
      refine g_iload d12_findRun_189 rfl ?_
      refine g_ES1 sm12_less ml12_427 (r12_less ((pdb per left (j + 1))) (by omega) (Nat.le_refl 0)) (by omega) (Nat.le_of_ble_eq_true rfl) d12_findRun_191 ?_
      refine g_ES3 sm12_runAt ml12_461 (r12_runAt (((ti - m) + 1)) ((lat (k))) ((les ((pdb per left (j + 1))))) (Nat.le_refl 0)) (by omega) (Nat.le_of_ble_eq_true rfl) d12_findRun_194 ?_
      refine g_laldN ((169 * ((ti - m) + 1) + 13 * (lat (k)) + (les ((pdb per left (j + 1)))))) d12_findRun_197 a_97 (rfl) (by omega) (by decide) ?_
      refine g_topL (lN (rD coin per fr ti fl wn cm fn sb m (lat k) (les (pdb per left (j + 1))))) (hnx _ _ hlat.2 hlat.1 (by omega)) ?_
      refine g_lmul d12_findRun_198 ?_
      refine g_topL (lN ((10 - cm (ti - m) k) * (rD coin per fr ti fl wn cm fn sb m (lat k) (les (pdb per left (j + 1)))))) (lN_mul _ _) ?_
      refine g_ladd d12_findRun_199 ?_
      refine g_topL (lN ((rc1 coin per fr fl wn (10 ^ m) (cm (ti - m) k) (fn (ti - m) k) (sb (ti - m) k) (rD coin per fr ti fl wn cm fn sb m) (ti - m) k left) (j + 1))) (lN_add _ _) ?_
      refine g_lstore d12_findRun_200 (by decide) ?_
      refine g_aload_n d12_findRun_202 rfl ?_
      refine g_get fl12_107 d12_findRun_203 f_74_48 ?_
      refine g_iload d12_findRun_206 rfl ?_
      refine g_lload d12_findRun_208 rfl ?_
      refine g_lload d12_findRun_210 rfl ?_
      refine g_lx_ge (((rc1 coin per fr fl wn (10 ^ m) (cm (ti - m) k) (fn (ti - m) k) (sb (ti - m) k) (rD coin per fr ti fl wn cm fn sb m) (ti - m) k left) (j + 1) : Nat) : Int) (((fa (rc1 coin per fr fl wn (10 ^ m) (cm (ti - m) k) (fn (ti - m) k) (sb (ti - m) k) (rD coin per fr ti fl wn cm fn sb m) (ti - m) k left) j).1 : Nat) : Int) 221 (pk_lT (by omega)) (pk_lT (by omega)) d12_findRun_212 d12_findRun_213 rfl (fun _ => ?_) (fun c212 => absurd c212 (by omega))
      refine g_aload_n d12_findRun_221 rfl ?_
      refine g_get fl12_107 d12_findRun_222 f_74_48 ?_
      refine g_iload d12_findRun_225 rfl ?_
      refine g_ialdN ((169 * (ti - m) + 13 * k + left)) d12_findRun_227 a_98 (rfl) (by omega) (by decide) ?_
      refine g_topI (nI (fa (rc1 coin per fr fl wn (10 ^ m) (cm (ti - m) k) (fn (ti - m) k) (sb (ti - m) k) (rD coin per fr ti fl wn cm fn sb m) (ti - m) k left) j).2.1) (hb) ?_
      refine g_iastN ((169 * (ti - m) + 13 * k + left)) _ d12_findRun_228 a_98 (rfl) (by omega) (by decide) t_98 ?_
      refine g_lload d12_findRun_229 rfl ?_
      refine g_lload d12_findRun_231 rfl ?_
      refine g_lx_ge (((rc1 coin per fr fl wn (10 ^ m) (cm (ti - m) k) (fn (ti - m) k) (sb (ti - m) k) (rD coin per fr ti fl wn cm fn sb m) (ti - m) k left) (j + 1) : Nat) : Int) (((fa (rc1 coin per fr fl wn (10 ^ m) (cm (ti - m) k) (fn (ti - m) k) (sb (ti - m) k) (rD coin per fr ti fl wn cm fn sb m) (ti - m) k left) j).1 : Nat) : Int) 242 (pk_lT (by omega)) (pk_lT (by omega)) d12_findRun_233 d12_findRun_234 rfl (fun _ => ?_) (fun c233 => absurd c233 (by omega))
      refine g_lload d12_findRun_242 rfl ?_
      refine g_lstore d12_findRun_244 (by decide) ?_
      refine g_iincN d12_findRun_246 rfl (by decide) ?_
      refine g_goto 117 d12_findRun_249 rfl ?_
      refine g_lo [(0, .ref 74), (1, .int (nI (c))), (2, .int (if wn = true then 1 else 0)), (3, .int (nI (ti))), (4, .int (nI (ti - m))), (5, .long (lN (10 ^ m))), (7, .int (nI (k))), (8, .int (nI (cm (ti - m) k))), (9, .int (nI (left))), (10, .long (lN (fa (rc1 coin per fr fl wn (10 ^ m) (cm (ti - m) k) (fn (ti - m) k) (sb (ti - m) k) (rD coin per fr ti fl wn cm fn sb m) (ti - m) k left) (j + 1)).1)), (12, .int (nI (169 * (ti - m) + 13 * k + left))), (13, .int (nI (j + 1 + 1)))] ⟨rfl, rfl, rfl, rfl, rfl, rfl, rfl, rfl, rfl, ?_, rfl, rfl, trivial⟩ ?_
      · show some (Value.long (lN ((fa (rc1 coin per fr fl wn (10 ^ m) (cm (ti - m) k) (fn (ti - m) k) (sb (ti - m) k) (rD coin per fr ti fl wn cm fn sb m) (ti - m) k left) j).1))) = some (Value.long (lN (fa (rc1 coin per fr fl wn (10 ^ m) (cm (ti - m) k) (fn (ti - m) k) (sb (ti - m) k) (rD coin per fr ti fl wn cm fn sb m) (ti - m) k left) (j + 1)).1))
        rw [hfa.1]
      refine ih (j + 1) _ (by omega) (hF.ui (by decide) (by decide)) (fun q hq => ?_) ?_
      · rw [uI_sn hq]; exact hkeep q hq
      · rw [uI_ss, hfa.2]
set_option maxHeartbeats 1600000 in
theorem r12_fr2 {l : Launch} {K : cK} {d : Nat} {I : wI} {L : wL} {R : wR} {dy : cH} {Q : Option Value → cH → Prop} (coin per c fr ti se fl : Nat) (hC : CF I c fr ti se fl) (hco : I 76 6 = nI coin) (hc9 : coin ≤ 9) (hpe : I 76 7 = nI per) (hp4 : per ≤ 4) (wn : Bool) (cm fn : Nat → Nat → Nat) (sb : Nat → Nat → Bool) (hcm : ∀ s k, cm s k ≤ 10) (hfn : ∀ s k, fn s k ≤ 99) (hcs : ∀ s, fr ≤ s → s < ti + 1 → ∀ k, 1 ≤ k → k ≤ 12 → I 90 (13 * s + k) = nI (cm s k) ∧ I 92 (13 * s + k) = nI (fn s k) ∧ I 93 (13 * s + k) = if sb s k = true then 1 else 0) (m k : Nat) (hm : m ≤ 11) (hmt : fr + m ≤ ti) (hk1 : 1 ≤ k) (hk2 : k ≤ 12) (hd : 2 ≤ d) (J : wI) (M : wL) (hnx : ∀ j q, 1 ≤ j → j ≤ 12 → q ≤ 12 → M 97 (169 * (ti - m + 1) + 13 * j + q) = lN (rD coin per fr ti fl wn cm fn sb m j q))
    (kk : ∀ (I3 : wI) (L3 : wL), FR [98] [] [97] [] I L I3 L3 → (∀ q, q < 13 → L3 97 (169 * (ti - m) + 13 * k + q) = lN (rD coin per fr ti fl wn cm fn sb (m + 1) k q) ∧ I3 98 (169 * (ti - m) + 13 * k + q) = nI (rB2 coin per fr ti fl wn cm fn sb m k q)) → (∀ q, (q < 169 * (ti - m) + 13 * k ∨ 169 * (ti - m) + 13 * k + 13 ≤ q) → L3 97 q = M 97 q ∧ I3 98 q = J 98 q) → GL l K m12_findRun d 0 0 267 [(0, .ref 74), (1, .int (nI (c))), (2, .int (if wn = true then 1 else 0)), (3, .int (nI (ti))), (4, .int (nI (ti - m))), (5, .long (lN (10 ^ m))), (7, .int (nI (k)))] [] (hp I3 L3 R dy) Q) :
    ∀ (n left : Nat) (I2 : wI) (L2 : wL), left + n = 13 → FR [98] [] [97] [] I L I2 L2 → (∀ q, q < left → L2 97 (169 * (ti - m) + 13 * k + q) = lN (rD coin per fr ti fl wn cm fn sb (m + 1) k q) ∧ I2 98 (169 * (ti - m) + 13 * k + q) = nI (rB2 coin per fr ti fl wn cm fn sb m k q)) → (∀ q, (q < 169 * (ti - m) + 13 * k ∨ 169 * (ti - m) + 13 * k + 13 ≤ q) → L2 97 q = M 97 q ∧ I2 98 q = J 98 q) →
    GL l K m12_findRun d 0 0 91 [(0, .ref 74), (1, .int (nI (c))), (2, .int (if wn = true then 1 else 0)), (3, .int (nI (ti))), (4, .int (nI (ti - m))), (5, .long (lN (10 ^ m))), (7, .int (nI (k))), (8, .int (nI (cm (ti - m) k))), (9, .int (nI (left)))] [] (hp I2 L2 R dy) Q := by
  obtain ⟨hc6, q0, q1, -, q3, hft, ht11, -, hfl⟩ := id hC
  obtain ⟨c1, c2, c3⟩ := hcs (ti - m) (by omega) (by omega) k hk1 hk2
  have hc10 := hcm (ti - m) k
  have hlat : lat k ≤ 12 ∧ 1 ≤ lat k := by unfold lat; split <;> omega
  have hpw := pw12 (m := m) (by omega)
  intro n
  induction n with
  | zero =>
    intro left I2 L2 hn hF hrow hoth
    obtain rfl : left = 13 := by omega
    refine g_iload d12_findRun_91 rfl ?_
    refine g_bipushv (nI 12) d12_findRun_93 rfl ?_
    refine g_ic_gt ((13 : Nat) : Int) (12) 267 (nI_ti (by omega)) (by decide) d12_findRun_95 rfl (fun _ => ?_) (fun c95 => absurd c95 (by decide))
    refine g_lo [(0, .ref 74), (1, .int (nI (c))), (2, .int (if wn = true then 1 else 0)), (3, .int (nI (ti))), (4, .int (nI (ti - m))), (5, .long (lN (10 ^ m))), (7, .int (nI (k)))] ⟨rfl, rfl, rfl, rfl, rfl, rfl, rfl, trivial⟩ ?_
    exact kk I2 L2 hF hrow hoth
  | succ n ih =>
    intro left I2 L2 hn hF hrow hoth
    have hl : left ≤ 12 := by omega
    have hnx2 : ∀ j q, 1 ≤ j → j ≤ 12 → q ≤ 12 → L2 97 (169 * (ti - m + 1) + 13 * j + q) = lN (rD coin per fr ti fl wn cm fn sb m j q) := fun j q h1 h2 h3 => ((hoth _ (by omega)).1).trans (hnx j q h1 h2 h3)
    have hb0 : (rc1 coin per fr fl wn (10 ^ m) (cm (ti - m) k) (fn (ti - m) k) (sb (ti - m) k) (rD coin per fr ti fl wn cm fn sb m) (ti - m) k left) 0 < 4000000000000000000 := rc1_lt hcm hfn hc9 hfl (by omega) (by omega) k left
    have hprc : prc coin fr fl (ti - m) 0 ≤ 117 := prc_le hc9 hfl (by omega)
    have hpd : pdb per left 0 ≤ 12 := by unfold pdb; omega
    have hles : les (pdb per left 0) ≤ 12 := by unfold les; omega
    refine g_iload d12_findRun_91 rfl ?_
    refine g_bipushv (nI 12) d12_findRun_93 rfl ?_
    refine g_ic_gt ((left : Nat) : Int) (12) 267 (nI_ti (by omega)) (by decide) d12_findRun_95 rfl (fun c95 => absurd c95 (by omega)) (fun _ => ?_)
    refine g_ldc2 d12_findRun_98 kl12_440 ?_
    refine g_lstore d12_findRun_101 (by decide) ?_
    refine g_iload d12_findRun_103 rfl ?_
    refine g_iload d12_findRun_105 rfl ?_
    refine g_iload d12_findRun_107 rfl ?_
    refine g_ES3 sm12_runAt ml12_461 (r12_runAt ((ti - m)) (k) (left) (Nat.le_refl 0)) (by omega) (Nat.le_of_ble_eq_true rfl) d12_findRun_109 ?_
    refine g_istore d12_findRun_112 (by decide) ?_
    refine g_iconstv (nI 0) d12_findRun_114 rfl ?_
    refine g_istore d12_findRun_115 (by decide) ?_
    refine g_iload d12_findRun_117 rfl ?_
    refine g_bipushv (nI 12) d12_findRun_119 rfl ?_
    refine g_ic_gt (0) (12) 252 (by decide) (by decide) d12_findRun_121 rfl (fun c121 => absurd c121 (by decide)) (fun _ => ?_)
    refine g_aload_n d12_findRun_124 rfl ?_
    refine g_iload d12_findRun_125 rfl ?_
    refine g_iload d12_findRun_127 rfl ?_
    refine g_EV2 vm12_paidBy ml12_424 c_74 (r12_paidBy per left (0) (by exact ((congrFun (hF.1 76 (by decide) (by decide)) 7)).trans hpe) hp4 hl (by omega) (Nat.le_refl 1)) (by omega) (Nat.le_of_ble_eq_true rfl) d12_findRun_129 ?_
    refine g_istore d12_findRun_132 (by decide) ?_
    refine g_ldc2 d12_findRun_134 kl12_223 ?_
    refine g_lload d12_findRun_137 rfl ?_
    refine g_lmul d12_findRun_139 ?_
    refine g_topL (lN (10 * 10 ^ m)) (lN_mul _ _) ?_
    refine g_aload_n d12_findRun_140 rfl ?_
    refine g_iload_n d12_findRun_141 rfl ?_
    refine g_iload d12_findRun_142 rfl ?_
    refine g_iload d12_findRun_144 rfl ?_
    refine g_EV3 vm12_price ml12_454 c_74 (r12_price coin c fr ti se fl (ti - m) (0) (hC.of (hF.1 76 (by decide) (by decide))) (by exact ((congrFun (hF.1 76 (by decide) (by decide)) 6)).trans hco) hc9 (by omega) (by omega) (Nat.le_refl 1)) (by omega) (Nat.le_of_ble_eq_true rfl) d12_findRun_146 ?_
    refine g_i2lN (by omega) d12_findRun_149 ?_
    refine g_lmul d12_findRun_150 ?_
    refine g_topL (lN (10 * 10 ^ m * (prc coin fr fl (ti - m) (0)))) (lN_mul _ _) ?_
    refine g_iload d12_findRun_151 rfl ?_
    refine g_i2lN (by omega) d12_findRun_153 ?_
    refine g_aload_n d12_findRun_154 rfl ?_
    refine g_iload_n d12_findRun_155 rfl ?_
    refine g_iload d12_findRun_156 rfl ?_
    refine g_iload d12_findRun_158 rfl ?_
    refine g_iload d12_findRun_160 rfl ?_
    refine g_lload d12_findRun_162 rfl ?_
    refine g_iload_n d12_findRun_164 rfl ?_
    refine g_EV6 vm12_ifHeComes ml12_468 c_74 (r12_ifHeComes coin per c fr ti se fl (hC.of (hF.1 76 (by decide) (by decide))) (by exact ((congrFun (hF.1 76 (by decide) (by decide)) 6)).trans hco) hc9 (by exact ((congrFun (hF.1 76 (by decide) (by decide)) 7)).trans hpe) hp4 (ti - m) k (pdb per left (0)) (10 ^ m) (fn (ti - m) k) (by omega) hk1 hk2 hpd (sb (ti - m) k) wn (by exact (congrFun (hF.1 93 (by decide) (by decide)) _).trans c3) (by exact (congrFun (hF.1 92 (by decide) (by decide)) _).trans c2) (hfn _ _) (rD coin per fr ti fl wn cm fn sb m 1) (fun q hq => hnx2 1 q (by decide) (by decide) hq) hpw (fun q => Nat.le_trans (rD_lt hcm hfn (by omega) 1 q) (by decide)) (Nat.le_refl 1)) (by omega) (Nat.le_of_ble_eq_true rfl) d12_findRun_165 ?_
    refine g_lmul d12_findRun_168 ?_
    refine g_topL (lN (cm (ti - m) k * (ifc coin per fl wn (10 ^ m) (fn (ti - m) k) (sb (ti - m) k) (rD coin per fr ti fl wn cm fn sb m 1) (pdb per left (0))))) (lN_mul _ _) ?_
    refine g_ladd d12_findRun_169 ?_
    refine g_topL (lN (10 * 10 ^ m * (prc coin fr fl (ti - m) (0)) + cm (ti - m) k * (ifc coin per fl wn (10 ^ m) (fn (ti - m) k) (sb (ti - m) k) (rD coin per fr ti fl wn cm fn sb m 1) (pdb per left (0))))) (lN_add _ _) ?_
    refine g_bipushv (nI 10) d12_findRun_170 rfl ?_
    refine g_iload d12_findRun_172 rfl ?_
    refine g_isubN (hc10) d12_findRun_174 ?_
    refine g_i2lN (by omega) d12_findRun_175 ?_
    refine g_aload_n d12_findRun_176 rfl ?_
    refine g_get fl12_104 d12_findRun_177 f_74_47 ?_
    refine g_iload d12_findRun_180 rfl ?_
    refine g_iconstv (nI 1) d12_findRun_182 rfl ?_
    refine g_iaddN d12_findRun_183 ?_
    refine g_iload d12_findRun_184 rfl ?_
    refine g_ES1 sm12_later ml12_418 (r12_later (k) (by omega) (Nat.le_refl 0)) (by omega) (Nat.le_of_ble_eq_true rfl) d12_findRun_186 ?_
    refine g_iload d12_findRun_189 rfl ?_
    refine g_ES1 sm12_less ml12_427 (r12_less ((pdb per left (0))) (by omega) (Nat.le_refl 0)) (by omega) (Nat.le_of_ble_eq_true rfl) d12_findRun_191 ?_
    refine g_ES3 sm12_runAt ml12_461 (r12_runAt (((ti - m) + 1)) ((lat (k))) ((les ((pdb per left (0))))) (Nat.le_refl 0)) (by omega) (Nat.le_of_ble_eq_true rfl) d12_findRun_194 ?_
    refine g_laldN ((169 * ((ti - m) + 1) + 13 * (lat (k)) + (les ((pdb per left (0)))))) d12_findRun_197 a_97 (rfl) (by omega) (by decide) ?_
    refine g_topL (lN (rD coin per fr ti fl wn cm fn sb m (lat k) (les (pdb per left (0))))) (hnx2 _ _ hlat.2 hlat.1 (by omega)) ?_
    refine g_lmul d12_findRun_198 ?_
    refine g_topL (lN ((10 - cm (ti - m) k) * (rD coin per fr ti fl wn cm fn sb m (lat k) (les (pdb per left (0)))))) (lN_mul _ _) ?_
    refine g_ladd d12_findRun_199 ?_
    refine g_topL (lN ((rc1 coin per fr fl wn (10 ^ m) (cm (ti - m) k) (fn (ti - m) k) (sb (ti - m) k) (rD coin per fr ti fl wn cm fn sb m) (ti - m) k left) (0))) (lN_add _ _) ?_
    refine g_lstore d12_findRun_200 (by decide) ?_
    refine g_aload_n d12_findRun_202 rfl ?_
    refine g_get fl12_107 d12_findRun_203 f_74_48 ?_
    refine g_iload d12_findRun_206 rfl ?_
    refine g_lload d12_findRun_208 rfl ?_
    refine g_lload d12_findRun_210 rfl ?_
    refine g_lx_ge (((rc1 coin per fr fl wn (10 ^ m) (cm (ti - m) k) (fn (ti - m) k) (sb (ti - m) k) (rD coin per fr ti fl wn cm fn sb m) (ti - m) k left) (0) : Nat) : Int) (4000000000000000000) 221 (pk_lT (by omega)) (by decide) d12_findRun_212 d12_findRun_213 rfl (fun c212 => absurd c212 (by omega)) (fun _ => ?_)
    refine g_iload d12_findRun_216 rfl ?_
    refine g_goto 228 d12_findRun_218 rfl ?_
    refine g_iastN ((169 * (ti - m) + 13 * k + left)) _ d12_findRun_228 a_98 (rfl) (by omega) (by decide) t_98 ?_
    refine g_lload d12_findRun_229 rfl ?_
    refine g_lload d12_findRun_231 rfl ?_
    refine g_lx_ge (((rc1 coin per fr fl wn (10 ^ m) (cm (ti - m) k) (fn (ti - m) k) (sb (ti - m) k) (rD coin per fr ti fl wn cm fn sb m) (ti - m) k left) (0) : Nat) : Int) (4000000000000000000) 242 (pk_lT (by omega)) (by decide) d12_findRun_233 d12_findRun_234 rfl (fun c233 => absurd c233 (by omega)) (fun _ => ?_)
    refine g_lload d12_findRun_237 rfl ?_
    refine g_goto 244 d12_findRun_239 rfl ?_
    refine g_lstore d12_findRun_244 (by decide) ?_
    refine g_iinc (nI 1) d12_findRun_246 rfl (by decide) (by decide) ?_
    refine g_goto 117 d12_findRun_249 rfl ?_
    refine g_lo [(0, .ref 74), (1, .int (nI (c))), (2, .int (if wn = true then 1 else 0)), (3, .int (nI (ti))), (4, .int (nI (ti - m))), (5, .long (lN (10 ^ m))), (7, .int (nI (k))), (8, .int (nI (cm (ti - m) k))), (9, .int (nI (left))), (10, .long (lN (fa (rc1 coin per fr fl wn (10 ^ m) (cm (ti - m) k) (fn (ti - m) k) (sb (ti - m) k) (rD coin per fr ti fl wn cm fn sb m) (ti - m) k left) 0).1)), (12, .int (nI (169 * (ti - m) + 13 * k + left))), (13, .int (nI (0 + 1)))] ⟨rfl, rfl, rfl, rfl, rfl, rfl, rfl, rfl, rfl, rfl, rfl, rfl, trivial⟩ ?_
    refine r12_fr1 (L0 := L2) coin per c fr ti se fl hC hco hc9 hpe hp4 wn cm fn sb hcm hfn hcs m k left hm hmt hk1 hk2 hl hd I2 hnx2 (fun I3 hF3 hk3 hb3 => ?_) 12 0 _ (by omega) (hF.ui (by decide) (by decide)) (fun q hq => uI_sn hq) (by rw [uI_ss]; rfl)
    refine g_aload_n d12_findRun_252 rfl ?_
    refine g_get fl12_104 d12_findRun_253 f_74_47 ?_
    refine g_iload d12_findRun_256 rfl ?_
    refine g_lload d12_findRun_258 rfl ?_
    refine g_lastN ((169 * (ti - m) + 13 * k + left)) _ d12_findRun_260 a_97 (rfl) (by omega) (by decide) t_97 ?_
    refine g_iincN d12_findRun_261 rfl (by decide) ?_
    refine g_goto 91 d12_findRun_264 rfl ?_
    refine g_lo [(0, .ref 74), (1, .int (nI (c))), (2, .int (if wn = true then 1 else 0)), (3, .int (nI (ti))), (4, .int (nI (ti - m))), (5, .long (lN (10 ^ m))), (7, .int (nI (k))), (8, .int (nI (cm (ti - m) k))), (9, .int (nI (left + 1)))] ⟨rfl, rfl, rfl, rfl, rfl, rfl, rfl, rfl, rfl, trivial⟩ ?_
    refine ih (left + 1) I3 _ (by omega) (hF3.ul (by decide) (by decide)) (fun q hq => ?_) (fun q hq => ?_)
    · by_cases e : q = left
      · subst e; exact ⟨by rw [uL_ss]; rfl, hb3⟩
      · rw [uL_sn (by omega), hk3 _ (by omega)]; exact hrow q (by omega)
    · rw [uL_sn (by omega), hk3 _ (by omega)]; exact hoth q hq
