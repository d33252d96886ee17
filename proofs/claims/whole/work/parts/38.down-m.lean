theorem fa_lt (v : Nat → Nat) {B : Nat} : ∀ n, (∀ j, j ≤ n → v j < B) → (fa v n).1 < B := fun n h => Nat.lt_of_le_of_lt (fa_le v n).1 (h 0 (Nat.zero_le _))
theorem dec_ti {s : Nat} (h : s < 2147483648) : (nI s + Int32.ofInt (-1)).toInt = (s : Int) - 1 := by
  cases s with
  | zero => rfl
  | succ k => rw [nI_dec (Nat.succ_pos k)]; show (nI k).toInt = _; rw [nI_ti (by omega)]; omega
theorem of_ti {x : Int32} {s : Nat} (h : x.toInt = (s : Int)) (hs : s < 2147483648) : x = nI s := by rw [i_eq, nI_ti hs]; exact h
/-- going down, unseen: from the last slot back -/
def dc1 (coin per fr fl : Nat) (mf nx : Nat → Nat) (s left n : Nat) : Nat := 1000000000000 * prc coin fr fl s n + (if 0 < pdb per left n then 0 else mf s) + nx (les (pdb per left n))
def dD (coin per fr ti fl : Nat) (mf : Nat → Nat) : Nat → Nat → Nat
  | 0, _ => 0
  | m + 1, left => (fa (dc1 coin per fr fl mf (dD coin per fr ti fl mf m) (ti - m) left) 12).1
def dB (coin per fr ti fl : Nat) (mf : Nat → Nat) (m left : Nat) : Nat := (fa (dc1 coin per fr fl mf (dD coin per fr ti fl mf m) (ti - m) left) 12).2.1
theorem prc_le {coin fr fl s n : Nat} (h1 : coin ≤ 9) (h2 : fl ≤ 9) (h3 : n ≤ 12) : prc coin fr fl s n ≤ 117 := by
  unfold prc
  have : n * coin ≤ 108 := Nat.le_trans (Nat.mul_le_mul h3 h1) (by decide)
  split <;> omega
theorem dD_le (coin per fr ti fl : Nat) (mf : Nat → Nat) (hm : ∀ s, mf s ≤ 99000000000000) : ∀ m left, dD coin per fr ti fl mf m left ≤ m * 99000000000000
  | 0, _ => Nat.zero_le _
  | m + 1, left => by
    have h1 := (fa_le (dc1 coin per fr fl mf (dD coin per fr ti fl mf m) (ti - m) left) 12).1
    have h2 : dc1 coin per fr fl mf (dD coin per fr ti fl mf m) (ti - m) left 0 ≤ 99000000000000 + m * 99000000000000 := by
      unfold dc1
      have h3 := dD_le coin per fr ti fl mf hm m (les (pdb per left 0))
      have h4 : prc coin fr fl (ti - m) 0 = 0 := by unfold prc; rw [if_neg (by omega)]; omega
      have h5 := hm (ti - m)
      rw [h4]
      split <;> omega
    show (fa _ 12).1 ≤ _
    rw [Nat.succ_mul]
    omega
theorem dc1_lt {coin per fr ti fl : Nat} {mf : Nat → Nat} (hm : ∀ s, mf s ≤ 99000000000000) (h1 : coin ≤ 9) (h2 : fl ≤ 9) {m s left n : Nat} (hm12 : m ≤ 12) (hn : n ≤ 12) : dc1 coin per fr fl mf (dD coin per fr ti fl mf m) s left n < 4000000000000000000 := by
  unfold dc1
  have a1 := prc_le (fr := fr) (s := s) h1 h2 hn
  have a2 := dD_le coin per fr ti fl mf hm m (les (pdb per left n))
  have a3 := hm s
  have a4 : m * 99000000000000 ≤ 12 * 99000000000000 := Nat.mul_le_mul_right _ hm12
  split <;> omega
set_option maxHeartbeats 800000 in
theorem r12_fd1 {l : Launch} {K : cK} {d : Nat} {I : wI} {L L0 : wL} {R : wR} {dy : cH} {Q : Option Value → cH → Prop} (coin per c fr ti se fl : Nat) (hC : CF I c fr ti se fl) (hco : I 76 6 = nI coin) (hc9 : coin ≤ 9) (hpe : I 76 7 = nI per) (hp4 : per ≤ 4) (mf : Nat → Nat) (hmf : ∀ s, fr ≤ s → s < ti + 1 → L 94 s = lN (mf s)) (hml : ∀ s, mf s ≤ 99000000000000) (m left : Nat) (hm : m ≤ 11) (hmt : fr + m ≤ ti) (hl : left ≤ 12) (hd : 2 ≤ d) (J : wI) (hJ : FR [96] [] [95] [] I L J L0) (hnx : ∀ q, q ≤ 12 → L0 95 (13 * (ti - m + 1) + q) = lN (dD coin per fr ti fl mf m q))
    (kk : ∀ (I3 : wI), FR [96] [] [95] [] I L I3 L0 → (∀ q, q ≠ 13 * (ti - m) + left → I3 96 q = J 96 q) → I3 96 (13 * (ti - m) + left) = nI (fa (dc1 coin per fr fl mf (dD coin per fr ti fl mf m) (ti - m) left) 12).2.1 → GL l K m12_findDown d 0 0 191 [(0, .ref 74), (1, .int (nI c)), (2, .int (nI ti)), (3, .int (nI (ti - m))), (4, .int (nI left)), (5, .long (lN (fa (dc1 coin per fr fl mf (dD coin per fr ti fl mf m) (ti - m) left) 12).1))] [] (hp I3 L0 R dy) Q) :
    ∀ (n k : Nat) (I2 : wI), k + n = 12 → FR [96] [] [95] [] I L I2 L0 → (∀ q, q ≠ 13 * (ti - m) + left → I2 96 q = J 96 q) → I2 96 (13 * (ti - m) + left) = nI (fa (dc1 coin per fr fl mf (dD coin per fr ti fl mf m) (ti - m) left) k).2.1 →
    GL l K m12_findDown d 0 0 65 [(0, .ref 74), (1, .int (nI c)), (2, .int (nI ti)), (3, .int (nI (ti - m))), (4, .int (nI left)), (5, .long (lN (fa (dc1 coin per fr fl mf (dD coin per fr ti fl mf m) (ti - m) left) k).1)), (7, .int (nI (k + 1)))] [] (hp I2 L0 R dy) Q := by
  obtain ⟨hc6, q0, q1, -, q3, hft, ht11, -, hfl⟩ := id hC
  intro n
  induction n with
  | zero =>
    intro k I2 hk hF hkeep hb
    obtain rfl : k = 12 := by omega
    refine g_iload d12_findDown_65 rfl ?_
    refine g_bipushv (nI 12) d12_findDown_67 rfl ?_
    refine g_ic_gt (((12 + 1) : Nat) : Int) (12) 191 (nI_ti (by omega)) (by decide) d12_findDown_69 rfl (fun _ => ?_) (fun c69 => absurd c69 (by decide))
    refine g_lo [(0, .ref 74), (1, .int (nI (c))), (2, .int (nI (ti))), (3, .int (nI (ti - m))), (4, .int (nI (left))), (5, .long (lN (fa (dc1 coin per fr fl mf (dD coin per fr ti fl mf m) (ti - m) left) 12).1))] ⟨rfl, rfl, rfl, rfl, rfl, rfl, trivial⟩ ?_
    exact kk I2 hF hkeep hb
  | succ n ih =>
    intro k I2 hk hF hkeep hb
    have hb0 : (dc1 coin per fr fl mf (dD coin per fr ti fl mf m) (ti - m) left) (k + 1) < 4000000000000000000 := dc1_lt hml hc9 hfl (by omega) (by omega)
    have hb1 : (fa (dc1 coin per fr fl mf (dD coin per fr ti fl mf m) (ti - m) left) k).1 < 4000000000000000000 := fa_lt _ k (fun j hj => dc1_lt hml hc9 hfl (by omega) (by omega))
    have hprc : prc coin fr fl (ti - m) (k + 1) ≤ 117 := prc_le hc9 hfl (by omega)
    have hpd : pdb per left (k + 1) ≤ 12 := by unfold pdb; omega
    have hles : les (pdb per left (k + 1)) ≤ 12 := by unfold les; omega
    by_cases hv : (dc1 coin per fr fl mf (dD coin per fr ti fl mf m) (ti - m) left) (k + 1) < (fa (dc1 coin per fr fl mf (dD coin per fr ti fl mf m) (ti - m) left) k).1
    · have hfa : ((fa (dc1 coin per fr fl mf (dD coin per fr ti fl mf m) (ti - m) left) (k + 1)).1 = (dc1 coin per fr fl mf (dD coin per fr ti fl mf m) (ti - m) left) (k + 1)) ∧ (fa (dc1 coin per fr fl mf (dD coin per fr ti fl mf m) (ti - m) left) (k + 1)).2.1 = k + 1 := by show (if _ then _ else _ : Nat × Nat × Nat).1 = _ ∧ (if _ then _ else _ : Nat × Nat × Nat).2.1 = _; rw [if_pos hv]; exact ⟨rfl, rfl⟩
      by_cases hp0 : 0 < pdb per left (k + 1)
      · skip
        refine g_iload d12_findDown_65 rfl ?_
        refine g_bipushv (nI 12) d12_findDown_67 rfl ?_
        refine g_ic_gt (((k + 1) : Nat) : Int) (12) 191 (nI_ti (by omega)) (by decide) d12_findDown_69 rfl (fun c69 => absurd c69 (by omega)) (fun _ => ?_)
        refine g_aload_n d12_findDown_72 rfl ?_
        refine g_iload d12_findDown_73 rfl ?_
        refine g_iload d12_findDown_75 rfl ?_
        refine g_EV2 vm12_paidBy ml12_424 c_74 (r12_paidBy per left (k + 1) (by exact (congrFun (hF.1 76 (by decide) (by decide)) 7).trans hpe) hp4 hl (by omega) (Nat.le_refl 1)) (by omega) (Nat.le_of_ble_eq_true rfl) d12_findDown_77 ?_
        refine g_istore d12_findDown_80 (by decide) ?_
        refine g_ldc2 d12_findDown_82 kl12_416 ?_
        refine g_aload_n d12_findDown_85 rfl ?_
        refine g_iload_n d12_findDown_86 rfl ?_
        refine g_iload_n d12_findDown_87 rfl ?_
        refine g_iload d12_findDown_88 rfl ?_
        refine g_EV3 vm12_price ml12_454 c_74 (r12_price coin c fr ti se fl (ti - m) (k + 1) (hC.of (hF.1 76 (by decide) (by decide))) (by exact (congrFun (hF.1 76 (by decide) (by decide)) 6).trans hco) hc9 (by omega) (by omega) (Nat.le_refl 1)) (by omega) (Nat.le_of_ble_eq_true rfl) d12_findDown_90 ?_
        refine g_i2lN (by omega) d12_findDown_93 ?_
        refine g_lmul d12_findDown_94 ?_
        refine g_topL (lN (1000000000000 * (prc coin fr fl (ti - m) (k + 1)))) (lN_mul _ _) ?_
        refine g_iload d12_findDown_95 rfl ?_
        refine g_iz_le (((pdb per left (k + 1)) : Nat) : Int) 104 (nI_ti (by omega)) d12_findDown_97 rfl (fun c97 => absurd c97 (by omega)) (fun _ => ?_)
        refine g_lconstv (0) d12_findDown_100 rfl ?_
        refine g_goto 110 d12_findDown_101 rfl ?_
        refine g_ladd d12_findDown_110 ?_
        refine g_topL (lN (1000000000000 * (prc coin fr fl (ti - m) (k + 1)) + 0)) (lN_add _ _) ?_
        refine g_aload_n d12_findDown_111 rfl ?_
        refine g_get fl12_98 d12_findDown_112 f_74_45 ?_
        refine g_bipushv (nI 13) d12_findDown_115 rfl ?_
        refine g_iload_n d12_findDown_117 rfl ?_
        refine g_iconstv (nI 1) d12_findDown_118 rfl ?_
        refine g_iaddN d12_findDown_119 ?_
        refine g_imulN d12_findDown_120 ?_
        refine g_iload d12_findDown_121 rfl ?_
        refine g_ES1 sm12_less ml12_427 (r12_less ((pdb per left (k + 1))) (by omega) (Nat.le_refl 0)) (by omega) (Nat.le_of_ble_eq_true rfl) d12_findDown_123 ?_
        refine g_iaddN d12_findDown_126 ?_
        refine g_laldN (((13 * ((ti - m) + 1)) + (les ((pdb per left (k + 1)))))) d12_findDown_127 a_95 (rfl) (by omega) (by decide) ?_
        refine g_topL (lN (dD coin per fr ti fl mf m (les (pdb per left (k + 1))))) (hnx _ (by omega)) ?_
        refine g_ladd d12_findDown_128 ?_
        refine g_topL (lN ((dc1 coin per fr fl mf (dD coin per fr ti fl mf m) (ti - m) left) (k + 1))) (by rw [lN_add]; congr 1; show _ = 1000000000000 * (prc coin fr fl (ti - m) (k + 1)) + (if 0 < (pdb per left (k + 1)) then 0 else mf (ti - m)) + dD coin per fr ti fl mf m (les (pdb per left (k + 1))); rw [if_pos (by omega)]) ?_
        refine g_lstore d12_findDown_129 (by decide) ?_
        refine g_aload_n d12_findDown_131 rfl ?_
        refine g_get fl12_101 d12_findDown_132 f_74_46 ?_
        refine g_bipushv (nI 13) d12_findDown_135 rfl ?_
        refine g_iload_n d12_findDown_137 rfl ?_
        refine g_imulN d12_findDown_138 ?_
        refine g_iload d12_findDown_139 rfl ?_
        refine g_iaddN d12_findDown_141 ?_
        refine g_lload d12_findDown_142 rfl ?_
        refine g_lload d12_findDown_144 rfl ?_
        refine g_lx_ge (((dc1 coin per fr fl mf (dD coin per fr ti fl mf m) (ti - m) left) (k + 1) : Nat) : Int) (((fa (dc1 coin per fr fl mf (dD coin per fr ti fl mf m) (ti - m) left) k).1 : Nat) : Int) 155 (pk_lT (by omega)) (pk_lT (by omega)) d12_findDown_146 d12_findDown_147 rfl (fun c146 => absurd c146 (by omega)) (fun _ => ?_)
        refine g_iload d12_findDown_150 rfl ?_
        refine g_goto 167 d12_findDown_152 rfl ?_
        refine g_iastN (((13 * (ti - m)) + left)) _ d12_findDown_167 a_96 (rfl) (by omega) (by decide) t_96 ?_
        refine g_lload d12_findDown_168 rfl ?_
        refine g_lload d12_findDown_170 rfl ?_
        refine g_lx_ge (((dc1 coin per fr fl mf (dD coin per fr ti fl mf m) (ti - m) left) (k + 1) : Nat) : Int) (((fa (dc1 coin per fr fl mf (dD coin per fr ti fl mf m) (ti - m) left) k).1 : Nat) : Int) 181 (pk_lT (by omega)) (pk_lT (by omega)) d12_findDown_172 d12_findDown_173 rfl (fun c172 => absurd c172 (by omega)) (fun _ => ?_)
        refine g_lload d12_findDown_176 rfl ?_
        refine g_goto 183 d12_findDown_178 rfl ?_
        refine g_lstore d12_findDown_183 (by decide) ?_
        refine g_iincN d12_findDown_185 rfl (by decide) ?_
        refine g_goto 65 d12_findDown_188 rfl ?_
        refine g_lo [(0, .ref 74), (1, .int (nI (c))), (2, .int (nI (ti))), (3, .int (nI (ti - m))), (4, .int (nI (left))), (5, .long (lN (fa (dc1 coin per fr fl mf (dD coin per fr ti fl mf m) (ti - m) left) (k + 1)).1)), (7, .int (nI (k + 1 + 1)))] ⟨rfl, rfl, rfl, rfl, rfl, ?_, rfl, trivial⟩ ?_
        · show some (Value.long (lN ((dc1 coin per fr fl mf (dD coin per fr ti fl mf m) (ti - m) left) (k + 1)))) = some (Value.long (lN (fa (dc1 coin per fr fl mf (dD coin per fr ti fl mf m) (ti - m) left) (k + 1)).1))
          rw [hfa.1]
        refine ih (k + 1) _ (by omega) (hF.ui (by decide) (by decide)) (fun q hq => ?_) ?_
        · rw [uI_sn hq]; exact hkeep q hq
        · rw [uI_ss, hfa.2]
      · skip
        refine g_iload d12_findDown_65 rfl ?_
        refine g_bipushv (nI 12) d12_findDown_67 rfl ?_
        refine g_ic_gt (((k + 1) : Nat) : Int) (12) 191 (nI_ti (by omega)) (by decide) d12_findDown_69 rfl (fun c69 => absurd c69 (by omega)) (fun _ => ?_)
        refine g_aload_n d12_findDown_72 rfl ?_
        refine g_iload d12_findDown_73 rfl ?_
        refine g_iload d12_findDown_75 rfl ?_
        refine g_EV2 vm12_paidBy ml12_424 c_74 (r12_paidBy per left (k + 1) (by exact (congrFun (hF.1 76 (by decide) (by decide)) 7).trans hpe) hp4 hl (by omega) (Nat.le_refl 1)) (by omega) (Nat.le_of_ble_eq_true rfl) d12_findDown_77 ?_
        refine g_istore d12_findDown_80 (by decide) ?_
        refine g_ldc2 d12_findDown_82 kl12_416 ?_
        refine g_aload_n d12_findDown_85 rfl ?_
        refine g_iload_n d12_findDown_86 rfl ?_
        refine g_iload_n d12_findDown_87 rfl ?_
        refine g_iload d12_findDown_88 rfl ?_
        refine g_EV3 vm12_price ml12_454 c_74 (r12_price coin c fr ti se fl (ti - m) (k + 1) (hC.of (hF.1 76 (by decide) (by decide))) (by exact (congrFun (hF.1 76 (by decide) (by decide)) 6).trans hco) hc9 (by omega) (by omega) (Nat.le_refl 1)) (by omega) (Nat.le_of_ble_eq_true rfl) d12_findDown_90 ?_
        refine g_i2lN (by omega) d12_findDown_93 ?_
        refine g_lmul d12_findDown_94 ?_
        refine g_topL (lN (1000000000000 * (prc coin fr fl (ti - m) (k + 1)))) (lN_mul _ _) ?_
        refine g_iload d12_findDown_95 rfl ?_
        refine g_iz_le (((pdb per left (k + 1)) : Nat) : Int) 104 (nI_ti (by omega)) d12_findDown_97 rfl (fun _ => ?_) (fun c97 => absurd c97 (by omega))
        refine g_aload_n d12_findDown_104 rfl ?_
        refine g_get fl12_95 d12_findDown_105 f_74_41 ?_
        refine g_iload_n d12_findDown_108 rfl ?_
        refine g_laldN ((ti - m)) d12_findDown_109 a_94 (rfl) (by omega) (by decide) ?_
        refine g_topL (lN (mf (ti - m))) ((congrFun (hF.2.2.1 94 (by decide) (by decide)) _).trans (hmf _ (by omega) (by omega))) ?_
        refine g_ladd d12_findDown_110 ?_
        refine g_topL (lN (1000000000000 * (prc coin fr fl (ti - m) (k + 1)) + mf (ti - m))) (lN_add _ _) ?_
        refine g_aload_n d12_findDown_111 rfl ?_
        refine g_get fl12_98 d12_findDown_112 f_74_45 ?_
        refine g_bipushv (nI 13) d12_findDown_115 rfl ?_
        refine g_iload_n d12_findDown_117 rfl ?_
        refine g_iconstv (nI 1) d12_findDown_118 rfl ?_
        refine g_iaddN d12_findDown_119 ?_
        refine g_imulN d12_findDown_120 ?_
        refine g_iload d12_findDown_121 rfl ?_
        refine g_ES1 sm12_less ml12_427 (r12_less ((pdb per left (k + 1))) (by omega) (Nat.le_refl 0)) (by omega) (Nat.le_of_ble_eq_true rfl) d12_findDown_123 ?_
        refine g_iaddN d12_findDown_126 ?_
        refine g_laldN (((13 * ((ti - m) + 1)) + (les ((pdb per left (k + 1)))))) d12_findDown_127 a_95 (rfl) (by omega) (by decide) ?_
        refine g_topL (lN (dD coin per fr ti fl mf m (les (pdb per left (k + 1))))) (hnx _ (by omega)) ?_
        refine g_ladd d12_findDown_128 ?_
        refine g_topL (lN ((dc1 coin per fr fl mf (dD coin per fr ti fl mf m) (ti - m) left) (k + 1))) (by rw [lN_add]; congr 1; show _ = 1000000000000 * (prc coin fr fl (ti - m) (k + 1)) + (if 0 < (pdb per left (k + 1)) then 0 else mf (ti - m)) + dD coin per fr ti fl mf m (les (pdb per left (k + 1))); rw [if_neg (by omega)]) ?_
        refine g_lstore d12_findDown_129 (by decide) ?_
        refine g_aload_n d12_findDown_131 rfl ?_
        refine g_get fl12_101 d12_findDown_132 f_74_46 ?_
        refine g_bipushv (nI 13) d12_findDown_135 rfl ?_
        refine g_iload_n d12_findDown_137 rfl ?_
        refine g_imulN d12_findDown_138 ?_
        refine g_iload d12_findDown_139 rfl ?_
        refine g_iaddN d12_findDown_141 ?_
        refine g_lload d12_findDown_142 rfl ?_
        refine g_lload d12_findDown_144 rfl ?_
        refine g_lx_ge (((dc1 coin per fr fl mf (dD coin per fr ti fl mf m) (ti - m) left) (k + 1) : Nat) : Int) (((fa (dc1 coin per fr fl mf (dD coin per fr ti fl mf m) (ti - m) left) k).1 : Nat) : Int) 155 (pk_lT (by omega)) (pk_lT (by omega)) d12_findDown_146 d12_findDown_147 rfl (fun c146 => absurd c146 (by omega)) (fun _ => ?_)
        refine g_iload d12_findDown_150 rfl ?_
        refine g_goto 167 d12_findDown_152 rfl ?_
        refine g_iastN (((13 * (ti - m)) + left)) _ d12_findDown_167 a_96 (rfl) (by omega) (by decide) t_96 ?_
        refine g_lload d12_findDown_168 rfl ?_
        refine g_lload d12_findDown_170 rfl ?_
        refine g_lx_ge (((dc1 coin per fr fl mf (dD coin per fr ti fl mf m) (ti - m) left) (k + 1) : Nat) : Int) (((fa (dc1 coin per fr fl mf (dD coin per fr ti fl mf m) (ti - m) left) k).1 : Nat) : Int) 181 (pk_lT (by omega)) (pk_lT (by omega)) d12_findDown_172 d12_findDown_173 rfl (fun c172 => absurd c172 (by omega)) (fun _ => ?_)
        refine g_lload d12_findDown_176 rfl ?_
        refine g_goto 183 d12_findDown_178 rfl ?_
        refine g_lstore d12_findDown_183 (by decide) ?_
        refine g_iincN d12_findDown_185 rfl (by decide) ?_
        refine g_goto 65 d12_findDown_188 rfl ?_
        refine g_lo [(0, .ref 74), (1, .int (nI (c))), (2, .int (nI (ti))), (3, .int (nI (ti - m))), (4, .int (nI (left))), (5, .long (lN (fa (dc1 coin per fr fl mf (dD coin per fr ti fl mf m) (ti - m) left) (k + 1)).1)), (7, .int (nI (k + 1 + 1)))] ⟨rfl, rfl, rfl, rfl, rfl, ?_, rfl, trivial⟩ ?_
        · show some (Value.long (lN ((dc1 coin per fr fl mf (dD coin per fr ti fl mf m) (ti - m) left) (k + 1)))) = some (Value.long (lN (fa (dc1 coin per fr fl mf (dD coin per fr ti fl mf m) (ti - m) left) (k + 1)).1))
          rw [hfa.1]
        refine ih (k + 1) _ (by omega) (hF.ui (by decide) (by decide)) (fun q hq => ?_) ?_
        · rw [uI_sn hq]; exact hkeep q hq
        · rw [uI_ss, hfa.2]
    · have hfa : ((fa (dc1 coin per fr fl mf (dD coin per fr ti fl mf m) (ti - m) left) (k + 1)).1 = (fa (dc1 coin per fr fl mf (dD coin per fr ti fl mf m) (ti - m) left) k).1) ∧ (fa (dc1 coin per fr fl mf (dD coin per fr ti fl mf m) (ti - m) left) (k + 1)).2.1 = (fa (dc1 coin per fr fl mf (dD coin per fr ti fl mf m) (ti - m) left) k).2.1 := by show (if _ then _ else _ : Nat × Nat × Nat).1 = _ ∧ (if _ then _ else _ : Nat × Nat × Nat).2.1 = _; rw [if_neg hv]; split <;> exact ⟨rfl, rfl⟩
      by_cases hp0 : 0 < pdb per left (k + 1)
      · skip
        refine g_iload d12_findDown_65 rfl ?_
        refine g_bipushv (nI 12) d12_findDown_67 rfl ?_
        refine g_ic_gt (((k + 1) : Nat) : Int) (12) 191 (nI_ti (by omega)) (by decide) d12_findDown_69 rfl (fun c69 => absurd c69 (by omega)) (fun _ => ?_)
        refine g_aload_n d12_findDown_72 rfl ?_
        refine g_iload d12_findDown_73 rfl ?_
        refine g_iload d12_findDown_75 rfl ?_
        refine g_EV2 vm12_paidBy ml12_424 c_74 (r12_paidBy per left (k + 1) (by exact (congrFun (hF.1 76 (by decide) (by decide)) 7).trans hpe) hp4 hl (by omega) (Nat.le_refl 1)) (by omega) (Nat.le_of_ble_eq_true rfl) d12_findDown_77 ?_
        refine g_istore d12_findDown_80 (by decide) ?_
        refine g_ldc2 d12_findDown_82 kl12_416 ?_
        refine g_aload_n d12_findDown_85 rfl ?_
        refine g_iload_n d12_findDown_86 rfl ?_
        refine g_iload_n d12_findDown_87 rfl ?_
        refine g_iload d12_findDown_88 rfl ?_
        refine g_EV3 vm12_price ml12_454 c_74 (r12_price coin c fr ti se fl (ti - m) (k + 1) (hC.of (hF.1 76 (by decide) (by decide))) (by exact (congrFun (hF.1 76 (by decide) (by decide)) 6).trans hco) hc9 (by omega) (by omega) (Nat.le_refl 1)) (by omega) (Nat.le_of_ble_eq_true rfl) d12_findDown_90 ?_
        refine g_i2lN (by omega) d12_findDown_93 ?_
        refine g_lmul d12_findDown_94 ?_
        refine g_topL (lN (1000000000000 * (prc coin fr fl (ti - m) (k + 1)))) (lN_mul _ _) ?_
        refine g_iload d12_findDown_95 rfl ?_
        refine g_iz_le (((pdb per left (k + 1)) : Nat) : Int) 104 (nI_ti (by omega)) d12_findDown_97 rfl (fun c97 => absurd c97 (by omega)) (fun _ => ?_)
        refine g_lconstv (0) d12_findDown_100 rfl ?_
        refine g_goto 110 d12_findDown_101 rfl ?_
        refine g_ladd d12_findDown_110 ?_
        refine g_topL (lN (1000000000000 * (prc coin fr fl (ti - m) (k + 1)) + 0)) (lN_add _ _) ?_
        refine g_aload_n d12_findDown_111 rfl ?_
        refine g_get fl12_98 d12_findDown_112 f_74_45 ?_
        refine g_bipushv (nI 13) d12_findDown_115 rfl ?_
        refine g_iload_n d12_findDown_117 rfl ?_
        refine g_iconstv (nI 1) d12_findDown_118 rfl ?_
        refine g_iaddN d12_findDown_119 ?_
        refine g_imulN d12_findDown_120 ?_
        refine g_iload d12_findDown_121 rfl ?_
        refine g_ES1 sm12_less ml12_427 (r12_less ((pdb per left (k + 1))) (by omega) (Nat.le_refl 0)) (by omega) (Nat.le_of_ble_eq_true rfl) d12_findDown_123 ?_
        refine g_iaddN d12_findDown_126 ?_
        refine g_laldN (((13 * ((ti - m) + 1)) + (les ((pdb per left (k + 1)))))) d12_findDown_127 a_95 (rfl) (by omega) (by decide) ?_
        refine g_topL (lN (dD coin per fr ti fl mf m (les (pdb per left (k + 1))))) (hnx _ (by omega)) ?_
        refine g_ladd d12_findDown_128 ?_
        refine g_topL (lN ((dc1 coin per fr fl mf (dD coin per fr ti fl mf m) (ti - m) left) (k + 1))) (by rw [lN_add]; congr 1; show _ = 1000000000000 * (prc coin fr fl (ti - m) (k + 1)) + (if 0 < (pdb per left (k + 1)) then 0 else mf (ti - m)) + dD coin per fr ti fl mf m (les (pdb per left (k + 1))); rw [if_pos (by omega)]) ?_
        refine g_lstore d12_findDown_129 (by decide) ?_
        refine g_aload_n d12_findDown_131 rfl ?_
        refine g_get fl12_101 d12_findDown_132 f_74_46 ?_
        refine g_bipushv (nI 13) d12_findDown_135 rfl ?_
        refine g_iload_n d12_findDown_137 rfl ?_
        refine g_imulN d12_findDown_138 ?_
        refine g_iload d12_findDown_139 rfl ?_
        refine g_iaddN d12_findDown_141 ?_
        refine g_lload d12_findDown_142 rfl ?_
        refine g_lload d12_findDown_144 rfl ?_
        refine g_lx_ge (((dc1 coin per fr fl mf (dD coin per fr ti fl mf m) (ti - m) left) (k + 1) : Nat) : Int) (((fa (dc1 coin per fr fl mf (dD coin per fr ti fl mf m) (ti - m) left) k).1 : Nat) : Int) 155 (pk_lT (by omega)) (pk_lT (by omega)) d12_findDown_146 d12_findDown_147 rfl (fun _ => ?_) (fun c146 => absurd c146 (by omega))
        refine g_aload_n d12_findDown_155 rfl ?_
        refine g_get fl12_101 d12_findDown_156 f_74_46 ?_
        refine g_bipushv (nI 13) d12_findDown_159 rfl ?_
        refine g_iload_n d12_findDown_161 rfl ?_
        refine g_imulN d12_findDown_162 ?_
        refine g_iload d12_findDown_163 rfl ?_
        refine g_iaddN d12_findDown_165 ?_
        refine g_ialdN (((13 * (ti - m)) + left)) d12_findDown_166 a_96 (rfl) (by omega) (by decide) ?_
        refine g_topI (nI (fa (dc1 coin per fr fl mf (dD coin per fr ti fl mf m) (ti - m) left) k).2.1) (hb) ?_
        refine g_iastN (((13 * (ti - m)) + left)) _ d12_findDown_167 a_96 (rfl) (by omega) (by decide) t_96 ?_
        refine g_lload d12_findDown_168 rfl ?_
        refine g_lload d12_findDown_170 rfl ?_
        refine g_lx_ge (((dc1 coin per fr fl mf (dD coin per fr ti fl mf m) (ti - m) left) (k + 1) : Nat) : Int) (((fa (dc1 coin per fr fl mf (dD coin per fr ti fl mf m) (ti - m) left) k).1 : Nat) : Int) 181 (pk_lT (by omega)) (pk_lT (by omega)) d12_findDown_172 d12_findDown_173 rfl (fun _ => ?_) (fun c172 => absurd c172 (by omega))
        refine g_lload d12_findDown_181 rfl ?_
        refine g_lstore d12_findDown_183 (by decide) ?_
        refine g_iincN d12_findDown_185 rfl (by decide) ?_
        refine g_goto 65 d12_findDown_188 rfl ?_
        refine g_lo [(0, .ref 74), (1, .int (nI (c))), (2, .int (nI (ti))), (3, .int (nI (ti - m))), (4, .int (nI (left))), (5, .long (lN (fa (dc1 coin per fr fl mf (dD coin per fr ti fl mf m) (ti - m) left) (k + 1)).1)), (7, .int (nI (k + 1 + 1)))] ⟨rfl, rfl, rfl, rfl, rfl, ?_, rfl, trivial⟩ ?_
        · show some (Value.long (lN ((fa (dc1 coin per fr fl mf (dD coin per fr ti fl mf m) (ti - m) left) k).1))) = some (Value.long (lN (fa (dc1 coin per fr fl mf (dD coin per fr ti fl mf m) (ti - m) left) (k + 1)).1))
          rw [hfa.1]
        refine ih (k + 1) _ (by omega) (hF.ui (by decide) (by decide)) (fun q hq => ?_) ?_
        · rw [uI_sn hq]; exact hkeep q hq
        · rw [uI_ss, hfa.2]
      · skip
        refine g_iload d12_findDown_65 rfl ?_
        refine g_bipushv (nI 12) d12_findDown_67 rfl ?_
        refine g_ic_gt (((k + 1) : Nat) : Int) (12) 191 (nI_ti (by omega)) (by decide) d12_findDown_69 rfl (fun c69 => absurd c69 (by omega)) (fun _ => ?_)
        refine g_aload_n d12_findDown_72 rfl ?_
        refine g_iload d12_findDown_73 rfl ?_
        refine g_iload d12_findDown_75 rfl ?_
        refine g_EV2 vm12_paidBy ml12_424 c_74 (r12_paidBy per left (k + 1) (by exact (congrFun (hF.1 76 (by decide) (by decide)) 7).trans hpe) hp4 hl (by omega) (Nat.le_refl 1)) (by omega) (Nat.le_of_ble_eq_true rfl) d12_findDown_77 ?_
        refine g_istore d12_findDown_80 (by decide) ?_
        refine g_ldc2 d12_findDown_82 kl12_416 ?_
        refine g_aload_n d12_findDown_85 rfl ?_
        refine g_iload_n d12_findDown_86 rfl ?_
        refine g_iload_n d12_findDown_87 rfl ?_
        refine g_iload d12_findDown_88 rfl ?_
        refine g_EV3 vm12_price ml12_454 c_74 (r12_price coin c fr ti se fl (ti - m) (k + 1) (hC.of (hF.1 76 (by decide) (by decide))) (by exact (congrFun (hF.1 76 (by decide) (by decide)) 6).trans hco) hc9 (by omega) (by omega) (Nat.le_refl 1)) (by omega) (Nat.le_of_ble_eq_true rfl) d12_findDown_90 ?_
        refine g_i2lN (by omega) d12_findDown_93 ?_
        refine g_lmul d12_findDown_94 ?_
        refine g_topL (lN (1000000000000 * (prc coin fr fl (ti - m) (k + 1)))) (lN_mul _ _) ?_
        refine g_iload d12_findDown_95 rfl ?_
        refine g_iz_le (((pdb per left (k + 1)) : Nat) : Int) 104 (nI_ti (by omega)) d12_findDown_97 rfl (fun _ => ?_) (fun c97 => absurd c97 (by omega))
        refine g_aload_n d12_findDown_104 rfl ?_
        refine g_get fl12_95 d12_findDown_105 f_74_41 ?_
        refine g_iload_n d12_findDown_108 rfl ?_
        refine g_laldN ((ti - m)) d12_findDown_109 a_94 (rfl) (by omega) (by decide) ?_
        refine g_topL (lN (mf (ti - m))) ((congrFun (hF.2.2.1 94 (by decide) (by decide)) _).trans (hmf _ (by omega) (by omega))) ?_
        refine g_ladd d12_findDown_110 ?_
        refine g_topL (lN (1000000000000 * (prc coin fr fl (ti - m) (k + 1)) + mf (ti - m))) (lN_add _ _) ?_
        refine g_aload_n d12_findDown_111 rfl ?_
        refine g_get fl12_98 d12_findDown_112 f_74_45 ?_
        refine g_bipushv (nI 13) d12_findDown_115 rfl ?_
        refine g_iload_n d12_findDown_117 rfl ?_
        refine g_iconstv (nI 1) d12_findDown_118 rfl ?_
        refine g_iaddN d12_findDown_119 ?_
        refine g_imulN d12_findDown_120 ?_
        refine g_iload d12_findDown_121 rfl ?_
        refine g_ES1 sm12_less ml12_427 (r12_less ((pdb per left (k + 1))) (by omega) (Nat.le_refl 0)) (by omega) (Nat.le_of_ble_eq_true rfl) d12_findDown_123 ?_
        refine g_iaddN d12_findDown_126 ?_
        refine g_laldN (((13 * ((ti - m) + 1)) + (les ((pdb per left (k + 1)))))) d12_findDown_127 a_95 (rfl) (by omega) (by decide) ?_
        refine g_topL (lN (dD coin per fr ti fl mf m (les (pdb per left (k + 1))))) (hnx _ (by omega)) ?_
        refine g_ladd d12_findDown_128 ?_
        refine g_topL (lN ((dc1 coin per fr fl mf (dD coin per fr ti fl mf m) (ti - m) left) (k + 1))) (by rw [lN_add]; congr 1; show _ = 1000000000000 * (prc coin fr fl (ti - m) (k + 1)) + (if 0 < (pdb per left (k + 1)) then 0 else mf (ti - m)) + dD coin per fr ti fl mf m (les (pdb per left (k + 1))); rw [if_neg (by omega)]) ?_
        refine g_lstore d12_findDown_129 (by decide) ?_
        refine g_aload_n d12_findDown_131 rfl ?_
        refine g_get fl12_101 d12_findDown_132 f_74_46 ?_
        refine g_bipushv (nI 13) d12_findDown_135 rfl ?_
        refine g_iload_n d12_findDown_137 rfl ?_
        refine g_imulN d12_findDown_138 ?_
        refine g_iload d12_findDown_139 rfl ?_
        refine g_iaddN d12_findDown_141 ?_
        refine g_lload d12_findDown_142 rfl ?_
        refine g_lload d12_findDown_144 rfl ?_
        refine g_lx_ge (((dc1 coin per fr fl mf (dD coin per fr ti fl mf m) (ti - m) left) (k + 1) : Nat) : Int) (((fa (dc1 coin per fr fl mf (dD coin per fr ti fl mf m) (ti - m) left) k).1 : Nat) : Int) 155 (pk_lT (by omega)) (pk_lT (by omega)) d12_findDown_146 d12_findDown_147 rfl (fun _ => ?_) (fun c146 => absurd c146 (by omega))
        refine g_aload_n d12_findDown_155 rfl ?_
        refine g_get fl12_101 d12_findDown_156 f_74_46 ?_
        refine g_bipushv (nI 13) d12_findDown_159 rfl ?_
        refine g_iload_n d12_findDown_161 rfl ?_
        refine g_imulN d12_findDown_162 ?_
        refine g_iload d12_findDown_163 rfl ?_
        refine g_iaddN d12_findDown_165 ?_
        refine g_ialdN (((13 * (ti - m)) + left)) d12_findDown_166 a_96 (rfl) (by omega) (by decide) ?_
        refine g_topI (nI (fa (dc1 coin per fr fl mf (dD coin per fr ti fl mf m) (ti - m) left) k).2.1) (hb) ?_
        refine g_iastN (((13 * (ti - m)) + left)) _ d12_findDown_167 a_96 (rfl) (by omega) (by decide) t_96 ?_
        refine g_lload d12_findDown_168 rfl ?_
        refine g_lload d12_findDown_170 rfl ?_
        refine g_lx_ge (((dc1 coin per fr fl mf (dD coin per fr ti fl mf m) (ti - m) left) (k + 1) : Nat) : Int) (((fa (dc1 coin per fr fl mf (dD coin per fr ti fl mf m) (ti - m) left) k).1 : Nat) : Int) 181 (pk_lT (by omega)) (pk_lT (by omega)) d12_findDown_172 d12_findDown_173 rfl (fun _ => ?_) (fun c172 => absurd c172 (by omega))
        refine g_lload d12_findDown_181 rfl ?_
        refine g_lstore d12_findDown_183 (by decide) ?_
        refine g_iincN d12_findDown_185 rfl (by decide) ?_
        refine g_goto 65 d12_findDown_188 rfl ?_
        refine g_lo [(0, .ref 74), (1, .int (nI (c))), (2, .int (nI (ti))), (3, .int (nI (ti - m))), (4, .int (nI (left))), (5, .long (lN (fa (dc1 coin per fr fl mf (dD coin per fr ti fl mf m) (ti - m) left) (k + 1)).1)), (7, .int (nI (k + 1 + 1)))] ⟨rfl, rfl, rfl, rfl, rfl, ?_, rfl, trivial⟩ ?_
        · show some (Value.long (lN ((fa (dc1 coin per fr fl mf (dD coin per fr ti fl mf m) (ti - m) left) k).1))) = some (Value.long (lN (fa (dc1 coin per fr fl mf (dD coin per fr ti fl mf m) (ti - m) left) (k + 1)).1))
          rw [hfa.1]
        refine ih (k + 1) _ (by omega) (hF.ui (by decide) (by decide)) (fun q hq => ?_) ?_
        · rw [uI_sn hq]; exact hkeep q hq
        · rw [uI_ss, hfa.2]
set_option maxHeartbeats 800000 in
theorem r12_fd2 {l : Launch} {K : cK} {d : Nat} {I : wI} {L : wL} {R : wR} {dy : cH} {Q : Option Value → cH → Prop} (coin per c fr ti se fl : Nat) (hC : CF I c fr ti se fl) (hco : I 76 6 = nI coin) (hc9 : coin ≤ 9) (hpe : I 76 7 = nI per) (hp4 : per ≤ 4) (mf : Nat → Nat) (hmf : ∀ s, fr ≤ s → s < ti + 1 → L 94 s = lN (mf s)) (hml : ∀ s, mf s ≤ 99000000000000) (m : Nat) (hm : m ≤ 11) (hmt : fr + m ≤ ti) (hd : 2 ≤ d) (J : wI) (M : wL) (hnx : ∀ q, q ≤ 12 → M 95 (13 * (ti - m + 1) + q) = lN (dD coin per fr ti fl mf m q))
    (kk : ∀ (I3 : wI) (L3 : wL), FR [96] [] [95] [] I L I3 L3 → (∀ q, q < 13 → L3 95 (13 * (ti - m) + q) = lN (dD coin per fr ti fl mf (m + 1) q) ∧ I3 96 (13 * (ti - m) + q) = nI (dB coin per fr ti fl mf m q)) → (∀ q, 13 * (ti - m + 1) ≤ q → L3 95 q = M 95 q ∧ I3 96 q = J 96 q) → GL l K m12_findDown d 0 0 211 [(0, .ref 74), (1, .int (nI c)), (2, .int (nI ti)), (3, .int (nI (ti - m)))] [] (hp I3 L3 R dy) Q) :
    ∀ (n left : Nat) (I2 : wI) (L2 : wL), left + n = 13 → FR [96] [] [95] [] I L I2 L2 → (∀ q, q < left → L2 95 (13 * (ti - m) + q) = lN (dD coin per fr ti fl mf (m + 1) q) ∧ I2 96 (13 * (ti - m) + q) = nI (dB coin per fr ti fl mf m q)) → (∀ q, 13 * (ti - m + 1) ≤ q → L2 95 q = M 95 q ∧ I2 96 q = J 96 q) →
    GL l K m12_findDown d 0 0 50 [(0, .ref 74), (1, .int (nI c)), (2, .int (nI ti)), (3, .int (nI (ti - m))), (4, .int (nI left))] [] (hp I2 L2 R dy) Q := by
  obtain ⟨hc6, q0, q1, -, q3, hft, ht11, -, hfl⟩ := id hC
  intro n
  induction n with
  | zero =>
    intro left I2 L2 hn hF hrow hoth
    obtain rfl : left = 13 := by omega
    refine g_iload d12_findDown_50 rfl ?_
    refine g_bipushv (nI 12) d12_findDown_52 rfl ?_
    refine g_ic_gt ((13 : Nat) : Int) (12) 211 (nI_ti (by omega)) (by decide) d12_findDown_54 rfl (fun _ => ?_) (fun c54 => absurd c54 (by decide))
    refine g_lo [(0, .ref 74), (1, .int (nI (c))), (2, .int (nI (ti))), (3, .int (nI (ti - m)))] ⟨rfl, rfl, rfl, rfl, trivial⟩ ?_
    exact kk I2 L2 hF hrow hoth
  | succ n ih =>
    intro left I2 L2 hn hF hrow hoth
    have hl : left ≤ 12 := by omega
    have hnx2 : ∀ q, q ≤ 12 → L2 95 (13 * (ti - m + 1) + q) = lN (dD coin per fr ti fl mf m q) := fun q hq => ((hoth _ (by omega)).1).trans (hnx q hq)
    have hb0 : (dc1 coin per fr fl mf (dD coin per fr ti fl mf m) (ti - m) left) 0 < 4000000000000000000 := dc1_lt hml hc9 hfl (by omega) (by omega)
    have hprc : prc coin fr fl (ti - m) 0 ≤ 117 := prc_le hc9 hfl (by omega)
    have hpd : pdb per left 0 ≤ 12 := by unfold pdb; omega
    have hles : les (pdb per left 0) ≤ 12 := by unfold les; omega
    by_cases hp0 : 0 < pdb per left 0
    · skip
      refine g_iload d12_findDown_50 rfl ?_
      refine g_bipushv (nI 12) d12_findDown_52 rfl ?_
      refine g_ic_gt ((left : Nat) : Int) (12) 211 (nI_ti (by omega)) (by decide) d12_findDown_54 rfl (fun c54 => absurd c54 (by omega)) (fun _ => ?_)
      refine g_ldc2 d12_findDown_57 kl12_440 ?_
      refine g_lstore d12_findDown_60 (by decide) ?_
      refine g_iconstv (nI 0) d12_findDown_62 rfl ?_
      refine g_istore d12_findDown_63 (by decide) ?_
      refine g_iload d12_findDown_65 rfl ?_
      refine g_bipushv (nI 12) d12_findDown_67 rfl ?_
      refine g_ic_gt (0) (12) 191 (by decide) (by decide) d12_findDown_69 rfl (fun c69 => absurd c69 (by decide)) (fun _ => ?_)
      refine g_aload_n d12_findDown_72 rfl ?_
      refine g_iload d12_findDown_73 rfl ?_
      refine g_iload d12_findDown_75 rfl ?_
      refine g_EV2 vm12_paidBy ml12_424 c_74 (r12_paidBy per left (0) (by exact (congrFun (hF.1 76 (by decide) (by decide)) 7).trans hpe) hp4 hl (by omega) (Nat.le_refl 1)) (by omega) (Nat.le_of_ble_eq_true rfl) d12_findDown_77 ?_
      refine g_istore d12_findDown_80 (by decide) ?_
      refine g_ldc2 d12_findDown_82 kl12_416 ?_
      refine g_aload_n d12_findDown_85 rfl ?_
      refine g_iload_n d12_findDown_86 rfl ?_
      refine g_iload_n d12_findDown_87 rfl ?_
      refine g_iload d12_findDown_88 rfl ?_
      refine g_EV3 vm12_price ml12_454 c_74 (r12_price coin c fr ti se fl (ti - m) (0) (hC.of (hF.1 76 (by decide) (by decide))) (by exact (congrFun (hF.1 76 (by decide) (by decide)) 6).trans hco) hc9 (by omega) (by omega) (Nat.le_refl 1)) (by omega) (Nat.le_of_ble_eq_true rfl) d12_findDown_90 ?_
      refine g_i2lN (by omega) d12_findDown_93 ?_
      refine g_lmul d12_findDown_94 ?_
      refine g_topL (lN (1000000000000 * (prc coin fr fl (ti - m) (0)))) (lN_mul _ _) ?_
      refine g_iload d12_findDown_95 rfl ?_
      refine g_iz_le (((pdb per left (0)) : Nat) : Int) 104 (nI_ti (by omega)) d12_findDown_97 rfl (fun c97 => absurd c97 (by omega)) (fun _ => ?_)
      refine g_lconstv (0) d12_findDown_100 rfl ?_
      refine g_goto 110 d12_findDown_101 rfl ?_
      refine g_ladd d12_findDown_110 ?_
      refine g_topL (lN (1000000000000 * (prc coin fr fl (ti - m) (0)) + 0)) (lN_add _ _) ?_
      refine g_aload_n d12_findDown_111 rfl ?_
      refine g_get fl12_98 d12_findDown_112 f_74_45 ?_
      refine g_bipushv (nI 13) d12_findDown_115 rfl ?_
      refine g_iload_n d12_findDown_117 rfl ?_
      refine g_iconstv (nI 1) d12_findDown_118 rfl ?_
      refine g_iaddN d12_findDown_119 ?_
      refine g_imulN d12_findDown_120 ?_
      refine g_iload d12_findDown_121 rfl ?_
      refine g_ES1 sm12_less ml12_427 (r12_less ((pdb per left (0))) (by omega) (Nat.le_refl 0)) (by omega) (Nat.le_of_ble_eq_true rfl) d12_findDown_123 ?_
      refine g_iaddN d12_findDown_126 ?_
      refine g_laldN (((13 * ((ti - m) + 1)) + (les ((pdb per left (0)))))) d12_findDown_127 a_95 (rfl) (by omega) (by decide) ?_
      refine g_topL (lN (dD coin per fr ti fl mf m (les (pdb per left (0))))) (hnx2 _ (by omega)) ?_
      refine g_ladd d12_findDown_128 ?_
      refine g_topL (lN ((dc1 coin per fr fl mf (dD coin per fr ti fl mf m) (ti - m) left) (0))) (by rw [lN_add]; congr 1; show _ = 1000000000000 * (prc coin fr fl (ti - m) (0)) + (if 0 < (pdb per left (0)) then 0 else mf (ti - m)) + dD coin per fr ti fl mf m (les (pdb per left (0))); rw [if_pos (by omega)]) ?_
      refine g_lstore d12_findDown_129 (by decide) ?_
      refine g_aload_n d12_findDown_131 rfl ?_
      refine g_get fl12_101 d12_findDown_132 f_74_46 ?_
      refine g_bipushv (nI 13) d12_findDown_135 rfl ?_
      refine g_iload_n d12_findDown_137 rfl ?_
      refine g_imulN d12_findDown_138 ?_
      refine g_iload d12_findDown_139 rfl ?_
      refine g_iaddN d12_findDown_141 ?_
      refine g_lload d12_findDown_142 rfl ?_
      refine g_lload d12_findDown_144 rfl ?_
      refine g_lx_ge (((dc1 coin per fr fl mf (dD coin per fr ti fl mf m) (ti - m) left) (0) : Nat) : Int) (4000000000000000000) 155 (pk_lT (by omega)) (by decide) d12_findDown_146 d12_findDown_147 rfl (fun c146 => absurd c146 (by omega)) (fun _ => ?_)
      refine g_iload d12_findDown_150 rfl ?_
      refine g_goto 167 d12_findDown_152 rfl ?_
      refine g_iastN (((13 * (ti - m)) + left)) _ d12_findDown_167 a_96 (rfl) (by omega) (by decide) t_96 ?_
      refine g_lload d12_findDown_168 rfl ?_
      refine g_lload d12_findDown_170 rfl ?_
      refine g_lx_ge (((dc1 coin per fr fl mf (dD coin per fr ti fl mf m) (ti - m) left) (0) : Nat) : Int) (4000000000000000000) 181 (pk_lT (by omega)) (by decide) d12_findDown_172 d12_findDown_173 rfl (fun c172 => absurd c172 (by omega)) (fun _ => ?_)
      refine g_lload d12_findDown_176 rfl ?_
      refine g_goto 183 d12_findDown_178 rfl ?_
      refine g_lstore d12_findDown_183 (by decide) ?_
      refine g_iinc (nI 1) d12_findDown_185 rfl (by decide) (by decide) ?_
      refine g_goto 65 d12_findDown_188 rfl ?_
      refine g_lo [(0, .ref 74), (1, .int (nI (c))), (2, .int (nI (ti))), (3, .int (nI (ti - m))), (4, .int (nI (left))), (5, .long (lN (fa (dc1 coin per fr fl mf (dD coin per fr ti fl mf m) (ti - m) left) 0).1)), (7, .int (nI (0 + 1)))] ⟨rfl, rfl, rfl, rfl, rfl, rfl, rfl, trivial⟩ ?_
      refine r12_fd1 (L0 := L2) coin per c fr ti se fl hC hco hc9 hpe hp4 mf hmf hml m left hm hmt hl hd I2 hF hnx2 (fun I3 hF3 hk3 hb3 => ?_) 12 0 _ (by omega) (hF.ui (by decide) (by decide)) (fun q hq => uI_sn hq) (by rw [uI_ss]; rfl)
      refine g_aload_n d12_findDown_191 rfl ?_
      refine g_get fl12_98 d12_findDown_192 f_74_45 ?_
      refine g_bipushv (nI 13) d12_findDown_195 rfl ?_
      refine g_iload_n d12_findDown_197 rfl ?_
      refine g_imulN d12_findDown_198 ?_
      refine g_iload d12_findDown_199 rfl ?_
      refine g_iaddN d12_findDown_201 ?_
      refine g_lload d12_findDown_202 rfl ?_
      refine g_lastN (((13 * (ti - m)) + left)) _ d12_findDown_204 a_95 (rfl) (by omega) (by decide) t_95 ?_
      refine g_iincN d12_findDown_205 rfl (by decide) ?_
      refine g_goto 50 d12_findDown_208 rfl ?_
      refine g_lo [(0, .ref 74), (1, .int (nI (c))), (2, .int (nI (ti))), (3, .int (nI (ti - m))), (4, .int (nI (left + 1)))] ⟨rfl, rfl, rfl, rfl, rfl, trivial⟩ ?_
      refine ih (left + 1) I3 _ (by omega) (hF3.ul (by decide) (by decide)) (fun q hq => ?_) (fun q hq => ?_)
      · by_cases e : q = left
        · subst e; exact ⟨by rw [uL_ss]; rfl, hb3⟩
        · rw [uL_sn (by omega), hk3 _ (by omega)]; exact hrow q (by omega)
      · rw [uL_sn (by omega), hk3 _ (by omega)]; exact hoth q hq
    · skip
      refine g_iload d12_findDown_50 rfl ?_
      refine g_bipushv (nI 12) d12_findDown_52 rfl ?_
      refine g_ic_gt ((left : Nat) : Int) (12) 211 (nI_ti (by omega)) (by decide) d12_findDown_54 rfl (fun c54 => absurd c54 (by omega)) (fun _ => ?_)
      refine g_ldc2 d12_findDown_57 kl12_440 ?_
      refine g_lstore d12_findDown_60 (by decide) ?_
      refine g_iconstv (nI 0) d12_findDown_62 rfl ?_
      refine g_istore d12_findDown_63 (by decide) ?_
      refine g_iload d12_findDown_65 rfl ?_
      refine g_bipushv (nI 12) d12_findDown_67 rfl ?_
      refine g_ic_gt (0) (12) 191 (by decide) (by decide) d12_findDown_69 rfl (fun c69 => absurd c69 (by decide)) (fun _ => ?_)
      refine g_aload_n d12_findDown_72 rfl ?_
      refine g_iload d12_findDown_73 rfl ?_
      refine g_iload d12_findDown_75 rfl ?_
      refine g_EV2 vm12_paidBy ml12_424 c_74 (r12_paidBy per left (0) (by exact (congrFun (hF.1 76 (by decide) (by decide)) 7).trans hpe) hp4 hl (by omega) (Nat.le_refl 1)) (by omega) (Nat.le_of_ble_eq_true rfl) d12_findDown_77 ?_
      refine g_istore d12_findDown_80 (by decide) ?_
      refine g_ldc2 d12_findDown_82 kl12_416 ?_
      refine g_aload_n d12_findDown_85 rfl ?_
      refine g_iload_n d12_findDown_86 rfl ?_
      refine g_iload_n d12_findDown_87 rfl ?_
      refine g_iload d12_findDown_88 rfl ?_
      refine g_EV3 vm12_price ml12_454 c_74 (r12_price coin c fr ti se fl (ti - m) (0) (hC.of (hF.1 76 (by decide) (by decide))) (by exact (congrFun (hF.1 76 (by decide) (by decide)) 6).trans hco) hc9 (by omega) (by omega) (Nat.le_refl 1)) (by omega) (Nat.le_of_ble_eq_true rfl) d12_findDown_90 ?_
      refine g_i2lN (by omega) d12_findDown_93 ?_
      refine g_lmul d12_findDown_94 ?_
      refine g_topL (lN (1000000000000 * (prc coin fr fl (ti - m) (0)))) (lN_mul _ _) ?_
      refine g_iload d12_findDown_95 rfl ?_
      refine g_iz_le (((pdb per left (0)) : Nat) : Int) 104 (nI_ti (by omega)) d12_findDown_97 rfl (fun _ => ?_) (fun c97 => absurd c97 (by omega))
      refine g_aload_n d12_findDown_104 rfl ?_
      refine g_get fl12_95 d12_findDown_105 f_74_41 ?_
      refine g_iload_n d12_findDown_108 rfl ?_
      refine g_laldN ((ti - m)) d12_findDown_109 a_94 (rfl) (by omega) (by decide) ?_
      refine g_topL (lN (mf (ti - m))) ((congrFun (hF.2.2.1 94 (by decide) (by decide)) _).trans (hmf _ (by omega) (by omega))) ?_
      refine g_ladd d12_findDown_110 ?_
      refine g_topL (lN (1000000000000 * (prc coin fr fl (ti - m) (0)) + mf (ti - m))) (lN_add _ _) ?_
      refine g_aload_n d12_findDown_111 rfl ?_
      refine g_get fl12_98 d12_findDown_112 f_74_45 ?_
      refine g_bipushv (nI 13) d12_findDown_115 rfl ?_
      refine g_iload_n d12_findDown_117 rfl ?_
      refine g_iconstv (nI 1) d12_findDown_118 rfl ?_
      refine g_iaddN d12_findDown_119 ?_
      refine g_imulN d12_findDown_120 ?_
      refine g_iload d12_findDown_121 rfl ?_
      refine g_ES1 sm12_less ml12_427 (r12_less ((pdb per left (0))) (by omega) (Nat.le_refl 0)) (by omega) (Nat.le_of_ble_eq_true rfl) d12_findDown_123 ?_
      refine g_iaddN d12_findDown_126 ?_
      refine g_laldN (((13 * ((ti - m) + 1)) + (les ((pdb per left (0)))))) d12_findDown_127 a_95 (rfl) (by omega) (by decide) ?_
      refine g_topL (lN (dD coin per fr ti fl mf m (les (pdb per left (0))))) (hnx2 _ (by omega)) ?_
      refine g_ladd d12_findDown_128 ?_
      refine g_topL (lN ((dc1 coin per fr fl mf (dD coin per fr ti fl mf m) (ti - m) left) (0))) (by rw [lN_add]; congr 1; show _ = 1000000000000 * (prc coin fr fl (ti - m) (0)) + (if 0 < (pdb per left (0)) then 0 else mf (ti - m)) + dD coin per fr ti fl mf m (les (pdb per left (0))); rw [if_neg (by omega)]) ?_
      refine g_lstore d12_findDown_129 (by decide) ?_
      refine g_aload_n d12_findDown_131 rfl ?_
      refine g_get fl12_101 d12_findDown_132 f_74_46 ?_
      refine g_bipushv (nI 13) d12_findDown_135 rfl ?_
      refine g_iload_n d12_findDown_137 rfl ?_
      refine g_imulN d12_findDown_138 ?_
      refine g_iload d12_findDown_139 rfl ?_
      refine g_iaddN d12_findDown_141 ?_
      refine g_lload d12_findDown_142 rfl ?_
      refine g_lload d12_findDown_144 rfl ?_
      refine g_lx_ge (((dc1 coin per fr fl mf (dD coin per fr ti fl mf m) (ti - m) left) (0) : Nat) : Int) (4000000000000000000) 155 (pk_lT (by omega)) (by decide) d12_findDown_146 d12_findDown_147 rfl (fun c146 => absurd c146 (by omega)) (fun _ => ?_)
      refine g_iload d12_findDown_150 rfl ?_
      refine g_goto 167 d12_findDown_152 rfl ?_
      refine g_iastN (((13 * (ti - m)) + left)) _ d12_findDown_167 a_96 (rfl) (by omega) (by decide) t_96 ?_
      refine g_lload d12_findDown_168 rfl ?_
      refine g_lload d12_findDown_170 rfl ?_
      refine g_lx_ge (((dc1 coin per fr fl mf (dD coin per fr ti fl mf m) (ti - m) left) (0) : Nat) : Int) (4000000000000000000) 181 (pk_lT (by omega)) (by decide) d12_findDown_172 d12_findDown_173 rfl (fun c172 => absurd c172 (by omega)) (fun _ => ?_)
      refine g_lload d12_findDown_176 rfl ?_
      refine g_goto 183 d12_findDown_178 rfl ?_
      refine g_lstore d12_findDown_183 (by decide) ?_
      refine g_iinc (nI 1) d12_findDown_185 rfl (by decide) (by decide) ?_
      refine g_goto 65 d12_findDown_188 rfl ?_
      refine g_lo [(0, .ref 74), (1, .int (nI (c))), (2, .int (nI (ti))), (3, .int (nI (ti - m))), (4, .int (nI (left))), (5, .long (lN (fa (dc1 coin per fr fl mf (dD coin per fr ti fl mf m) (ti - m) left) 0).1)), (7, .int (nI (0 + 1)))] ⟨rfl, rfl, rfl, rfl, rfl, rfl, rfl, trivial⟩ ?_
      refine r12_fd1 (L0 := L2) coin per c fr ti se fl hC hco hc9 hpe hp4 mf hmf hml m left hm hmt hl hd I2 hF hnx2 (fun I3 hF3 hk3 hb3 => ?_) 12 0 _ (by omega) (hF.ui (by decide) (by decide)) (fun q hq => uI_sn hq) (by rw [uI_ss]; rfl)
      refine g_aload_n d12_findDown_191 rfl ?_
      refine g_get fl12_98 d12_findDown_192 f_74_45 ?_
      refine g_bipushv (nI 13) d12_findDown_195 rfl ?_
      refine g_iload_n d12_findDown_197 rfl ?_
      refine g_imulN d12_findDown_198 ?_
      refine g_iload d12_findDown_199 rfl ?_
      refine g_iaddN d12_findDown_201 ?_
      refine g_lload d12_findDown_202 rfl ?_
      refine g_lastN (((13 * (ti - m)) + left)) _ d12_findDown_204 a_95 (rfl) (by omega) (by decide) t_95 ?_
      refine g_iincN d12_findDown_205 rfl (by decide) ?_
      refine g_goto 50 d12_findDown_208 rfl ?_
      refine g_lo [(0, .ref 74), (1, .int (nI (c))), (2, .int (nI (ti))), (3, .int (nI (ti - m))), (4, .int (nI (left + 1)))] ⟨rfl, rfl, rfl, rfl, rfl, trivial⟩ ?_
      refine ih (left + 1) I3 _ (by omega) (hF3.ul (by decide) (by decide)) (fun q hq => ?_) (fun q hq => ?_)
      · by_cases e : q = left
        · subst e; exact ⟨by rw [uL_ss]; rfl, hb3⟩
        · rw [uL_sn (by omega), hk3 _ (by omega)]; exact hrow q (by omega)
      · rw [uL_sn (by omega), hk3 _ (by omega)]; exact hoth q hq
set_option maxHeartbeats 800000 in
theorem r12_fd3 {l : Launch} {K : cK} {d : Nat} {I : wI} {L : wL} {R : wR} {dy : cH} {Q : Option Value → cH → Prop} (coin per c fr ti se fl : Nat) (hC : CF I c fr ti se fl) (hco : I 76 6 = nI coin) (hc9 : coin ≤ 9) (hpe : I 76 7 = nI per) (hp4 : per ≤ 4) (mf : Nat → Nat) (hmf : ∀ s, fr ≤ s → s < ti + 1 → L 94 s = lN (mf s)) (hml : ∀ s, mf s ≤ 99000000000000) (hd : 2 ≤ d)
    (kk : ∀ (I3 : wI) (L3 : wL), FR [96] [] [95] [] I L I3 L3 → ((∀ m2, m2 ≤ (ti + 1 - fr) → ∀ q, q ≤ 12 → L3 95 (13 * (ti + 1 - m2) + q) = lN (dD coin per fr ti fl mf m2 q)) ∧ ∀ m2, m2 < (ti + 1 - fr) → ∀ q, q ≤ 12 → I3 96 (13 * (ti - m2) + q) = nI (dB coin per fr ti fl mf m2 q)) → GL l K m12_findDown d 0 0 217 [(0, .ref 74)] [] (hp I3 L3 R dy) Q) :
    ∀ (n m : Nat) (x : Int32) (I2 : wI) (L2 : wL), m + n = ti + 1 - fr → x.toInt = (ti : Int) - m → FR [96] [] [95] [] I L I2 L2 → ((∀ m2, m2 ≤ m → ∀ q, q ≤ 12 → L2 95 (13 * (ti + 1 - m2) + q) = lN (dD coin per fr ti fl mf m2 q)) ∧ ∀ m2, m2 < m → ∀ q, q ≤ 12 → I2 96 (13 * (ti - m2) + q) = nI (dB coin per fr ti fl mf m2 q)) →
    GL l K m12_findDown d 0 0 37 [(0, .ref 74), (1, .int (nI c)), (2, .int (nI ti)), (3, .int x)] [] (hp I2 L2 R dy) Q := by
  obtain ⟨hc6, q0, q1, -, q3, hft, ht11, -, hfl⟩ := id hC
  intro n
  induction n with
  | zero =>
    intro m x I2 L2 hm hx hF hdn
    obtain rfl : m = ti + 1 - fr := by omega
    refine g_iload_n d12_findDown_37 rfl ?_
    refine g_aload_n d12_findDown_38 rfl ?_
    refine g_iload_n d12_findDown_39 rfl ?_
    refine g_iconstv (nI 0) d12_findDown_40 rfl ?_
    refine g_EV2 vm12_ofCar ml12_167 c_74 (r12_ofCar (c) (0) (by omega) (by omega) (Nat.le_refl 0)) (by omega) (Nat.le_of_ble_eq_true rfl) d12_findDown_41 ?_
    refine g_topI (nI fr) ((congrFun (hF.1 76 (by decide) (by decide)) _).trans q0) ?_
    refine g_ic_lt _ ((fr : Nat) : Int) 217 (rfl) (nI_ti (by omega)) d12_findDown_44 rfl (fun _ => ?_) (fun c44 => absurd c44 (by omega))
    refine g_lo [(0, .ref 74)] ⟨rfl, trivial⟩ ?_
    exact kk I2 L2 hF hdn
  | succ n ih =>
    intro m x I2 L2 hm hx hF hdn
    obtain rfl : x = nI (ti - m) := of_ti (by omega) (by omega)
    refine g_iload_n d12_findDown_37 rfl ?_
    refine g_aload_n d12_findDown_38 rfl ?_
    refine g_iload_n d12_findDown_39 rfl ?_
    refine g_iconstv (nI 0) d12_findDown_40 rfl ?_
    refine g_EV2 vm12_ofCar ml12_167 c_74 (r12_ofCar (c) (0) (by omega) (by omega) (Nat.le_refl 0)) (by omega) (Nat.le_of_ble_eq_true rfl) d12_findDown_41 ?_
    refine g_topI (nI fr) ((congrFun (hF.1 76 (by decide) (by decide)) _).trans q0) ?_
    refine g_ic_lt (((ti - m) : Nat) : Int) ((fr : Nat) : Int) 217 (nI_ti (by omega)) (nI_ti (by omega)) d12_findDown_44 rfl (fun c44 => absurd c44 (by omega)) (fun _ => ?_)
    refine g_iconstv (nI 0) d12_findDown_47 rfl ?_
    refine g_istore d12_findDown_48 (by decide) ?_
    refine g_lo [(0, .ref 74), (1, .int (nI (c))), (2, .int (nI (ti))), (3, .int (nI (ti - m))), (4, .int (nI (0)))] ⟨rfl, rfl, rfl, rfl, rfl, trivial⟩ ?_
    refine r12_fd2 coin per c fr ti se fl hC hco hc9 hpe hp4 mf hmf hml m (by omega) (by omega) hd I2 L2 (fun q hq => by have := hdn.1 m (Nat.le_refl _) q hq; rw [show ti - m + 1 = ti + 1 - m by omega]; exact this) (fun I3 L3 hF3 hr3 ho3 => ?_) 13 0 I2 L2 (by omega) hF (fun q hq => by omega) (fun q hq => ⟨rfl, rfl⟩)
    refine g_iinc (_) d12_findDown_211 rfl (rfl) (by decide) ?_
    refine g_goto 37 d12_findDown_214 rfl ?_
    refine g_lo [(0, .ref 74), (1, .int (nI c)), (2, .int (nI ti)), (3, .int (nI (ti - m) + Int32.ofInt (-1)))] ⟨rfl, rfl, rfl, rfl, trivial⟩ ?_
    refine ih (m + 1) _ I3 L3 (by omega) (by rw [dec_ti (by omega)]; omega) hF3 ⟨fun m2 h2 q hq => ?_, fun m2 h2 q hq => ?_⟩
    · by_cases e : m2 = m + 1
      · subst e; rw [show ti + 1 - (m + 1) = ti - m by omega]; exact (hr3 q (by omega)).1
      · rw [(ho3 _ (by omega)).1]; exact hdn.1 m2 (by omega) q hq
    · by_cases e : m2 = m
      · subst e; exact (hr3 q (by omega)).2
      · rw [(ho3 _ (by omega)).2]; exact hdn.2 m2 (by omega) q hq
set_option maxHeartbeats 400000 in
theorem r12_fd0 {l : Launch} {K : cK} {d : Nat} {I : wI} {L : wL} {R : wR} {dy : cH} {Q : Option Value → cH → Prop} (c ti : Nat) (ht11 : ti ≤ 11) (kk : ∀ (L3 : wL), FR [96] [] [95] [] I L I L3 → (∀ q, q ≤ 12 → L3 95 (13 * (ti + 1) + q) = 0) → GL l K m12_findDown d 0 0 35 [(0, .ref 74), (1, .int (nI c)), (2, .int (nI ti))] [] (hp I L3 R dy) Q) :
    ∀ (n k : Nat) (L2 : wL), k + n = 13 → FR [96] [] [95] [] I L I L2 → (∀ q, q < k → L2 95 (13 * (ti + 1) + q) = 0) →
    GL l K m12_findDown d 0 0 9 [(0, .ref 74), (1, .int (nI c)), (2, .int (nI ti)), (3, .int (nI k))] [] (hp I L2 R dy) Q := by
  intro n
  induction n with
  | zero =>
    intro k L2 hk hF hz
    obtain rfl : k = 13 := by omega
    refine g_iload_n d12_findDown_9 rfl ?_
    refine g_bipushv (nI 12) d12_findDown_10 rfl ?_
    refine g_ic_gt ((13 : Nat) : Int) (12) 35 (nI_ti (by omega)) (by decide) d12_findDown_12 rfl (fun _ => ?_) (fun c12 => absurd c12 (by decide))
    refine g_lo [(0, .ref 74), (1, .int (nI (c))), (2, .int (nI (ti)))] ⟨rfl, rfl, rfl, trivial⟩ ?_
    exact kk L2 hF (fun q hq => hz q (by omega))
  | succ n ih =>
    intro k L2 hk hF hz
    refine g_iload_n d12_findDown_9 rfl ?_
    refine g_bipushv (nI 12) d12_findDown_10 rfl ?_
    refine g_ic_gt ((k : Nat) : Int) (12) 35 (nI_ti (by omega)) (by decide) d12_findDown_12 rfl (fun c12 => absurd c12 (by omega)) (fun _ => ?_)
    refine g_aload_n d12_findDown_15 rfl ?_
    refine g_get fl12_98 d12_findDown_16 f_74_45 ?_
    refine g_bipushv (nI 13) d12_findDown_19 rfl ?_
    refine g_iload_n d12_findDown_21 rfl ?_
    refine g_iconstv (nI 1) d12_findDown_22 rfl ?_
    refine g_iaddN d12_findDown_23 ?_
    refine g_imulN d12_findDown_24 ?_
    refine g_iload_n d12_findDown_25 rfl ?_
    refine g_iaddN d12_findDown_26 ?_
    refine g_lconstv (0) d12_findDown_27 rfl ?_
    refine g_lastN (((13 * (ti + 1)) + k)) _ d12_findDown_28 a_95 (rfl) (by omega) (by decide) t_95 ?_
    refine g_iincN d12_findDown_29 rfl (by decide) ?_
    refine g_goto 9 d12_findDown_32 rfl ?_
    refine g_lo [(0, .ref 74), (1, .int (nI (c))), (2, .int (nI (ti))), (3, .int (nI (k + 1)))] ⟨rfl, rfl, rfl, rfl, trivial⟩ ?_
    refine ih (k + 1) _ (by omega) (hF.ul (by decide) (by decide)) (fun q hq => ?_)
    by_cases e : q = k
    · subst e; exact uL_ss
    · rw [uL_sn (by omega)]; exact hz q (by omega)
theorem r12_findDown {l : Launch} {K : cK} {d : Nat} {I : wI} {L : wL} {R : wR} {dy : cH} (coin per c fr ti se fl : Nat) (hC : CF I c fr ti se fl) (hco : I 76 6 = nI coin) (hc9 : coin ≤ 9) (hpe : I 76 7 = nI per) (hp4 : per ≤ 4) (mf : Nat → Nat) (hmf : ∀ s, fr ≤ s → s < ti + 1 → L 94 s = lN (mf s)) (hml : ∀ s, mf s ≤ 99000000000000) (hd : 2 ≤ d) : CW l K m12_findDown d [.ref 74, .int (nI c)] (hp I L R dy) (α := wI × wL) (fun x => FR [96] [] [95] [] I L x.1 x.2 ∧ (∀ m2, m2 ≤ (ti + 1 - fr) → ∀ q, q ≤ 12 → x.2 95 (13 * (ti + 1 - m2) + q) = lN (dD coin per fr ti fl mf m2 q)) ∧ ∀ m2, m2 < (ti + 1 - fr) → ∀ q, q ≤ 12 → x.1 96 (13 * (ti - m2) + q) = nI (dB coin per fr ti fl mf m2 q)) (fun x => hp x.1 x.2 R dy) := by
  obtain ⟨hc6, q0, q1, -, q3, hft, ht11, -, hfl⟩ := id hC
  refine CC.of ok12_findDown (Nat.le_of_ble_eq_true rfl) ?_
  refine g_aload_n d12_findDown_0 rfl ?_
  refine g_iload_n d12_findDown_1 rfl ?_
  refine g_iconstv (nI 1) d12_findDown_2 rfl ?_
  refine g_EV2 vm12_ofCar ml12_167 c_74 (r12_ofCar (c) (1) (by omega) (by omega) (Nat.le_refl 0)) (by omega) (Nat.le_of_ble_eq_true rfl) d12_findDown_3 ?_
  refine g_topI (nI ti) (q1) ?_
  refine g_istore_n d12_findDown_6 (by decide) ?_
  refine g_iconstv (nI 0) d12_findDown_7 rfl ?_
  refine g_istore_n d12_findDown_8 (by decide) ?_
  refine g_lo [(0, .ref 74), (1, .int (nI (c))), (2, .int (nI (ti))), (3, .int (nI (0)))] ⟨rfl, rfl, rfl, rfl, trivial⟩ ?_
  refine r12_fd0 c ti ht11 (fun L3 hF3 hz3 => ?_) 13 0 L (by omega) FR.rf (fun q hq => by omega)
  refine g_iload_n d12_findDown_35 rfl ?_
  refine g_istore_n d12_findDown_36 (by decide) ?_
  refine g_lo [(0, .ref 74), (1, .int (nI (c))), (2, .int (nI (ti))), (3, .int (nI (ti)))] ⟨rfl, rfl, rfl, rfl, trivial⟩ ?_
  refine r12_fd3 coin per c fr ti se fl hC hco hc9 hpe hp4 mf hmf hml hd (fun I4 L4 hF4 hd4 => ?_) (ti + 1 - fr) 0 _ I L3 (by omega) (by rw [nI_ti (by omega)]; omega) hF3 ⟨fun m2 h2 q hq => ?_, fun m2 h2 => by omega⟩
  rotate_left
  · obtain rfl : m2 = 0 := by omega
    exact hz3 q hq
  exact g_vret rfl d12_findDown_217 (⟨(I4, L4), ⟨hF4, hd4⟩, rfl, rfl⟩)
