/-- a car of the row -/
def CF (I : wI) (c fr ti se fl : Nat) : Prop := c < 6 ∧ I 76 (14 + 4 * c + 0) = nI fr ∧ I 76 (14 + 4 * c + 1) = nI ti ∧ I 76 (14 + 4 * c + 2) = nI se ∧ I 76 (14 + 4 * c + 3) = nI fl ∧ fr ≤ ti ∧ ti ≤ 11 ∧ se ≤ 1 ∧ fl ≤ 9
def cEn (I : wI) (c fr s k : Nat) : Nat → Int64 := lE (lN s) (lN k) (I 76 9).toInt64 (I 74 36).toInt64 (lN c) (lN (s - fr)) (I 76 13).toInt64
theorem cEn_of {I I2 : wI} {c fr s k : Nat} (h76 : I2 76 = I 76) (h36 : I2 74 36 = I 74 36) : cEn I2 c fr s k = cEn I c fr s k := by unfold cEn; rw [h76, h36]
/-- what he fines a car, nothing if it is spared -/
def fnv (I : wI) (lf : lawF) (c fr fine s k : Nat) : Nat := if spB lf (cEn I c fr s k) = true then 0 else fiF lf (cEn I c fr s k) fine
theorem fiF_le (lf : lawF) (e : Nat → Int64) {fine : Nat} (h : fine ≤ 99) : fiF lf e fine ≤ 99 := by
  cases lf with
  | none => exact h
  | some F =>
    show (clp 0 99 _).toNat ≤ 99
    unfold clp
    by_cases q1 : (F e 1 (lN fine)).toInt < 0
    · rw [if_pos q1]; decide
    · rw [if_neg q1]
      by_cases q2 : (99 : Int) < (F e 1 (lN fine)).toInt
      · rw [if_pos q2]; decide
      · rw [if_neg q2]; omega
theorem fnv_le (I : wI) (lf : lawF) (c fr s k : Nat) {fine : Nat} (h : fine ≤ 99) : fnv I lf c fr fine s k ≤ 99 := by
  unfold fnv; split
  · exact Nat.zero_le _
  · exact fiF_le lf _ h
def mfv (cm : Nat → Nat → Nat) (s0 : Nat) (fn : Nat → Nat → Nat) (s : Nat) : Nat → Nat := sm (fun k => pt fr2 cm s0 s k / 10 * cm s k * fn s k)
/-- a car's rows -/
def LR (I : wI) (L : wL) (cm : Nat → Nat → Nat) (s0 : Nat) (fn : Nat → Nat → Nat) (sb : Nat → Nat → Bool) (a b : Nat) : Prop := ∀ s, a ≤ s → s < b → (∀ k, 1 ≤ k → k ≤ 12 → I 92 (13 * s + k) = nI (fn s k) ∧ I 93 (13 * s + k) = if sb s k = true then 1 else 0) ∧ L 94 s = lN (mfv cm s0 fn s 12)
set_option maxHeartbeats 800000 in
theorem r12_car1L {l : Launch} {K : cK} {d : Nat} {I : wI} {L : wL} {R : wR} {dy : cH} {Q : Option Value → cH → Prop} (lf : lawF) (ha : askd I lf) (ho : I 74 15 = 0) (c fr ti se fl : Nat) (hC : CF I c fr ti se fl) (fine : Nat) (hfi : fine ≤ 99) (cm : Nat → Nat → Nat) (s0 : Nat) (hLC : LC I L cm s0) (hcm : ∀ s k, cm s k ≤ 10) (hd : 5 ≤ d) (s : Nat) (hs1 : fr ≤ s) (hs2 : s ≤ ti)
    (kk : ∀ (I3 : wI) (L3 : wL), FR [92, 93] [28, 32] [87, 88, 89, 94] [33, 34] I L I3 L3 → LR I3 L3 cm s0 (fnv I lf c fr fine) (fun s k => spB lf (cEn I c fr s k)) fr (s + 1) → GL l K m12_layCar d 0 0 132 [(0, .ref 74), (1, .int (nI c)), (2, .int (nI fine)), (3, .int (nI s))] [] (hp I3 L3 R dy) Q) :
    ∀ (n k : Nat) (I2 : wI) (L2 : wL), k + n = 12 → FR [92, 93] [28, 32] [87, 88, 89, 94] [33, 34] I L I2 L2 → LR I2 L2 cm s0 (fnv I lf c fr fine) (fun s k => spB lf (cEn I c fr s k)) fr s → (∀ k2, 1 ≤ k2 → k2 ≤ k → I2 92 (13 * s + k2) = nI ((fnv I lf c fr fine) s k2) ∧ I2 93 (13 * s + k2) = if (fun s k => spB lf (cEn I c fr s k)) s k2 = true then 1 else 0) → L2 94 s = lN (mfv cm s0 (fnv I lf c fr fine) s k) →
    GL l K m12_layCar d 0 0 27 [(0, .ref 74), (1, .int (nI c)), (2, .int (nI fine)), (3, .int (nI s)), (4, .int (nI (k + 1)))] [] (hp I2 L2 R dy) Q := by
  obtain ⟨hc6, q0, q1, -, -, hft, ht11, -, -⟩ := id hC
  intro n
  induction n with
  | zero =>
    intro k I2 L2 hk hF hR hrow hm
    obtain rfl : k = 12 := by omega
    refine g_iload d12_layCar_27 rfl ?_
    refine g_bipushv (nI 13) d12_layCar_29 rfl ?_
    refine g_ic_ge (((12 + 1) : Nat) : Int) (13) 132 (nI_ti (by omega)) (by decide) d12_layCar_31 rfl (fun _ => ?_) (fun c31 => absurd c31 (by decide))
    refine g_lo [(0, .ref 74), (1, .int (nI (c))), (2, .int (nI (fine))), (3, .int (nI (s)))] ⟨rfl, rfl, rfl, rfl, trivial⟩ ?_
    exact kk I2 L2 hF (fun s2 a b => by
      by_cases e : s2 = s
      · subst e; exact ⟨hrow, hm⟩
      · exact hR s2 a (by omega))
  | succ n ih =>
    intro k I2 L2 hk hF hR hrow hm
    have hk12 : k + 1 ≤ 12 := by omega
    have e76 : I2 76 = I 76 := hF.1 76 (by decide) (by decide)
    have e36 : I2 74 36 = I 74 36 := hF.2.1 36 (by decide)
    have hE : cEn I2 c fr s (k + 1) = cEn I c fr s (k + 1) := cEn_of e76 e36
    have hq0 : I2 76 (14 + 4 * c + 0) = nI fr := (congrFun e76 _).trans q0
    have ha2 : askd I2 lf := ha.of e76 (hF.2.1 35 (by decide))
    have ho2 : I2 74 15 = 0 := (hF.2.1 15 (by decide)).trans ho
    have hcI : I 90 (13 * s + (k + 1)) = nI (cm s (k + 1)) := hLC.1 s (by omega) (k + 1) (by omega) hk12
    have hPI : L 91 (13 * s + (k + 1)) = lN (pt fr2 cm s0 s (k + 1)) := hLC.2 s (by omega) (k + 1) hk12
    have hPle : pt fr2 cm s0 s (k + 1) ≤ 1000000000000 := pt_le fr2 cm s0 hcm (by omega) hk12
    have hdiv : lN (pt fr2 cm s0 s (k + 1)) / 10 = lN (pt fr2 cm s0 s (k + 1) / 10) := pk_lDiv (b := 10) (by omega) (by decide) (by decide)
    have hc10 := hcm s (k + 1)
    have hfl := fnv_le I lf c fr s (k + 1) hfi
    by_cases hsp : spB lf (cEn I c fr s (k + 1)) = true
    · have hfn : (fnv I lf c fr fine) s (k + 1) = 0 := by unfold fnv; rw [if_pos hsp]
      skip
      refine g_iload d12_layCar_27 rfl ?_
      refine g_bipushv (nI 13) d12_layCar_29 rfl ?_
      refine g_ic_ge (((k + 1) : Nat) : Int) (13) 132 (nI_ti (by omega)) (by decide) d12_layCar_31 rfl (fun c31 => absurd c31 (by omega)) (fun _ => ?_)
      refine g_bipushv (nI 13) d12_layCar_34 rfl ?_
      refine g_iload_n d12_layCar_36 rfl ?_
      refine g_imulN d12_layCar_37 ?_
      refine g_iload d12_layCar_38 rfl ?_
      refine g_iaddN d12_layCar_40 ?_
      refine g_istore d12_layCar_41 (by decide) ?_
      refine g_aload_n d12_layCar_43 rfl ?_
      refine g_get fl12_92 d12_layCar_44 f_74_40 ?_
      refine g_iload d12_layCar_47 rfl ?_
      refine g_aload_n d12_layCar_49 rfl ?_
      refine g_iload_n d12_layCar_50 rfl ?_
      refine g_iload d12_layCar_51 rfl ?_
      refine g_iload_n d12_layCar_53 rfl ?_
      refine g_XV3 vm12_isSpared ml12_412 c_74 (r12_isSpared s (k + 1) c fr (by omega) (by omega) hc6 hq0 hs1 lf ha2 ho2 (Nat.le_refl 4)) (by omega) (Nat.le_of_ble_eq_true rfl) d12_layCar_54 (fun x hx => ?_)
      obtain ⟨I3, L3⟩ := x
      dsimp only
      refine g_topI (if spB lf (cEn I c fr s (k + 1)) = true then 1 else 0) (by show (if spB lf (cEn I2 c fr s (k + 1)) = true then (1 : Int32) else 0) = _; rw [hE]) ?_
      refine g_zastN (((13 * s) + (k + 1))) _ d12_layCar_57 a_93 (rfl) (by omega) (by decide) (b01 _) t_93 ?_
      refine g_aload_n d12_layCar_58 rfl ?_
      refine g_get fl12_89 d12_layCar_59 f_74_39 ?_
      refine g_iload d12_layCar_62 rfl ?_
      refine g_aload_n d12_layCar_64 rfl ?_
      refine g_get fl12_92 d12_layCar_65 f_74_40 ?_
      refine g_iload d12_layCar_68 rfl ?_
      refine g_zaldN (((13 * s) + (k + 1))) d12_layCar_70 a_93 (rfl) (by omega) (by decide) ?_
      refine g_topI ((if spB lf (cEn I c fr s (k + 1)) = true then 1 else 0)) (by rw [uI_ss]) ?_
      refine g_iz_eq 1 78 (by rw [if_pos hsp]; rfl) d12_layCar_71 rfl (fun c71 => absurd c71 (by decide)) (fun _ => ?_)
      refine g_iconstv (nI 0) d12_layCar_74 rfl ?_
      refine g_goto 87 d12_layCar_75 rfl ?_
      refine g_iastN (((13 * s) + (k + 1))) _ d12_layCar_87 a_92 (rfl) (by omega) (by decide) t_92 ?_
      have hF3 : FR [92, 93] [28, 32] [87, 88, 89, 94] [33, 34] I L I3 L3 := hF.tr (hx.fr.up (by decide) (by decide) (by decide) (by decide))
      refine g_aload_n d12_layCar_88 rfl ?_
      refine g_get fl12_95 d12_layCar_89 f_74_41 ?_
      refine g_iload_n d12_layCar_92 rfl ?_
      refine g_dup2 d12_layCar_93 rfl rfl ?_
      refine g_laldN (s) d12_layCar_94 a_94 (rfl) (by omega) (by decide) ?_
      refine g_topL (lN (mfv cm s0 (fnv I lf c fr fine) s k)) ((by rw [show L3 94 = L2 94 from hx.2.2.1 94 (by decide) (by decide) (by decide) (by decide)]; exact hm)) ?_
      refine g_aload_n d12_layCar_95 rfl ?_
      refine g_get fl12_86 d12_layCar_96 f_74_38 ?_
      refine g_iload d12_layCar_99 rfl ?_
      refine g_laldN (((13 * s) + (k + 1))) d12_layCar_101 a_91 (rfl) (by omega) (by decide) ?_
      refine g_topL (lN (pt fr2 cm s0 s (k + 1))) (((congrFun (hF3.2.2.1 91 (by decide) (by decide)) _).trans hPI)) ?_
      refine g_ldc2 d12_layCar_102 kl12_223 ?_
      refine g_ldiv d12_layCar_105 (by decide) ?_
      refine g_topL (lN (pt fr2 cm s0 s (k + 1) / 10)) (hdiv) ?_
      refine g_aload_n d12_layCar_106 rfl ?_
      refine g_get fl12_83 d12_layCar_107 f_74_37 ?_
      refine g_iload d12_layCar_110 rfl ?_
      refine g_ialdN (((13 * s) + (k + 1))) d12_layCar_112 a_90 (rfl) (by omega) (by decide) ?_
      refine g_topI (nI (cm s (k + 1))) (((congrFun (hF3.1 90 (by decide) (by decide)) _).trans hcI)) ?_
      refine g_i2lN (by omega) d12_layCar_113 ?_
      refine g_lmul d12_layCar_114 ?_
      refine g_topL (lN (pt fr2 cm s0 s (k + 1) / 10 * cm s (k + 1))) (lN_mul _ _) ?_
      refine g_aload_n d12_layCar_115 rfl ?_
      refine g_get fl12_89 d12_layCar_116 f_74_39 ?_
      refine g_iload d12_layCar_119 rfl ?_
      refine g_ialdN (((13 * s) + (k + 1))) d12_layCar_121 a_92 (rfl) (by omega) (by decide) ?_
      refine g_topI (nI ((fnv I lf c fr fine) s (k + 1))) ((by rw [uI_ss, hfn])) ?_
      refine g_i2lN (by omega) d12_layCar_122 ?_
      refine g_lmul d12_layCar_123 ?_
      refine g_topL (lN (pt fr2 cm s0 s (k + 1) / 10 * cm s (k + 1) * (fnv I lf c fr fine) s (k + 1))) (lN_mul _ _) ?_
      refine g_ladd d12_layCar_124 ?_
      refine g_topL (lN (mfv cm s0 (fnv I lf c fr fine) s (k + 1))) (lN_add _ _) ?_
      refine g_lastN (s) _ d12_layCar_125 a_94 (rfl) (by omega) (by decide) t_94 ?_
      refine g_iincN d12_layCar_126 rfl (by decide) ?_
      refine g_goto 27 d12_layCar_129 rfl ?_
      refine g_lo [(0, .ref 74), (1, .int (nI (c))), (2, .int (nI (fine))), (3, .int (nI (s))), (4, .int (nI (k + 1 + 1)))] ⟨rfl, rfl, rfl, rfl, rfl, trivial⟩ ?_
      refine ih (k + 1) _ _ (by omega) (((hF3.ui (by decide) (by decide)).ui (by decide) (by decide)).ul (by decide) (by decide)) (fun s2 a b => ?_) (fun k2 a b => ?_) (by rw [uL_ss])
      · refine ⟨fun k2 c1 c2 => ?_, ?_⟩
        · rw [uI_s, pk_un (by omega), uI_n (by decide), uI_n (by decide), uI_s, pk_un (by omega)]
          rw [show I3 92 = I2 92 from hx.1 92 (by decide), show I3 93 = I2 93 from hx.1 93 (by decide)]
          exact (hR s2 a b).1 k2 c1 c2
        · rw [uL_sn (by omega), show L3 94 = L2 94 from hx.2.2.1 94 (by decide) (by decide) (by decide) (by decide)]; exact (hR s2 a b).2
      · by_cases e : k2 = k + 1
        · subst e
          refine ⟨by rw [uI_ss, hfn], ?_⟩
          rw [uI_n (by decide), uI_ss]
        · rw [uI_s, pk_un (by omega), uI_n (by decide), uI_n (by decide), uI_s, pk_un (by omega)]
          rw [show I3 92 = I2 92 from hx.1 92 (by decide), show I3 93 = I2 93 from hx.1 93 (by decide)]
          exact hrow k2 a (by omega)
    · have hfn : (fnv I lf c fr fine) s (k + 1) = fiF lf (cEn I c fr s (k + 1)) fine := by unfold fnv; rw [if_neg hsp]
      skip
      refine g_iload d12_layCar_27 rfl ?_
      refine g_bipushv (nI 13) d12_layCar_29 rfl ?_
      refine g_ic_ge (((k + 1) : Nat) : Int) (13) 132 (nI_ti (by omega)) (by decide) d12_layCar_31 rfl (fun c31 => absurd c31 (by omega)) (fun _ => ?_)
      refine g_bipushv (nI 13) d12_layCar_34 rfl ?_
      refine g_iload_n d12_layCar_36 rfl ?_
      refine g_imulN d12_layCar_37 ?_
      refine g_iload d12_layCar_38 rfl ?_
      refine g_iaddN d12_layCar_40 ?_
      refine g_istore d12_layCar_41 (by decide) ?_
      refine g_aload_n d12_layCar_43 rfl ?_
      refine g_get fl12_92 d12_layCar_44 f_74_40 ?_
      refine g_iload d12_layCar_47 rfl ?_
      refine g_aload_n d12_layCar_49 rfl ?_
      refine g_iload_n d12_layCar_50 rfl ?_
      refine g_iload d12_layCar_51 rfl ?_
      refine g_iload_n d12_layCar_53 rfl ?_
      refine g_XV3 vm12_isSpared ml12_412 c_74 (r12_isSpared s (k + 1) c fr (by omega) (by omega) hc6 hq0 hs1 lf ha2 ho2 (Nat.le_refl 4)) (by omega) (Nat.le_of_ble_eq_true rfl) d12_layCar_54 (fun x hx => ?_)
      obtain ⟨I3, L3⟩ := x
      dsimp only
      refine g_topI (if spB lf (cEn I c fr s (k + 1)) = true then 1 else 0) (by show (if spB lf (cEn I2 c fr s (k + 1)) = true then (1 : Int32) else 0) = _; rw [hE]) ?_
      refine g_zastN (((13 * s) + (k + 1))) _ d12_layCar_57 a_93 (rfl) (by omega) (by decide) (b01 _) t_93 ?_
      refine g_aload_n d12_layCar_58 rfl ?_
      refine g_get fl12_89 d12_layCar_59 f_74_39 ?_
      refine g_iload d12_layCar_62 rfl ?_
      refine g_aload_n d12_layCar_64 rfl ?_
      refine g_get fl12_92 d12_layCar_65 f_74_40 ?_
      refine g_iload d12_layCar_68 rfl ?_
      refine g_zaldN (((13 * s) + (k + 1))) d12_layCar_70 a_93 (rfl) (by omega) (by decide) ?_
      refine g_topI ((if spB lf (cEn I c fr s (k + 1)) = true then 1 else 0)) (by rw [uI_ss]) ?_
      refine g_iz_eq 0 78 (by rw [if_neg hsp]; rfl) d12_layCar_71 rfl (fun _ => ?_) (fun c71 => absurd c71 (by decide))
      refine g_aload_n d12_layCar_78 rfl ?_
      refine g_iload_n d12_layCar_79 rfl ?_
      refine g_iload d12_layCar_80 rfl ?_
      refine g_iload_n d12_layCar_82 rfl ?_
      refine g_iload_n d12_layCar_83 rfl ?_
      refine g_XV4 vm12_finesOf ml12_409 c_74 (r12_finesOf s (k + 1) c fr (by omega) (by omega) hc6 (by exact (congrFun (hx.1 76 (by decide)) _).trans hq0) hs1 fine (by omega) lf (askd.sf hx ha2 |>.of (by exact uI_n (by decide)) (by exact congrFun (uI_n (by decide)) 35)) (by exact (hx.2.1 15 (by decide) (by decide)).trans ho2) (Nat.le_refl 4)) (by omega) (Nat.le_of_ble_eq_true rfl) d12_layCar_84 (fun y hy => ?_)
      obtain ⟨I4, L4⟩ := y
      dsimp only
      have e764 : I3 76 = I 76 := (hx.1 76 (by decide)).trans e76
      have e364 : I3 74 36 = I 74 36 := (hx.2.1 36 (by decide) (by decide)).trans e36
      refine g_topI (nI ((fnv I lf c fr fine) s (k + 1))) (by rw [hfn]; exact congrArg nI (congrArg (fun e => fiF lf e fine) (cEn_of (c := c) (fr := fr) (s := s) (k := k + 1) e764 e364))) ?_
      have hF3 : FR [92, 93] [28, 32] [87, 88, 89, 94] [33, 34] I L I3 L3 := hF.tr (hx.fr.up (by decide) (by decide) (by decide) (by decide))
      have hF4 : FR [92, 93] [28, 32] [87, 88, 89, 94] [33, 34] I L I4 L4 := (hF3.ui (k := 93) (by decide) (by decide)).tr (hy.fr.up (by decide) (by decide) (by decide) (by decide))
      have e94 : L4 94 = L2 94 := (hy.2.2.1 94 (by decide) (by decide) (by decide) (by decide)).trans (hx.2.2.1 94 (by decide) (by decide) (by decide) (by decide))
      have e92 : I4 92 = I2 92 := (hy.1 92 (by decide)).trans ((uI_n (by decide)).trans (hx.1 92 (by decide)))
      have e93 : I4 93 = upd (I2 93) (13 * s + (k + 1)) (if spB lf (cEn I c fr s (k + 1)) = true then 1 else 0) := (hy.1 93 (by decide)).trans (by rw [uI_s, show I3 93 = I2 93 from hx.1 93 (by decide)])
      refine g_iastN (((13 * s) + (k + 1))) _ d12_layCar_87 a_92 (rfl) (by omega) (by decide) t_92 ?_
      refine g_aload_n d12_layCar_88 rfl ?_
      refine g_get fl12_95 d12_layCar_89 f_74_41 ?_
      refine g_iload_n d12_layCar_92 rfl ?_
      refine g_dup2 d12_layCar_93 rfl rfl ?_
      refine g_laldN (s) d12_layCar_94 a_94 (rfl) (by omega) (by decide) ?_
      refine g_topL (lN (mfv cm s0 (fnv I lf c fr fine) s k)) ((by rw [e94]; exact hm)) ?_
      refine g_aload_n d12_layCar_95 rfl ?_
      refine g_get fl12_86 d12_layCar_96 f_74_38 ?_
      refine g_iload d12_layCar_99 rfl ?_
      refine g_laldN (((13 * s) + (k + 1))) d12_layCar_101 a_91 (rfl) (by omega) (by decide) ?_
      refine g_topL (lN (pt fr2 cm s0 s (k + 1))) (((congrFun (hF4.2.2.1 91 (by decide) (by decide)) _).trans hPI)) ?_
      refine g_ldc2 d12_layCar_102 kl12_223 ?_
      refine g_ldiv d12_layCar_105 (by decide) ?_
      refine g_topL (lN (pt fr2 cm s0 s (k + 1) / 10)) (hdiv) ?_
      refine g_aload_n d12_layCar_106 rfl ?_
      refine g_get fl12_83 d12_layCar_107 f_74_37 ?_
      refine g_iload d12_layCar_110 rfl ?_
      refine g_ialdN (((13 * s) + (k + 1))) d12_layCar_112 a_90 (rfl) (by omega) (by decide) ?_
      refine g_topI (nI (cm s (k + 1))) (((congrFun (hF4.1 90 (by decide) (by decide)) _).trans hcI)) ?_
      refine g_i2lN (by omega) d12_layCar_113 ?_
      refine g_lmul d12_layCar_114 ?_
      refine g_topL (lN (pt fr2 cm s0 s (k + 1) / 10 * cm s (k + 1))) (lN_mul _ _) ?_
      refine g_aload_n d12_layCar_115 rfl ?_
      refine g_get fl12_89 d12_layCar_116 f_74_39 ?_
      refine g_iload d12_layCar_119 rfl ?_
      refine g_ialdN (((13 * s) + (k + 1))) d12_layCar_121 a_92 (rfl) (by omega) (by decide) ?_
      refine g_topI (nI ((fnv I lf c fr fine) s (k + 1))) ((by rw [uI_ss])) ?_
      refine g_i2lN (by omega) d12_layCar_122 ?_
      refine g_lmul d12_layCar_123 ?_
      refine g_topL (lN (pt fr2 cm s0 s (k + 1) / 10 * cm s (k + 1) * (fnv I lf c fr fine) s (k + 1))) (lN_mul _ _) ?_
      refine g_ladd d12_layCar_124 ?_
      refine g_topL (lN (mfv cm s0 (fnv I lf c fr fine) s (k + 1))) (lN_add _ _) ?_
      refine g_lastN (s) _ d12_layCar_125 a_94 (rfl) (by omega) (by decide) t_94 ?_
      refine g_iincN d12_layCar_126 rfl (by decide) ?_
      refine g_goto 27 d12_layCar_129 rfl ?_
      refine g_lo [(0, .ref 74), (1, .int (nI (c))), (2, .int (nI (fine))), (3, .int (nI (s))), (4, .int (nI (k + 1 + 1)))] ⟨rfl, rfl, rfl, rfl, rfl, trivial⟩ ?_
      refine ih (k + 1) _ _ (by omega) ((hF4.ui (by decide) (by decide)).ul (by decide) (by decide)) (fun s2 a b => ?_) (fun k2 a b => ?_) (by rw [uL_ss])
      · refine ⟨fun k2 c1 c2 => ?_, ?_⟩
        · rw [uI_s, pk_un (by omega), uI_n (by decide), e92, e93, pk_un (by omega)]
          exact (hR s2 a b).1 k2 c1 c2
        · rw [uL_sn (by omega), e94]; exact (hR s2 a b).2
      · by_cases e : k2 = k + 1
        · subst e
          exact ⟨by rw [uI_ss], by rw [uI_n (by decide), e93, pk_us]⟩
        · rw [uI_s, pk_un (by omega), uI_n (by decide), e92, e93, pk_un (by omega)]
          exact hrow k2 a (by omega)
set_option maxHeartbeats 800000 in
theorem r12_car2L {l : Launch} {K : cK} {d : Nat} {I : wI} {L : wL} {R : wR} {dy : cH} {Q : Option Value → cH → Prop} (lf : lawF) (ha : askd I lf) (ho : I 74 15 = 0) (c fr ti se fl : Nat) (hC : CF I c fr ti se fl) (fine : Nat) (hfi : fine ≤ 99) (cm : Nat → Nat → Nat) (s0 : Nat) (hLC : LC I L cm s0) (hcm : ∀ s k, cm s k ≤ 10) (hd : 5 ≤ d)
    (kk : ∀ (I3 : wI) (L3 : wL), FR [92, 93] [28, 32] [87, 88, 89, 94] [33, 34] I L I3 L3 → LR I3 L3 cm s0 (fnv I lf c fr fine) (fun s k => spB lf (cEn I c fr s k)) fr (ti + 1) → GL l K m12_layCar d 0 0 138 [(0, .ref 74)] [] (hp I3 L3 R dy) Q) :
    ∀ (n s : Nat) (I2 : wI) (L2 : wL), s + n = ti + 1 → fr ≤ s → FR [92, 93] [28, 32] [87, 88, 89, 94] [33, 34] I L I2 L2 → LR I2 L2 cm s0 (fnv I lf c fr fine) (fun s k => spB lf (cEn I c fr s k)) fr s →
    GL l K m12_layCar d 0 0 7 [(0, .ref 74), (1, .int (nI c)), (2, .int (nI fine)), (3, .int (nI s))] [] (hp I2 L2 R dy) Q := by
  obtain ⟨hc6, q0, q1, -, -, hft, ht11, -, -⟩ := id hC
  intro n
  induction n with
  | zero =>
    intro s I2 L2 hs hs1 hF hR
    obtain rfl : s = ti + 1 := by omega
    refine g_iload_n d12_layCar_7 rfl ?_
    refine g_aload_n d12_layCar_8 rfl ?_
    refine g_iload_n d12_layCar_9 rfl ?_
    refine g_iconstv (nI 1) d12_layCar_10 rfl ?_
    refine g_EV2 vm12_ofCar ml12_167 c_74 (r12_ofCar (c) (1) (by omega) (by omega) (Nat.le_refl 0)) (by omega) (Nat.le_of_ble_eq_true rfl) d12_layCar_11 ?_
    refine g_topI (nI ti) ((congrFun (hF.1 76 (by decide) (by decide)) _).trans q1) ?_
    refine g_ic_gt (((ti + 1) : Nat) : Int) ((ti : Nat) : Int) 138 (nI_ti (by omega)) (nI_ti (by omega)) d12_layCar_14 rfl (fun _ => ?_) (fun c14 => absurd c14 (by omega))
    refine g_lo [(0, .ref 74)] ⟨rfl, trivial⟩ ?_
    exact kk I2 L2 hF hR
  | succ n ih =>
    intro s I2 L2 hs hs1 hF hR
    refine g_iload_n d12_layCar_7 rfl ?_
    refine g_aload_n d12_layCar_8 rfl ?_
    refine g_iload_n d12_layCar_9 rfl ?_
    refine g_iconstv (nI 1) d12_layCar_10 rfl ?_
    refine g_EV2 vm12_ofCar ml12_167 c_74 (r12_ofCar (c) (1) (by omega) (by omega) (Nat.le_refl 0)) (by omega) (Nat.le_of_ble_eq_true rfl) d12_layCar_11 ?_
    refine g_topI (nI ti) ((congrFun (hF.1 76 (by decide) (by decide)) _).trans q1) ?_
    refine g_ic_gt ((s : Nat) : Int) ((ti : Nat) : Int) 138 (nI_ti (by omega)) (nI_ti (by omega)) d12_layCar_14 rfl (fun c14 => absurd c14 (by omega)) (fun _ => ?_)
    refine g_aload_n d12_layCar_17 rfl ?_
    refine g_get fl12_95 d12_layCar_18 f_74_41 ?_
    refine g_iload_n d12_layCar_21 rfl ?_
    refine g_lconstv (0) d12_layCar_22 rfl ?_
    refine g_lastN (s) _ d12_layCar_23 a_94 (rfl) (by omega) (by decide) t_94 ?_
    refine g_iconstv (nI 1) d12_layCar_24 rfl ?_
    refine g_istore d12_layCar_25 (by decide) ?_
    refine g_lo [(0, .ref 74), (1, .int (nI (c))), (2, .int (nI (fine))), (3, .int (nI (s))), (4, .int (nI (0 + 1)))] ⟨rfl, rfl, rfl, rfl, rfl, trivial⟩ ?_
    refine r12_car1L lf ha ho c fr ti se fl hC fine hfi cm s0 hLC hcm hd s hs1 (by omega) (fun I3 L3 hF3 hR3 => ?_) 12 0 I2 _ (by omega) (hF.ul (by decide) (by decide)) (fun s2 a b => ?_) (fun k2 a b => by omega) (by rw [uL_ss]; rfl)
    rotate_left
    · exact ⟨(hR s2 a b).1, by rw [uL_sn (by omega)]; exact (hR s2 a b).2⟩
    refine g_iincN d12_layCar_132 rfl (by decide) ?_
    refine g_goto 7 d12_layCar_135 rfl ?_
    refine g_lo [(0, .ref 74), (1, .int (nI (c))), (2, .int (nI (fine))), (3, .int (nI (s + 1)))] ⟨rfl, rfl, rfl, rfl, trivial⟩ ?_
    exact ih (s + 1) I3 L3 (by omega) (by omega) hF3 hR3
theorem r12_layCar {l : Launch} {K : cK} {d : Nat} {I : wI} {L : wL} {R : wR} {dy : cH} (lf : lawF) (ha : askd I lf) (ho : I 74 15 = 0) (c fr ti se fl : Nat) (hC : CF I c fr ti se fl) (fine : Nat) (hfi : fine ≤ 99) (cm : Nat → Nat → Nat) (s0 : Nat) (hLC : LC I L cm s0) (hcm : ∀ s k, cm s k ≤ 10) (hd : 5 ≤ d) : CW l K m12_layCar d [.ref 74, .int (nI c), .int (nI fine)] (hp I L R dy) (α := wI × wL) (fun x => FR [92, 93] [28, 32] [87, 88, 89, 94] [33, 34] I L x.1 x.2 ∧ LR x.1 x.2 cm s0 (fnv I lf c fr fine) (fun s k => spB lf (cEn I c fr s k)) fr (ti + 1)) (fun x => hp x.1 x.2 R dy) := by
  obtain ⟨hc6, q0, q1, -, -, hft, ht11, -, -⟩ := id hC
  refine CC.of ok12_layCar (Nat.le_of_ble_eq_true rfl) ?_
  refine g_aload_n d12_layCar_0 rfl ?_
  refine g_iload_n d12_layCar_1 rfl ?_
  refine g_iconstv (nI 0) d12_layCar_2 rfl ?_
  refine g_EV2 vm12_ofCar ml12_167 c_74 (r12_ofCar (c) (0) (by omega) (by omega) (Nat.le_refl 0)) (by omega) (Nat.le_of_ble_eq_true rfl) d12_layCar_3 ?_
  refine g_topI (nI fr) (q0) ?_
  refine g_istore_n d12_layCar_6 (by decide) ?_
  refine g_lo [(0, .ref 74), (1, .int (nI (c))), (2, .int (nI (fine))), (3, .int (nI (fr)))] ⟨rfl, rfl, rfl, rfl, trivial⟩ ?_
  refine r12_car2L lf ha ho c fr ti se fl hC fine hfi cm s0 hLC hcm hd (fun I3 L3 hF3 hR3 => ?_) (ti + 1 - fr) fr I L (by omega) (Nat.le_refl _) FR.rf (fun s a b => by omega)
  exact g_vret rfl d12_layCar_138 (⟨(I3, L3), ⟨hF3, hR3⟩, rfl, rfl⟩)
def pdb (per left coins : Nat) : Nat := min 12 (left + coins * per)
def prc (coin fr fl s coins : Nat) : Nat := coins * coin + (if 0 < coins ∧ fr < s then fl else 0)
set_option maxHeartbeats 200000 in
theorem r12_paidBy {l : Launch} {K : cK} {d : Nat} {I : wI} {L : wL} {R : wR} {dy : cH} (per left coins : Nat) (hp1 : I 76 7 = nI per) (hp4 : per ≤ 4) (hl : left ≤ 12) (hc : coins ≤ 12) (hd : 1 ≤ d) : CE l K m12_paidBy d [.ref 74, .int (nI left), .int (nI coins)] (hp I L R dy) (.int (nI (pdb per left coins))) (hp I L R dy) := by
  have hm : coins * per ≤ 48 := Nat.le_trans (Nat.mul_le_mul hc hp4) (by decide)
  refine CC.of ok12_paidBy (Nat.le_of_ble_eq_true rfl) ?_
  refine g_iload_n d12_paidBy_0 rfl ?_
  refine g_iload_n d12_paidBy_1 rfl ?_
  refine g_aload_n d12_paidBy_2 rfl ?_
  refine g_iconstv (nI 1) d12_paidBy_3 rfl ?_
  refine g_EV1 vm12_term ml12_378 c_74 (r12_term (1) (by omega) (Nat.le_refl 0)) (by omega) (Nat.le_of_ble_eq_true rfl) d12_paidBy_4 ?_
  refine g_topI (nI per) (hp1) ?_
  refine g_imulN d12_paidBy_7 ?_
  refine g_iaddN d12_paidBy_8 ?_
  refine g_istore_n d12_paidBy_9 (by decide) ?_
  refine g_iload_n d12_paidBy_10 rfl ?_
  refine g_bipushv (nI 12) d12_paidBy_11 rfl ?_
  refine g_ic_le (((left + (coins * per)) : Nat) : Int) (12) 21 (nI_ti (by omega)) (by decide) d12_paidBy_13 rfl (fun c13 => ?_) (fun c13 => ?_)
  · refine g_iload_n d12_paidBy_21 rfl ?_
    exact g_iret rfl d12_paidBy_22 (⟨congrArg (fun z => some (Value.int z)) (congrArg nI (by unfold pdb; omega)), rfl⟩)
  · refine g_bipushv (nI 12) d12_paidBy_16 rfl ?_
    refine g_goto 22 d12_paidBy_18 rfl ?_
    exact g_iret rfl d12_paidBy_22 (⟨congrArg (fun z => some (Value.int z)) (congrArg nI (by unfold pdb; omega)), rfl⟩)
set_option maxHeartbeats 200000 in
theorem r12_price {l : Launch} {K : cK} {d : Nat} {I : wI} {L : wL} {R : wR} {dy : cH} (coin c fr ti se fl s coins : Nat) (hC : CF I c fr ti se fl) (hco : I 76 6 = nI coin) (hc9 : coin ≤ 9) (hs : s ≤ 12) (hcn : coins ≤ 12) (hd : 1 ≤ d) : CE l K m12_price d [.ref 74, .int (nI c), .int (nI s), .int (nI coins)] (hp I L R dy) (.int (nI (prc coin fr fl s coins))) (hp I L R dy) := by
  obtain ⟨hc6, q0, q1, q2, q3, hft, ht11, -, hfl⟩ := hC
  have hm : coins * coin ≤ 108 := Nat.le_trans (Nat.mul_le_mul hcn hc9) (by decide)
  refine CC.of ok12_price (Nat.le_of_ble_eq_true rfl) ?_
  refine g_iload_n d12_price_0 rfl ?_
  refine g_aload_n d12_price_1 rfl ?_
  refine g_iconstv (nI 0) d12_price_2 rfl ?_
  refine g_EV1 vm12_term ml12_378 c_74 (r12_term (0) (by omega) (Nat.le_refl 0)) (by omega) (Nat.le_of_ble_eq_true rfl) d12_price_3 ?_
  refine g_topI (nI coin) (hco) ?_
  refine g_imulN d12_price_6 ?_
  refine g_iload_n d12_price_7 rfl ?_
  refine g_iz_le ((coins : Nat) : Int) 30 (nI_ti (by omega)) d12_price_8 rfl (fun c8 => ?_) (fun c8 => ?_)
  · refine g_iconstv (nI 0) d12_price_30 rfl ?_
    refine g_iaddN d12_price_31 ?_
    exact g_iret rfl d12_price_32 (⟨congrArg (fun z => some (Value.int z)) (congrArg nI (by unfold prc; first | rw [if_pos (by omega)] | rw [if_neg (by omega)])), rfl⟩)
  · refine g_iload_n d12_price_11 rfl ?_
    refine g_aload_n d12_price_12 rfl ?_
    refine g_iload_n d12_price_13 rfl ?_
    refine g_iconstv (nI 0) d12_price_14 rfl ?_
    refine g_EV2 vm12_ofCar ml12_167 c_74 (r12_ofCar (c) (0) (by omega) (by omega) (Nat.le_refl 0)) (by omega) (Nat.le_of_ble_eq_true rfl) d12_price_15 ?_
    refine g_topI (nI fr) (q0) ?_
    refine g_ic_le ((s : Nat) : Int) ((fr : Nat) : Int) 30 (nI_ti (by omega)) (nI_ti (by omega)) d12_price_18 rfl (fun c18 => ?_) (fun c18 => ?_)
    · refine g_iconstv (nI 0) d12_price_30 rfl ?_
      refine g_iaddN d12_price_31 ?_
      exact g_iret rfl d12_price_32 (⟨congrArg (fun z => some (Value.int z)) (congrArg nI (by unfold prc; first | rw [if_pos (by omega)] | rw [if_neg (by omega)])), rfl⟩)
    · refine g_aload_n d12_price_21 rfl ?_
      refine g_iload_n d12_price_22 rfl ?_
      refine g_iconstv (nI 3) d12_price_23 rfl ?_
      refine g_EV2 vm12_ofCar ml12_167 c_74 (r12_ofCar (c) (3) (by omega) (by omega) (Nat.le_refl 0)) (by omega) (Nat.le_of_ble_eq_true rfl) d12_price_24 ?_
      refine g_topI (nI fl) (q3) ?_
      refine g_goto 31 d12_price_27 rfl ?_
      refine g_iaddN d12_price_31 ?_
      exact g_iret rfl d12_price_32 (⟨congrArg (fun z => some (Value.int z)) (congrArg nI (by unfold prc; first | rw [if_pos (by omega)] | rw [if_neg (by omega)])), rfl⟩)
def sI (f : Nat → Nat) (a : Nat) : Nat → Nat
  | 0 => 0
  | m + 1 => sI f a m + f (a + m)
def co1 (coin per fr ti : Nat) (mf : Nat → Nat) (n : Nat) : Nat := 1000000000000 * n * coin + sI (fun s => if pdb per 0 n ≤ s - fr then mf s else 0) fr (ti + 1 - fr)
set_option maxHeartbeats 400000 in
theorem r12_costL {l : Launch} {K : cK} {d : Nat} {I : wI} {L : wL} {R : wR} {dy : cH} {Q : Option Value → cH → Prop} (c fr ti se fl : Nat) (hC : CF I c fr ti se fl) (mf : Nat → Nat) (hmf : ∀ s, fr ≤ s → s < ti + 1 → L 94 s = lN (mf s)) (A pd : Nat) (hpd : pd ≤ 12) (hd : 1 ≤ d)
    (kk : GL l K m12_costOf d 0 0 73 [(3, .long (lN (A + sI (fun s => if pd ≤ s - fr then mf s else 0) fr (ti + 1 - fr))))] [] (hp I L R dy) Q) :
    ∀ (n m : Nat), m + n = ti + 1 - fr → GL l K m12_costOf d 0 0 30 [(0, .ref 74), (1, .int (nI c)), (3, .long (lN (A + sI (fun s => if pd ≤ s - fr then mf s else 0) fr m))), (5, .int (nI (pd - m))), (6, .int (nI (fr + m)))] [] (hp I L R dy) Q := by
  obtain ⟨hc6, q0, q1, -, -, hft, ht11, -, -⟩ := hC
  intro n
  induction n with
  | zero =>
    intro m hm
    obtain rfl : m = ti + 1 - fr := by omega
    refine g_iload d12_costOf_30 rfl ?_
    refine g_aload_n d12_costOf_32 rfl ?_
    refine g_iload_n d12_costOf_33 rfl ?_
    refine g_iconstv (nI 1) d12_costOf_34 rfl ?_
    refine g_EV2 vm12_ofCar ml12_167 c_74 (r12_ofCar (c) (1) (by omega) (by omega) (Nat.le_refl 0)) (by omega) (Nat.le_of_ble_eq_true rfl) d12_costOf_35 ?_
    refine g_topI (nI ti) (q1) ?_
    refine g_ic_gt (((fr + (ti + 1 - fr)) : Nat) : Int) ((ti : Nat) : Int) 73 (nI_ti (by omega)) (nI_ti (by omega)) d12_costOf_38 rfl (fun _ => ?_) (fun c38 => absurd c38 (by omega))
    refine g_lo [(3, .long (lN (A + sI (fun s => if pd ≤ s - fr then mf s else 0) fr (ti + 1 - fr))))] ⟨rfl, trivial⟩ ?_
    exact kk
  | succ n ih =>
    intro m hm
    by_cases hp0 : pd - m = 0
    · skip
      refine g_iload d12_costOf_30 rfl ?_
      refine g_aload_n d12_costOf_32 rfl ?_
      refine g_iload_n d12_costOf_33 rfl ?_
      refine g_iconstv (nI 1) d12_costOf_34 rfl ?_
      refine g_EV2 vm12_ofCar ml12_167 c_74 (r12_ofCar (c) (1) (by omega) (by omega) (Nat.le_refl 0)) (by omega) (Nat.le_of_ble_eq_true rfl) d12_costOf_35 ?_
      refine g_topI (nI ti) (q1) ?_
      refine g_ic_gt (((fr + m) : Nat) : Int) ((ti : Nat) : Int) 73 (nI_ti (by omega)) (nI_ti (by omega)) d12_costOf_38 rfl (fun c38 => absurd c38 (by omega)) (fun _ => ?_)
      refine g_lload_n d12_costOf_41 rfl ?_
      refine g_iload d12_costOf_42 rfl ?_
      refine g_iz_le (((pd - m) : Nat) : Int) 51 (nI_ti (by omega)) d12_costOf_44 rfl (fun _ => ?_) (fun c44 => absurd c44 (by omega))
      refine g_aload_n d12_costOf_51 rfl ?_
      refine g_get fl12_95 d12_costOf_52 f_74_41 ?_
      refine g_iload d12_costOf_55 rfl ?_
      refine g_laldN ((fr + m)) d12_costOf_57 a_94 (rfl) (by omega) (by decide) ?_
      refine g_topL (lN (mf (fr + m))) (hmf _ (by omega) (by omega)) ?_
      refine g_ladd d12_costOf_58 ?_
      refine g_topL (lN (A + sI (fun s => if pd ≤ s - fr then mf s else 0) fr m + mf (fr + m))) (lN_add _ _) ?_
      refine g_lstore_n d12_costOf_59 (by decide) ?_
      refine g_iload d12_costOf_60 rfl ?_
      refine g_ES1 sm12_less ml12_427 (r12_less ((pd - m)) (by omega) (Nat.le_refl 0)) (by omega) (Nat.le_of_ble_eq_true rfl) d12_costOf_62 ?_
      refine g_istore d12_costOf_65 (by decide) ?_
      refine g_iincN d12_costOf_67 rfl (by decide) ?_
      refine g_goto 30 d12_costOf_70 rfl ?_
      refine g_lo [(0, .ref 74), (1, .int (nI c)), (3, .long (lN (A + sI (fun s => if pd ≤ s - fr then mf s else 0) fr (m + 1)))), (5, .int (nI (pd - (m + 1)))), (6, .int (nI (fr + (m + 1))))] ⟨rfl, rfl, ?_, ?_, rfl, trivial⟩ ?_
      · show some (Value.long (lN (A + sI (fun s => if pd ≤ s - fr then mf s else 0) fr m + mf (fr + m)))) = some (Value.long (lN (A + (sI (fun s => if pd ≤ s - fr then mf s else 0) fr m + (if pd ≤ fr + m - fr then mf (fr + m) else 0)))))
        rw [if_pos (by omega), Nat.add_assoc]
      · show some (Value.int (nI (les (pd - m)))) = some (Value.int (nI (pd - (m + 1))))
        rw [show les (pd - m) = pd - (m + 1) by unfold les; omega]
      · exact ih (m + 1) (by omega)
    · skip
      refine g_iload d12_costOf_30 rfl ?_
      refine g_aload_n d12_costOf_32 rfl ?_
      refine g_iload_n d12_costOf_33 rfl ?_
      refine g_iconstv (nI 1) d12_costOf_34 rfl ?_
      refine g_EV2 vm12_ofCar ml12_167 c_74 (r12_ofCar (c) (1) (by omega) (by omega) (Nat.le_refl 0)) (by omega) (Nat.le_of_ble_eq_true rfl) d12_costOf_35 ?_
      refine g_topI (nI ti) (q1) ?_
      refine g_ic_gt (((fr + m) : Nat) : Int) ((ti : Nat) : Int) 73 (nI_ti (by omega)) (nI_ti (by omega)) d12_costOf_38 rfl (fun c38 => absurd c38 (by omega)) (fun _ => ?_)
      refine g_lload_n d12_costOf_41 rfl ?_
      refine g_iload d12_costOf_42 rfl ?_
      refine g_iz_le (((pd - m) : Nat) : Int) 51 (nI_ti (by omega)) d12_costOf_44 rfl (fun c44 => absurd c44 (by omega)) (fun _ => ?_)
      refine g_lconstv (0) d12_costOf_47 rfl ?_
      refine g_goto 58 d12_costOf_48 rfl ?_
      refine g_ladd d12_costOf_58 ?_
      refine g_topL (lN (A + sI (fun s => if pd ≤ s - fr then mf s else 0) fr m + 0)) (lN_add _ _) ?_
      refine g_lstore_n d12_costOf_59 (by decide) ?_
      refine g_iload d12_costOf_60 rfl ?_
      refine g_ES1 sm12_less ml12_427 (r12_less ((pd - m)) (by omega) (Nat.le_refl 0)) (by omega) (Nat.le_of_ble_eq_true rfl) d12_costOf_62 ?_
      refine g_istore d12_costOf_65 (by decide) ?_
      refine g_iincN d12_costOf_67 rfl (by decide) ?_
      refine g_goto 30 d12_costOf_70 rfl ?_
      refine g_lo [(0, .ref 74), (1, .int (nI c)), (3, .long (lN (A + sI (fun s => if pd ≤ s - fr then mf s else 0) fr (m + 1)))), (5, .int (nI (pd - (m + 1)))), (6, .int (nI (fr + (m + 1))))] ⟨rfl, rfl, ?_, ?_, rfl, trivial⟩ ?_
      · show some (Value.long (lN (A + sI (fun s => if pd ≤ s - fr then mf s else 0) fr m + 0))) = some (Value.long (lN (A + (sI (fun s => if pd ≤ s - fr then mf s else 0) fr m + (if pd ≤ fr + m - fr then mf (fr + m) else 0)))))
        rw [if_neg (by omega), Nat.add_assoc]
      · show some (Value.int (nI (les (pd - m)))) = some (Value.int (nI (pd - (m + 1))))
        rw [show les (pd - m) = pd - (m + 1) by unfold les; omega]
      · exact ih (m + 1) (by omega)
set_option maxHeartbeats 200000 in
theorem r12_costOf {l : Launch} {K : cK} {d : Nat} {I : wI} {L : wL} {R : wR} {dy : cH} (coin per c fr ti se fl n : Nat) (hC : CF I c fr ti se fl) (hco : I 76 6 = nI coin) (hc9 : coin ≤ 9) (hpe : I 76 7 = nI per) (hp4 : per ≤ 4) (hn : n ≤ 12) (mf : Nat → Nat) (hmf : ∀ s, fr ≤ s → s < ti + 1 → L 94 s = lN (mf s)) (hd : 2 ≤ d) : CE l K m12_costOf d [.ref 74, .int (nI c), .int (nI n)] (hp I L R dy) (.long (lN (co1 coin per fr ti mf n))) (hp I L R dy) := by
  obtain ⟨hc6, q0, q1, -, -, hft, ht11, -, -⟩ := id hC
  have hpd : pdb per 0 n ≤ 12 := by unfold pdb; omega
  refine CC.of ok12_costOf (Nat.le_of_ble_eq_true rfl) ?_
  refine g_ldc2 d12_costOf_0 kl12_416 ?_
  refine g_iload_n d12_costOf_3 rfl ?_
  refine g_i2lN (by omega) d12_costOf_4 ?_
  refine g_lmul d12_costOf_5 ?_
  refine g_topL (lN (1000000000000 * n)) (lN_mul _ _) ?_
  refine g_aload_n d12_costOf_6 rfl ?_
  refine g_iconstv (nI 0) d12_costOf_7 rfl ?_
  refine g_EV1 vm12_term ml12_378 c_74 (r12_term (0) (by omega) (Nat.le_refl 0)) (by omega) (Nat.le_of_ble_eq_true rfl) d12_costOf_8 ?_
  refine g_topI (nI coin) (hco) ?_
  refine g_i2lN (by omega) d12_costOf_11 ?_
  refine g_lmul d12_costOf_12 ?_
  refine g_topL (lN (1000000000000 * n * coin)) (lN_mul _ _) ?_
  refine g_lstore_n d12_costOf_13 (by decide) ?_
  refine g_aload_n d12_costOf_14 rfl ?_
  refine g_iconstv (nI 0) d12_costOf_15 rfl ?_
  refine g_iload_n d12_costOf_16 rfl ?_
  refine g_EV2 vm12_paidBy ml12_424 c_74 (r12_paidBy per 0 n (by exact hpe) hp4 (by omega) hn (Nat.le_refl 1)) (by omega) (Nat.le_of_ble_eq_true rfl) d12_costOf_17 ?_
  refine g_istore d12_costOf_20 (by decide) ?_
  refine g_aload_n d12_costOf_22 rfl ?_
  refine g_iload_n d12_costOf_23 rfl ?_
  refine g_iconstv (nI 0) d12_costOf_24 rfl ?_
  refine g_EV2 vm12_ofCar ml12_167 c_74 (r12_ofCar (c) (0) (by omega) (by omega) (Nat.le_refl 0)) (by omega) (Nat.le_of_ble_eq_true rfl) d12_costOf_25 ?_
  refine g_topI (nI fr) (q0) ?_
  refine g_istore d12_costOf_28 (by decide) ?_
  refine g_lo [(0, .ref 74), (1, .int (nI c)), (3, .long (lN (1000000000000 * n * coin + sI (fun s => if pdb per 0 n ≤ s - fr then mf s else 0) fr 0))), (5, .int (nI (pdb per 0 n - 0))), (6, .int (nI (fr + 0)))] ⟨rfl, rfl, rfl, rfl, rfl, trivial⟩ ?_
  refine r12_costL c fr ti se fl hC mf hmf _ _ hpd (by omega) ?_ (ti + 1 - fr) 0 (by omega)
  refine g_lload_n d12_costOf_73 rfl ?_
  exact g_lret rfl d12_costOf_74 ⟨rfl, rfl⟩
