/-- the least of v 0 .. v n: what, the lowest place, how many -/
def fa (v : Nat → Nat) : Nat → Nat × Nat × Nat
  | 0 => (v 0, 0, 1)
  | n + 1 => if v (n + 1) < (fa v n).1 then (v (n + 1), n + 1, 1) else if v (n + 1) = (fa v n).1 then ((fa v n).1, (fa v n).2.1, (fa v n).2.2 + 1) else fa v n
theorem fa_le (v : Nat → Nat) : ∀ n, (fa v n).1 ≤ v 0 ∧ (fa v n).2.1 ≤ n ∧ (fa v n).2.2 ≤ n + 1
  | 0 => ⟨Nat.le_refl _, Nat.le_refl _, Nat.le_refl _⟩
  | n + 1 => by
    have h := fa_le v n
    unfold fa
    split
    · exact ⟨by show v (n + 1) ≤ v 0; omega, Nat.le_refl _, by show 1 ≤ _; omega⟩
    · split
      · exact ⟨h.1, by show (fa v n).2.1 ≤ _; omega, by show (fa v n).2.2 + 1 ≤ _; omega⟩
      · exact ⟨h.1, by omega, by omega⟩
theorem CF.of {I I2 : wI} {c fr ti se fl : Nat} (h : I2 76 = I 76) (hC : CF I c fr ti se fl) : CF I2 c fr ti se fl := by unfold CF; rw [h]; exact hC
set_option maxHeartbeats 800000 in
theorem r12_fafL {l : Launch} {K : cK} {d : Nat} {I : wI} {L : wL} {R : wR} {dy : cH} {Q : Option Value → cH → Prop} (coin per c fr ti se fl : Nat) (hC : CF I c fr ti se fl) (hco : I 76 6 = nI coin) (hc9 : coin ≤ 9) (hpe : I 76 7 = nI per) (hp4 : per ≤ 4) (mf : Nat → Nat) (hmf : ∀ s, fr ≤ s → s < ti + 1 → L 94 s = lN (mf s)) (hbig : ∀ n, n ≤ 12 → co1 coin per fr ti mf n < 4000000000000000000) (hd : 3 ≤ d)
    (kk : ∀ (I3 : wI) (L3 : wL), FR [] [43, 44] [] [42] I L I3 L3 → (I3 74 43 = nI (fa (co1 coin per fr ti mf) 12).2.1 ∧ I3 74 44 = nI (fa (co1 coin per fr ti mf) 12).2.2 ∧ L3 74 42 = lN (fa (co1 coin per fr ti mf) 12).1) → GL l K m12_findAtFirst d 0 0 109 [(0, .ref 74)] [] (hp I3 L3 R dy) Q) :
    ∀ (n m : Nat) (I2 : wI) (L2 : wL), m + n = 12 → FR [] [43, 44] [] [42] I L I2 L2 → (I2 74 43 = nI (fa (co1 coin per fr ti mf) m).2.1 ∧ I2 74 44 = nI (fa (co1 coin per fr ti mf) m).2.2 ∧ L2 74 42 = lN (fa (co1 coin per fr ti mf) m).1) →
    GL l K m12_findAtFirst d 0 0 9 [(0, .ref 74), (1, .int (nI c)), (2, .int (nI (m + 1)))] [] (hp I2 L2 R dy) Q := by
  intro n
  induction n with
  | zero =>
    intro m I2 L2 hm hF hst
    obtain rfl : m = 12 := by omega
    refine g_iload_n d12_findAtFirst_9 rfl ?_
    refine g_bipushv (nI 12) d12_findAtFirst_10 rfl ?_
    refine g_ic_gt (((12 + 1) : Nat) : Int) (12) 109 (nI_ti (by omega)) (by decide) d12_findAtFirst_12 rfl (fun _ => ?_) (fun c12 => absurd c12 (by decide))
    refine g_lo [(0, .ref 74)] ⟨rfl, trivial⟩ ?_
    exact kk I2 L2 hF hst
  | succ n ih =>
    intro m I2 L2 hm hF hst
    obtain ⟨h43, h44, h42⟩ := hst
    have hle := fa_le (co1 coin per fr ti mf) m
    have hb0 := hbig 0 (by omega)
    have hb1 := hbig (m + 1) (by omega)
    by_cases hv : (co1 coin per fr ti mf) (m + 1) < (fa (co1 coin per fr ti mf) m).1
    · have hfa : fa (co1 coin per fr ti mf) (m + 1) = ((co1 coin per fr ti mf) (m + 1), m + 1, 1) := by show (if _ then _ else _) = _; rw [if_pos hv]
      refine g_iload_n d12_findAtFirst_9 rfl ?_
      refine g_bipushv (nI 12) d12_findAtFirst_10 rfl ?_
      refine g_ic_gt (((m + 1) : Nat) : Int) (12) 109 (nI_ti (by omega)) (by decide) d12_findAtFirst_12 rfl (fun c12 => absurd c12 (by omega)) (fun _ => ?_)
      refine g_aload_n d12_findAtFirst_15 rfl ?_
      refine g_iload_n d12_findAtFirst_16 rfl ?_
      refine g_iload_n d12_findAtFirst_17 rfl ?_
      refine g_EV2 vm12_costOf ml12_436 c_74 (r12_costOf coin per c fr ti se fl (m + 1) (hC.of (hF.1 76 (by decide) (by decide))) (by exact (congrFun (hF.1 76 (by decide) (by decide)) 6).trans hco) hc9 (by exact (congrFun (hF.1 76 (by decide) (by decide)) 7).trans hpe) hp4 (by omega) mf (by rw [hF.2.2.1 94 (by decide) (by decide)]; exact hmf) (Nat.le_refl 2)) (by omega) (Nat.le_of_ble_eq_true rfl) d12_findAtFirst_18 ?_
      refine g_lstore_n d12_findAtFirst_21 (by decide) ?_
      refine g_aload_n d12_findAtFirst_22 rfl ?_
      refine g_lload_n d12_findAtFirst_23 rfl ?_
      refine g_aload_n d12_findAtFirst_24 rfl ?_
      refine g_get fl12_442 d12_findAtFirst_25 f_74_42 ?_
      refine g_topL (lN ((fa (co1 coin per fr ti mf) m).1)) (h42) ?_
      refine g_lx_ge (((co1 coin per fr ti mf) (m + 1) : Nat) : Int) (((fa (co1 coin per fr ti mf) m).1 : Nat) : Int) 36 (pk_lT (by omega)) (pk_lT (by omega)) d12_findAtFirst_28 d12_findAtFirst_29 rfl (fun c28 => absurd c28 (by omega)) (fun _ => ?_)
      refine g_iconstv (nI 1) d12_findAtFirst_32 rfl ?_
      refine g_goto 58 d12_findAtFirst_33 rfl ?_
      refine g_putIh _ fl12_445 d12_findAtFirst_58 f_74_44 s_74_44 ?_
      refine g_aload_n d12_findAtFirst_61 rfl ?_
      refine g_lload_n d12_findAtFirst_62 rfl ?_
      refine g_aload_n d12_findAtFirst_63 rfl ?_
      refine g_get fl12_442 d12_findAtFirst_64 f_74_42 ?_
      refine g_topL (lN ((fa (co1 coin per fr ti mf) m).1)) (h42) ?_
      refine g_lx_ge (((co1 coin per fr ti mf) (m + 1) : Nat) : Int) (((fa (co1 coin per fr ti mf) m).1 : Nat) : Int) 75 (pk_lT (by omega)) (pk_lT (by omega)) d12_findAtFirst_67 d12_findAtFirst_68 rfl (fun c67 => absurd c67 (by omega)) (fun _ => ?_)
      refine g_iload_n d12_findAtFirst_71 rfl ?_
      refine g_goto 79 d12_findAtFirst_72 rfl ?_
      refine g_putIh _ fl12_448 d12_findAtFirst_79 f_74_43 s_74_43 ?_
      refine g_aload_n d12_findAtFirst_82 rfl ?_
      refine g_lload_n d12_findAtFirst_83 rfl ?_
      refine g_aload_n d12_findAtFirst_84 rfl ?_
      refine g_get fl12_442 d12_findAtFirst_85 f_74_42 ?_
      refine g_topL (lN ((fa (co1 coin per fr ti mf) m).1)) (h42) ?_
      refine g_lx_ge (((co1 coin per fr ti mf) (m + 1) : Nat) : Int) (((fa (co1 coin per fr ti mf) m).1 : Nat) : Int) 96 (pk_lT (by omega)) (pk_lT (by omega)) d12_findAtFirst_88 d12_findAtFirst_89 rfl (fun c88 => absurd c88 (by omega)) (fun _ => ?_)
      refine g_lload_n d12_findAtFirst_92 rfl ?_
      refine g_goto 100 d12_findAtFirst_93 rfl ?_
      refine g_putLh _ fl12_442 d12_findAtFirst_100 f_74_42 s_74_42 ?_
      refine g_iincN d12_findAtFirst_103 rfl (by decide) ?_
      refine g_goto 9 d12_findAtFirst_106 rfl ?_
      refine g_lo [(0, .ref 74), (1, .int (nI (c))), (2, .int (nI (m + 1 + 1)))] ⟨rfl, rfl, rfl, trivial⟩ ?_
      refine ih (m + 1) _ _ (by omega) (((hF.uf (by decide)).uf (by decide)).ug (by decide)) ⟨?_, ?_, ?_⟩
      · rw [hfa, uI_ss]
      · rw [hfa, uI_sn (by decide), uI_ss]
      · rw [hfa, uL_ss]
    · by_cases hv2 : (co1 coin per fr ti mf) (m + 1) = (fa (co1 coin per fr ti mf) m).1
      · have hfa : fa (co1 coin per fr ti mf) (m + 1) = ((fa (co1 coin per fr ti mf) m).1, (fa (co1 coin per fr ti mf) m).2.1, (fa (co1 coin per fr ti mf) m).2.2 + 1) := by show (if _ then _ else _) = _; rw [if_neg hv, if_pos hv2]
        refine g_iload_n d12_findAtFirst_9 rfl ?_
        refine g_bipushv (nI 12) d12_findAtFirst_10 rfl ?_
        refine g_ic_gt (((m + 1) : Nat) : Int) (12) 109 (nI_ti (by omega)) (by decide) d12_findAtFirst_12 rfl (fun c12 => absurd c12 (by omega)) (fun _ => ?_)
        refine g_aload_n d12_findAtFirst_15 rfl ?_
        refine g_iload_n d12_findAtFirst_16 rfl ?_
        refine g_iload_n d12_findAtFirst_17 rfl ?_
        refine g_EV2 vm12_costOf ml12_436 c_74 (r12_costOf coin per c fr ti se fl (m + 1) (hC.of (hF.1 76 (by decide) (by decide))) (by exact (congrFun (hF.1 76 (by decide) (by decide)) 6).trans hco) hc9 (by exact (congrFun (hF.1 76 (by decide) (by decide)) 7).trans hpe) hp4 (by omega) mf (by rw [hF.2.2.1 94 (by decide) (by decide)]; exact hmf) (Nat.le_refl 2)) (by omega) (Nat.le_of_ble_eq_true rfl) d12_findAtFirst_18 ?_
        refine g_lstore_n d12_findAtFirst_21 (by decide) ?_
        refine g_aload_n d12_findAtFirst_22 rfl ?_
        refine g_lload_n d12_findAtFirst_23 rfl ?_
        refine g_aload_n d12_findAtFirst_24 rfl ?_
        refine g_get fl12_442 d12_findAtFirst_25 f_74_42 ?_
        refine g_topL (lN ((fa (co1 coin per fr ti mf) m).1)) (h42) ?_
        refine g_lx_ge (((co1 coin per fr ti mf) (m + 1) : Nat) : Int) (((fa (co1 coin per fr ti mf) m).1 : Nat) : Int) 36 (pk_lT (by omega)) (pk_lT (by omega)) d12_findAtFirst_28 d12_findAtFirst_29 rfl (fun _ => ?_) (fun c28 => absurd c28 (by omega))
        refine g_lload_n d12_findAtFirst_36 rfl ?_
        refine g_aload_n d12_findAtFirst_37 rfl ?_
        refine g_get fl12_442 d12_findAtFirst_38 f_74_42 ?_
        refine g_topL (lN ((fa (co1 coin per fr ti mf) m).1)) (h42) ?_
        refine g_lx_ne (((co1 coin per fr ti mf) (m + 1) : Nat) : Int) (((fa (co1 coin per fr ti mf) m).1 : Nat) : Int) 54 (pk_lT (by omega)) (pk_lT (by omega)) d12_findAtFirst_41 d12_findAtFirst_42 rfl (fun c41 => absurd c41 (by omega)) (fun _ => ?_)
        refine g_aload_n d12_findAtFirst_45 rfl ?_
        refine g_get fl12_445 d12_findAtFirst_46 f_74_44 ?_
        refine g_topI (nI (fa (co1 coin per fr ti mf) m).2.2) (h44) ?_
        refine g_iconstv (nI 1) d12_findAtFirst_49 rfl ?_
        refine g_iaddN d12_findAtFirst_50 ?_
        refine g_goto 58 d12_findAtFirst_51 rfl ?_
        refine g_putIh _ fl12_445 d12_findAtFirst_58 f_74_44 s_74_44 ?_
        refine g_aload_n d12_findAtFirst_61 rfl ?_
        refine g_lload_n d12_findAtFirst_62 rfl ?_
        refine g_aload_n d12_findAtFirst_63 rfl ?_
        refine g_get fl12_442 d12_findAtFirst_64 f_74_42 ?_
        refine g_topL (lN ((fa (co1 coin per fr ti mf) m).1)) (h42) ?_
        refine g_lx_ge (((co1 coin per fr ti mf) (m + 1) : Nat) : Int) (((fa (co1 coin per fr ti mf) m).1 : Nat) : Int) 75 (pk_lT (by omega)) (pk_lT (by omega)) d12_findAtFirst_67 d12_findAtFirst_68 rfl (fun _ => ?_) (fun c67 => absurd c67 (by omega))
        refine g_aload_n d12_findAtFirst_75 rfl ?_
        refine g_get fl12_448 d12_findAtFirst_76 f_74_43 ?_
        refine g_topI (nI (fa (co1 coin per fr ti mf) m).2.1) (h43) ?_
        refine g_putIh _ fl12_448 d12_findAtFirst_79 f_74_43 s_74_43 ?_
        refine g_aload_n d12_findAtFirst_82 rfl ?_
        refine g_lload_n d12_findAtFirst_83 rfl ?_
        refine g_aload_n d12_findAtFirst_84 rfl ?_
        refine g_get fl12_442 d12_findAtFirst_85 f_74_42 ?_
        refine g_topL (lN ((fa (co1 coin per fr ti mf) m).1)) (h42) ?_
        refine g_lx_ge (((co1 coin per fr ti mf) (m + 1) : Nat) : Int) (((fa (co1 coin per fr ti mf) m).1 : Nat) : Int) 96 (pk_lT (by omega)) (pk_lT (by omega)) d12_findAtFirst_88 d12_findAtFirst_89 rfl (fun _ => ?_) (fun c88 => absurd c88 (by omega))
        refine g_aload_n d12_findAtFirst_96 rfl ?_
        refine g_get fl12_442 d12_findAtFirst_97 f_74_42 ?_
        refine g_topL (lN ((fa (co1 coin per fr ti mf) m).1)) (h42) ?_
        refine g_putLh _ fl12_442 d12_findAtFirst_100 f_74_42 s_74_42 ?_
        refine g_iincN d12_findAtFirst_103 rfl (by decide) ?_
        refine g_goto 9 d12_findAtFirst_106 rfl ?_
        refine g_lo [(0, .ref 74), (1, .int (nI (c))), (2, .int (nI (m + 1 + 1)))] ⟨rfl, rfl, rfl, trivial⟩ ?_
        refine ih (m + 1) _ _ (by omega) (((hF.uf (by decide)).uf (by decide)).ug (by decide)) ⟨?_, ?_, ?_⟩
        · rw [hfa, uI_ss]
        · rw [hfa, uI_sn (by decide), uI_ss]
        · rw [hfa, uL_ss]
      · have hfa : fa (co1 coin per fr ti mf) (m + 1) = fa (co1 coin per fr ti mf) m := by show (if _ then _ else _) = _; rw [if_neg hv, if_neg hv2]
        refine g_iload_n d12_findAtFirst_9 rfl ?_
        refine g_bipushv (nI 12) d12_findAtFirst_10 rfl ?_
        refine g_ic_gt (((m + 1) : Nat) : Int) (12) 109 (nI_ti (by omega)) (by decide) d12_findAtFirst_12 rfl (fun c12 => absurd c12 (by omega)) (fun _ => ?_)
        refine g_aload_n d12_findAtFirst_15 rfl ?_
        refine g_iload_n d12_findAtFirst_16 rfl ?_
        refine g_iload_n d12_findAtFirst_17 rfl ?_
        refine g_EV2 vm12_costOf ml12_436 c_74 (r12_costOf coin per c fr ti se fl (m + 1) (hC.of (hF.1 76 (by decide) (by decide))) (by exact (congrFun (hF.1 76 (by decide) (by decide)) 6).trans hco) hc9 (by exact (congrFun (hF.1 76 (by decide) (by decide)) 7).trans hpe) hp4 (by omega) mf (by rw [hF.2.2.1 94 (by decide) (by decide)]; exact hmf) (Nat.le_refl 2)) (by omega) (Nat.le_of_ble_eq_true rfl) d12_findAtFirst_18 ?_
        refine g_lstore_n d12_findAtFirst_21 (by decide) ?_
        refine g_aload_n d12_findAtFirst_22 rfl ?_
        refine g_lload_n d12_findAtFirst_23 rfl ?_
        refine g_aload_n d12_findAtFirst_24 rfl ?_
        refine g_get fl12_442 d12_findAtFirst_25 f_74_42 ?_
        refine g_topL (lN ((fa (co1 coin per fr ti mf) m).1)) (h42) ?_
        refine g_lx_ge (((co1 coin per fr ti mf) (m + 1) : Nat) : Int) (((fa (co1 coin per fr ti mf) m).1 : Nat) : Int) 36 (pk_lT (by omega)) (pk_lT (by omega)) d12_findAtFirst_28 d12_findAtFirst_29 rfl (fun _ => ?_) (fun c28 => absurd c28 (by omega))
        refine g_lload_n d12_findAtFirst_36 rfl ?_
        refine g_aload_n d12_findAtFirst_37 rfl ?_
        refine g_get fl12_442 d12_findAtFirst_38 f_74_42 ?_
        refine g_topL (lN ((fa (co1 coin per fr ti mf) m).1)) (h42) ?_
        refine g_lx_ne (((co1 coin per fr ti mf) (m + 1) : Nat) : Int) (((fa (co1 coin per fr ti mf) m).1 : Nat) : Int) 54 (pk_lT (by omega)) (pk_lT (by omega)) d12_findAtFirst_41 d12_findAtFirst_42 rfl (fun _ => ?_) (fun c41 => absurd c41 (by omega))
        refine g_aload_n d12_findAtFirst_54 rfl ?_
        refine g_get fl12_445 d12_findAtFirst_55 f_74_44 ?_
        refine g_topI (nI (fa (co1 coin per fr ti mf) m).2.2) (h44) ?_
        refine g_putIh _ fl12_445 d12_findAtFirst_58 f_74_44 s_74_44 ?_
        refine g_aload_n d12_findAtFirst_61 rfl ?_
        refine g_lload_n d12_findAtFirst_62 rfl ?_
        refine g_aload_n d12_findAtFirst_63 rfl ?_
        refine g_get fl12_442 d12_findAtFirst_64 f_74_42 ?_
        refine g_topL (lN ((fa (co1 coin per fr ti mf) m).1)) (h42) ?_
        refine g_lx_ge (((co1 coin per fr ti mf) (m + 1) : Nat) : Int) (((fa (co1 coin per fr ti mf) m).1 : Nat) : Int) 75 (pk_lT (by omega)) (pk_lT (by omega)) d12_findAtFirst_67 d12_findAtFirst_68 rfl (fun _ => ?_) (fun c67 => absurd c67 (by omega))
        refine g_aload_n d12_findAtFirst_75 rfl ?_
        refine g_get fl12_448 d12_findAtFirst_76 f_74_43 ?_
        refine g_topI (nI (fa (co1 coin per fr ti mf) m).2.1) (h43) ?_
        refine g_putIh _ fl12_448 d12_findAtFirst_79 f_74_43 s_74_43 ?_
        refine g_aload_n d12_findAtFirst_82 rfl ?_
        refine g_lload_n d12_findAtFirst_83 rfl ?_
        refine g_aload_n d12_findAtFirst_84 rfl ?_
        refine g_get fl12_442 d12_findAtFirst_85 f_74_42 ?_
        refine g_topL (lN ((fa (co1 coin per fr ti mf) m).1)) (h42) ?_
        refine g_lx_ge (((co1 coin per fr ti mf) (m + 1) : Nat) : Int) (((fa (co1 coin per fr ti mf) m).1 : Nat) : Int) 96 (pk_lT (by omega)) (pk_lT (by omega)) d12_findAtFirst_88 d12_findAtFirst_89 rfl (fun _ => ?_) (fun c88 => absurd c88 (by omega))
        refine g_aload_n d12_findAtFirst_96 rfl ?_
        refine g_get fl12_442 d12_findAtFirst_97 f_74_42 ?_
        refine g_topL (lN ((fa (co1 coin per fr ti mf) m).1)) (h42) ?_
        refine g_putLh _ fl12_442 d12_findAtFirst_100 f_74_42 s_74_42 ?_
        refine g_iincN d12_findAtFirst_103 rfl (by decide) ?_
        refine g_goto 9 d12_findAtFirst_106 rfl ?_
        refine g_lo [(0, .ref 74), (1, .int (nI (c))), (2, .int (nI (m + 1 + 1)))] ⟨rfl, rfl, rfl, trivial⟩ ?_
        refine ih (m + 1) _ _ (by omega) (((hF.uf (by decide)).uf (by decide)).ug (by decide)) ⟨?_, ?_, ?_⟩
        · rw [hfa, uI_ss]
        · rw [hfa, uI_sn (by decide), uI_ss]
        · rw [hfa, uL_ss]
theorem r12_findAtFirst {l : Launch} {K : cK} {d : Nat} {I : wI} {L : wL} {R : wR} {dy : cH} (coin per c fr ti se fl : Nat) (hC : CF I c fr ti se fl) (hco : I 76 6 = nI coin) (hc9 : coin ≤ 9) (hpe : I 76 7 = nI per) (hp4 : per ≤ 4) (mf : Nat → Nat) (hmf : ∀ s, fr ≤ s → s < ti + 1 → L 94 s = lN (mf s)) (hbig : ∀ n, n ≤ 12 → co1 coin per fr ti mf n < 4000000000000000000) (hd : 3 ≤ d) : CW l K m12_findAtFirst d [.ref 74, .int (nI c)] (hp I L R dy) (α := wI × wL) (fun x => FR [] [43, 44] [] [42] I L x.1 x.2 ∧ x.1 74 43 = nI (fa (co1 coin per fr ti mf) 12).2.1 ∧ x.1 74 44 = nI (fa (co1 coin per fr ti mf) 12).2.2 ∧ x.2 74 42 = lN (fa (co1 coin per fr ti mf) 12).1) (fun x => hp x.1 x.2 R dy) := by
  refine CC.of ok12_findAtFirst (Nat.le_of_ble_eq_true rfl) ?_
  have hb0 := hbig 0 (by omega)
  refine g_aload_n d12_findAtFirst_0 rfl ?_
  refine g_ldc2 d12_findAtFirst_1 kl12_440 ?_
  refine g_putLh _ fl12_442 d12_findAtFirst_4 f_74_42 s_74_42 ?_
  refine g_iconstv (nI 0) d12_findAtFirst_7 rfl ?_
  refine g_istore_n d12_findAtFirst_8 (by decide) ?_
  have hF : FR [] [43, 44] [] [42] I L I (uL L 74 42 4000000000000000000) := FR.rf.ug (by decide)
  have h42 : uL L 74 42 4000000000000000000 74 42 = lN 4000000000000000000 := uL_ss
  refine g_iload_n d12_findAtFirst_9 rfl ?_
  refine g_bipushv (nI 12) d12_findAtFirst_10 rfl ?_
  refine g_ic_gt (0) (12) 109 (by decide) (by decide) d12_findAtFirst_12 rfl (fun c12 => absurd c12 (by decide)) (fun _ => ?_)
  refine g_aload_n d12_findAtFirst_15 rfl ?_
  refine g_iload_n d12_findAtFirst_16 rfl ?_
  refine g_iload_n d12_findAtFirst_17 rfl ?_
  refine g_EV2 vm12_costOf ml12_436 c_74 (r12_costOf coin per c fr ti se fl (0) (hC.of (hF.1 76 (by decide) (by decide))) (by exact (congrFun (hF.1 76 (by decide) (by decide)) 6).trans hco) hc9 (by exact (congrFun (hF.1 76 (by decide) (by decide)) 7).trans hpe) hp4 (by omega) mf (by rw [hF.2.2.1 94 (by decide) (by decide)]; exact hmf) (Nat.le_refl 2)) (by omega) (Nat.le_of_ble_eq_true rfl) d12_findAtFirst_18 ?_
  refine g_lstore_n d12_findAtFirst_21 (by decide) ?_
  refine g_aload_n d12_findAtFirst_22 rfl ?_
  refine g_lload_n d12_findAtFirst_23 rfl ?_
  refine g_aload_n d12_findAtFirst_24 rfl ?_
  refine g_get fl12_442 d12_findAtFirst_25 f_74_42 ?_
  refine g_topL (lN (4000000000000000000)) (h42) ?_
  refine g_lx_ge (((co1 coin per fr ti mf) (0) : Nat) : Int) ((4000000000000000000 : Nat) : Int) 36 (pk_lT (by omega)) (pk_lT (by omega)) d12_findAtFirst_28 d12_findAtFirst_29 rfl (fun c28 => absurd c28 (by omega)) (fun _ => ?_)
  refine g_iconstv (nI 1) d12_findAtFirst_32 rfl ?_
  refine g_goto 58 d12_findAtFirst_33 rfl ?_
  refine g_putIh _ fl12_445 d12_findAtFirst_58 f_74_44 s_74_44 ?_
  refine g_aload_n d12_findAtFirst_61 rfl ?_
  refine g_lload_n d12_findAtFirst_62 rfl ?_
  refine g_aload_n d12_findAtFirst_63 rfl ?_
  refine g_get fl12_442 d12_findAtFirst_64 f_74_42 ?_
  refine g_topL (lN (4000000000000000000)) (h42) ?_
  refine g_lx_ge (((co1 coin per fr ti mf) (0) : Nat) : Int) ((4000000000000000000 : Nat) : Int) 75 (pk_lT (by omega)) (pk_lT (by omega)) d12_findAtFirst_67 d12_findAtFirst_68 rfl (fun c67 => absurd c67 (by omega)) (fun _ => ?_)
  refine g_iload_n d12_findAtFirst_71 rfl ?_
  refine g_goto 79 d12_findAtFirst_72 rfl ?_
  refine g_putIh _ fl12_448 d12_findAtFirst_79 f_74_43 s_74_43 ?_
  refine g_aload_n d12_findAtFirst_82 rfl ?_
  refine g_lload_n d12_findAtFirst_83 rfl ?_
  refine g_aload_n d12_findAtFirst_84 rfl ?_
  refine g_get fl12_442 d12_findAtFirst_85 f_74_42 ?_
  refine g_topL (lN (4000000000000000000)) (h42) ?_
  refine g_lx_ge (((co1 coin per fr ti mf) (0) : Nat) : Int) ((4000000000000000000 : Nat) : Int) 96 (pk_lT (by omega)) (pk_lT (by omega)) d12_findAtFirst_88 d12_findAtFirst_89 rfl (fun c88 => absurd c88 (by omega)) (fun _ => ?_)
  refine g_lload_n d12_findAtFirst_92 rfl ?_
  refine g_goto 100 d12_findAtFirst_93 rfl ?_
  refine g_putLh _ fl12_442 d12_findAtFirst_100 f_74_42 s_74_42 ?_
  refine g_iinc (nI 1) d12_findAtFirst_103 rfl (by decide) (by decide) ?_
  refine g_goto 9 d12_findAtFirst_106 rfl ?_
  refine g_lo [(0, .ref 74), (1, .int (nI (c))), (2, .int (nI (0 + 1)))] ⟨rfl, rfl, rfl, trivial⟩ ?_
  refine r12_fafL (I := I) (L := L) coin per c fr ti se fl hC hco hc9 hpe hp4 mf hmf hbig hd (fun I3 L3 hF3 hs3 => ?_) 12 0 _ _ (by omega) (((hF.uf (by decide)).uf (by decide)).ug (by decide)) ⟨by rw [uI_ss]; rfl, by rw [uI_sn (by decide), uI_ss]; rfl, by rw [uL_ss]; rfl⟩
  exact g_vret rfl d12_findAtFirst_109 (⟨(I3, L3), ⟨hF3, hs3⟩, rfl, rfl⟩)
