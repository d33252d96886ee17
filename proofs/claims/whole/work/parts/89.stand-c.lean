/-- the habit, or none -/
def HTc (dy : cH) (h : Option Nat) (o : Option hbF) : Prop := (h = none ∧ o = none) ∨ ∃ T cs, h = some T ∧ o = some (txF cs) ∧ CTX dy T cs
/-- a car's cells of a day -/
def DCc (I : wI) (c : Nat) (x : dyT) : Prop := I 46 c = nI x.1 ∧ I 47 c = nI x.2.1 ∧ I 48 c = nI x.2.2.1 ∧ I 50 c = nI x.2.2.2
theorem dy1_cg {coin per fr fl : Nat} {co co2 : Nat → Nat} {fine : Nat} {b sp : Bool} {s : Nat} {x : dyT} (h : co x.2.2.2 = co2 x.2.2.2) : dy1 coin per fr fl co fine b sp s x = dy1 coin per fr fl co2 fine b sp s x := by unfold dy1; rw [h]
/-- nothing else of a day has changed -/
def DOt (I I2 : wI) (c : Nat) : Prop := ∀ q, q ≠ c → I2 46 q = I 46 q ∧ I2 47 q = I 47 q ∧ I2 48 q = I 48 q ∧ I2 50 q = I 50 q
set_option maxHeartbeats 1000000 in
theorem r1_st2 {l : Launch} {K : cK} {d : Nat} {I : wI} {L : wL} {R : wR} {dy : cH} (g : Nat → Int32) (wa : Int32) (hw : WW I g wa) (lc : Option (List Cl)) (hL : LWc dy (R 21 1) lc) (c fr ti se fl coin per fine : Nat) (hS : STA I c fr ti se fl coin per fine) (s k : Nat) (hs1 : fr ≤ s) (hs2 : s ≤ ti) (hk : k ≤ 12) (b : Bool) (hb : I 45 s = if b = true then 1 else 0) (x : dyT) (hx : DCc I c x) (hx12 : x.2.2.2 ≤ 12) (co : Nat) (hco : co ≤ 12) (hd : 4 ≤ d) : GL l K m1_stand d 0 0 56 [(0, .ref 44), (2, .int (nI s)), (3, .int (nI k)), (4, .int (nI c)), (5, .int (nI co))] [] (hp I L R dy) (fun (r : Option Value) (h : cH) => ∃ y : wI × wL, (FK [22, 23, 46, 47, 48, 50] [22, 24] I L y.1 y.2 ∧ WW y.1 g wa ∧ STA y.1 c fr ti se fl coin per fine ∧ DCc y.1 c (dy1 coin per fr fl (fun _ => co) (fiF (lfO lc) (ceR g wa c fr s k) fine) b (spB (lfO lc) (ceR g wa c fr s k)) s x) ∧ DOt I y.1 c) ∧ r = none ∧ h = hp y.1 y.2 R dy) := by
  obtain ⟨u0, u1, u2, u3, u4, u5, u6, u7, u8, u9, u10, u11, u12, u13, u14, u15⟩ := id hS
  obtain ⟨x1, x2, x3, x4⟩ := id hx
  have hpb := pdb_le per x.2.2.2 co
  have hpr := prc_le (fr := fr) (s := s) (n := co) u13 u12 hco
  have hsb : sbR g wa (lfO lc) c fr s k = spB (lfO lc) (ceR g wa c fr s k) := rfl
  obtain ⟨J, hJ⟩ : ∃ J, J = (uI (uI (uI I 48 c (nI (x.2.2.1 + co))) 46 c (nI (x.1 + prc coin fr fl s co))) 50 c (nI (les (pdb per x.2.2.2 co)))) := ⟨_, rfl⟩
  have FJ : FK [22, 23, 46, 47, 48, 50] [22, 24] I L J L := by rw [hJ]; exact ((FK.rf.ui (by decide)).ui (by decide)).ui (by decide)
  have zJ : STA J c fr ti se fl coin per fine := hS.of (FJ.1 28 (by decide))
  have wJ : WW J g wa := hw.of (by rw [hJ, uI_n (by decide), uI_n (by decide), uI_n (by decide)])
  have j46 : J 46 = upd (I 46) c (nI (x.1 + prc coin fr fl s co)) := by rw [hJ, uI_n (by decide), uI_s, uI_n (by decide)]
  have j47 : J 47 = I 47 := by rw [hJ, uI_n (by decide), uI_n (by decide), uI_n (by decide)]
  have j48 : J 48 = upd (I 48) c (nI (x.2.2.1 + co)) := by rw [hJ, uI_n (by decide), uI_n (by decide), uI_s]
  have j50 : J 50 = upd (I 50) c (nI (les (pdb per x.2.2.2 co))) := by rw [hJ, uI_s, uI_n (by decide), uI_n (by decide)]
  have j45 : J 45 = I 45 := by rw [hJ, uI_n (by decide), uI_n (by decide), uI_n (by decide)]
  have hend : ∀ (I4 : wI) (L4 : wL), FK [22, 23] [22, 24] J L I4 L4 → WW I4 g wa → ¬ (b = true ∧ pdb per x.2.2.2 co = 0 ∧ spB (lfO lc) (ceR g wa c fr s k) = false) → ((fun (r : Option Value) (h : cH) => ∃ y : wI × wL, (FK [22, 23, 46, 47, 48, 50] [22, 24] I L y.1 y.2 ∧ WW y.1 g wa ∧ STA y.1 c fr ti se fl coin per fine ∧ DCc y.1 c (dy1 coin per fr fl (fun _ => co) (fiF (lfO lc) (ceR g wa c fr s k) fine) b (spB (lfO lc) (ceR g wa c fr s k)) s x) ∧ DOt I y.1 c) ∧ r = none ∧ h = hp y.1 y.2 R dy)) none (hp I4 L4 R dy) := fun I4 L4 f4 w4 hn => by
    refine ⟨(I4, L4), ⟨FJ.tr (f4.up (by decide) (by decide)), w4, zJ.of (f4.1 28 (by decide)), ?_, ?_⟩, rfl, rfl⟩
    · show DCc I4 c _
      unfold DCc dy1
      rw [if_neg hn, if_neg hn, f4.1 46 (by decide), f4.1 47 (by decide), f4.1 48 (by decide), f4.1 50 (by decide), j46, j47, j48, j50]
      exact ⟨pk_us, x2, pk_us, pk_us⟩
    · intro q hq
      show I4 46 q = _ ∧ I4 47 q = _ ∧ I4 48 q = _ ∧ I4 50 q = _
      rw [f4.1 46 (by decide), f4.1 47 (by decide), f4.1 48 (by decide), f4.1 50 (by decide), j46, j47, j48, j50, pk_un hq, pk_un hq, pk_un hq]
      exact ⟨rfl, rfl, rfl, rfl⟩
  cases b with
  | false =>
    refine g_aload_n d1_stand_56 rfl ?_
    refine g_get fl1_21 d1_stand_57 f_44_8 ?_
    refine g_iload d1_stand_60 rfl ?_
    refine g_dup2 d1_stand_62 rfl rfl ?_
    refine g_ialdN (c) d1_stand_63 a_48 (rfl) (by omega) (by decide) ?_
    refine g_topI (nI (x.2.2.1)) (x3) ?_
    refine g_iload d1_stand_64 rfl ?_
    refine g_iaddN d1_stand_66 ?_
    refine g_iastN (c) _ d1_stand_67 a_48 (rfl) (by omega) (by decide) t_48 ?_
    refine g_aload_n d1_stand_68 rfl ?_
    refine g_get fl1_15 d1_stand_69 f_44_6 ?_
    refine g_iload d1_stand_72 rfl ?_
    refine g_dup2 d1_stand_74 rfl rfl ?_
    refine g_ialdN (c) d1_stand_75 a_46 (rfl) (by omega) (by decide) ?_
    refine g_topI (nI (x.1)) (x1) ?_
    refine g_aload_n d1_stand_76 rfl ?_
    refine g_get fl1_38 d1_stand_77 f_44_2 ?_
    refine g_iload d1_stand_80 rfl ?_
    refine g_iload_n d1_stand_82 rfl ?_
    refine g_EV2 vm7_price ml1_120 c_28 (r7_price (I := uI I 48 c (nI (x.2.2.1 + co))) (L := L) c fr ti se fl coin per fine (hS.of (uI_n (by decide))) co s hco (by omega) (Nat.le_refl 0)) (by omega) (Nat.le_of_ble_eq_true rfl) d1_stand_83 ?_
    refine g_iaddN d1_stand_86 ?_
    refine g_iastN (c) _ d1_stand_87 a_46 (rfl) (by omega) (by decide) t_46 ?_
    refine g_aload_n d1_stand_88 rfl ?_
    refine g_get fl1_38 d1_stand_89 f_44_2 ?_
    refine g_aload_n d1_stand_92 rfl ?_
    refine g_get fl1_27 d1_stand_93 f_44_10 ?_
    refine g_iload d1_stand_96 rfl ?_
    refine g_ialdN (c) d1_stand_98 a_50 (rfl) (by omega) (by decide) ?_
    refine g_topI (nI (x.2.2.2)) (x4) ?_
    refine g_iload d1_stand_99 rfl ?_
    refine g_EV2 vm7_paidWith ml1_123 c_28 (r7_paid (I := (uI (uI I 48 c (nI (x.2.2.1 + co))) 46 c (nI (x.1 + prc coin fr fl s co)))) (L := L) c fr ti se fl coin per fine (hS.of (by rw [uI_n (by decide), uI_n (by decide)])) x.2.2.2 co hx12 hco (Nat.le_refl 1)) (by omega) (Nat.le_of_ble_eq_true rfl) d1_stand_101 ?_
    refine g_istore d1_stand_104 (by decide) ?_
    refine g_aload_n d1_stand_106 rfl ?_
    refine g_get fl1_27 d1_stand_107 f_44_10 ?_
    refine g_iload d1_stand_110 rfl ?_
    refine g_iconstv (nI 0) d1_stand_112 rfl ?_
    refine g_iload d1_stand_113 rfl ?_
    refine g_iconstv (nI 1) d1_stand_115 rfl ?_
    refine g_isub d1_stand_116 ?_
    refine g_max ml1_126 (by omega) (Nat.le_of_ble_eq_true rfl) d1_stand_117 ?_
    refine g_topI (nI ((les (pdb per x.2.2.2 co)))) (mx_les hpb) ?_
    refine g_iastN (c) _ d1_stand_120 a_50 (rfl) (by omega) (by decide) t_50 ?_
    rw [← hJ]
    refine g_aload_n d1_stand_121 rfl ?_
    refine g_get fl1_9 d1_stand_122 f_44_5 ?_
    refine g_iload_n d1_stand_125 rfl ?_
    refine g_ialdN (s) d1_stand_126 a_45 (rfl) (by omega) (by decide) ?_
    refine g_topI ((0 : Int32)) (by rw [j45, hb]; rfl) ?_
    refine g_iconstv (nI 1) d1_stand_127 rfl ?_
    refine g_ic_ne (0) (1) 186 (by decide) (by decide) d1_stand_128 rfl (fun _ => ?_) (fun c128 => absurd c128 (by decide))
    exact g_vret rfl d1_stand_186 (hend J L FK.rf wJ (fun z => by cases z.1))
  | true =>
    by_cases h0 : pdb per x.2.2.2 co = 0
    rotate_left
    · skip
      refine g_aload_n d1_stand_56 rfl ?_
      refine g_get fl1_21 d1_stand_57 f_44_8 ?_
      refine g_iload d1_stand_60 rfl ?_
      refine g_dup2 d1_stand_62 rfl rfl ?_
      refine g_ialdN (c) d1_stand_63 a_48 (rfl) (by omega) (by decide) ?_
      refine g_topI (nI (x.2.2.1)) (x3) ?_
      refine g_iload d1_stand_64 rfl ?_
      refine g_iaddN d1_stand_66 ?_
      refine g_iastN (c) _ d1_stand_67 a_48 (rfl) (by omega) (by decide) t_48 ?_
      refine g_aload_n d1_stand_68 rfl ?_
      refine g_get fl1_15 d1_stand_69 f_44_6 ?_
      refine g_iload d1_stand_72 rfl ?_
      refine g_dup2 d1_stand_74 rfl rfl ?_
      refine g_ialdN (c) d1_stand_75 a_46 (rfl) (by omega) (by decide) ?_
      refine g_topI (nI (x.1)) (x1) ?_
      refine g_aload_n d1_stand_76 rfl ?_
      refine g_get fl1_38 d1_stand_77 f_44_2 ?_
      refine g_iload d1_stand_80 rfl ?_
      refine g_iload_n d1_stand_82 rfl ?_
      refine g_EV2 vm7_price ml1_120 c_28 (r7_price (I := uI I 48 c (nI (x.2.2.1 + co))) (L := L) c fr ti se fl coin per fine (hS.of (uI_n (by decide))) co s hco (by omega) (Nat.le_refl 0)) (by omega) (Nat.le_of_ble_eq_true rfl) d1_stand_83 ?_
      refine g_iaddN d1_stand_86 ?_
      refine g_iastN (c) _ d1_stand_87 a_46 (rfl) (by omega) (by decide) t_46 ?_
      refine g_aload_n d1_stand_88 rfl ?_
      refine g_get fl1_38 d1_stand_89 f_44_2 ?_
      refine g_aload_n d1_stand_92 rfl ?_
      refine g_get fl1_27 d1_stand_93 f_44_10 ?_
      refine g_iload d1_stand_96 rfl ?_
      refine g_ialdN (c) d1_stand_98 a_50 (rfl) (by omega) (by decide) ?_
      refine g_topI (nI (x.2.2.2)) (x4) ?_
      refine g_iload d1_stand_99 rfl ?_
      refine g_EV2 vm7_paidWith ml1_123 c_28 (r7_paid (I := (uI (uI I 48 c (nI (x.2.2.1 + co))) 46 c (nI (x.1 + prc coin fr fl s co)))) (L := L) c fr ti se fl coin per fine (hS.of (by rw [uI_n (by decide), uI_n (by decide)])) x.2.2.2 co hx12 hco (Nat.le_refl 1)) (by omega) (Nat.le_of_ble_eq_true rfl) d1_stand_101 ?_
      refine g_istore d1_stand_104 (by decide) ?_
      refine g_aload_n d1_stand_106 rfl ?_
      refine g_get fl1_27 d1_stand_107 f_44_10 ?_
      refine g_iload d1_stand_110 rfl ?_
      refine g_iconstv (nI 0) d1_stand_112 rfl ?_
      refine g_iload d1_stand_113 rfl ?_
      refine g_iconstv (nI 1) d1_stand_115 rfl ?_
      refine g_isub d1_stand_116 ?_
      refine g_max ml1_126 (by omega) (Nat.le_of_ble_eq_true rfl) d1_stand_117 ?_
      refine g_topI (nI ((les (pdb per x.2.2.2 co)))) (mx_les hpb) ?_
      refine g_iastN (c) _ d1_stand_120 a_50 (rfl) (by omega) (by decide) t_50 ?_
      rw [← hJ]
      refine g_aload_n d1_stand_121 rfl ?_
      refine g_get fl1_9 d1_stand_122 f_44_5 ?_
      refine g_iload_n d1_stand_125 rfl ?_
      refine g_ialdN (s) d1_stand_126 a_45 (rfl) (by omega) (by decide) ?_
      refine g_topI ((1 : Int32)) (by rw [j45, hb]; rfl) ?_
      refine g_iconstv (nI 1) d1_stand_127 rfl ?_
      refine g_ic_ne (1) (1) 186 (by decide) (by decide) d1_stand_128 rfl (fun c128 => absurd c128 (by decide)) (fun _ => ?_)
      refine g_iload d1_stand_131 rfl ?_
      refine g_iz_ne (((pdb per x.2.2.2 co) : Nat) : Int) 186 (nI_ti (by omega)) d1_stand_133 rfl (fun _ => ?_) (fun c133 => absurd c133 (by omega))
      exact g_vret rfl d1_stand_186 (hend J L FK.rf wJ (fun z => h0 z.2.1))
    by_cases hsp : spB (lfO lc) (ceR g wa c fr s k) = true
    · skip
      refine g_aload_n d1_stand_56 rfl ?_
      refine g_get fl1_21 d1_stand_57 f_44_8 ?_
      refine g_iload d1_stand_60 rfl ?_
      refine g_dup2 d1_stand_62 rfl rfl ?_
      refine g_ialdN (c) d1_stand_63 a_48 (rfl) (by omega) (by decide) ?_
      refine g_topI (nI (x.2.2.1)) (x3) ?_
      refine g_iload d1_stand_64 rfl ?_
      refine g_iaddN d1_stand_66 ?_
      refine g_iastN (c) _ d1_stand_67 a_48 (rfl) (by omega) (by decide) t_48 ?_
      refine g_aload_n d1_stand_68 rfl ?_
      refine g_get fl1_15 d1_stand_69 f_44_6 ?_
      refine g_iload d1_stand_72 rfl ?_
      refine g_dup2 d1_stand_74 rfl rfl ?_
      refine g_ialdN (c) d1_stand_75 a_46 (rfl) (by omega) (by decide) ?_
      refine g_topI (nI (x.1)) (x1) ?_
      refine g_aload_n d1_stand_76 rfl ?_
      refine g_get fl1_38 d1_stand_77 f_44_2 ?_
      refine g_iload d1_stand_80 rfl ?_
      refine g_iload_n d1_stand_82 rfl ?_
      refine g_EV2 vm7_price ml1_120 c_28 (r7_price (I := uI I 48 c (nI (x.2.2.1 + co))) (L := L) c fr ti se fl coin per fine (hS.of (uI_n (by decide))) co s hco (by omega) (Nat.le_refl 0)) (by omega) (Nat.le_of_ble_eq_true rfl) d1_stand_83 ?_
      refine g_iaddN d1_stand_86 ?_
      refine g_iastN (c) _ d1_stand_87 a_46 (rfl) (by omega) (by decide) t_46 ?_
      refine g_aload_n d1_stand_88 rfl ?_
      refine g_get fl1_38 d1_stand_89 f_44_2 ?_
      refine g_aload_n d1_stand_92 rfl ?_
      refine g_get fl1_27 d1_stand_93 f_44_10 ?_
      refine g_iload d1_stand_96 rfl ?_
      refine g_ialdN (c) d1_stand_98 a_50 (rfl) (by omega) (by decide) ?_
      refine g_topI (nI (x.2.2.2)) (x4) ?_
      refine g_iload d1_stand_99 rfl ?_
      refine g_EV2 vm7_paidWith ml1_123 c_28 (r7_paid (I := (uI (uI I 48 c (nI (x.2.2.1 + co))) 46 c (nI (x.1 + prc coin fr fl s co)))) (L := L) c fr ti se fl coin per fine (hS.of (by rw [uI_n (by decide), uI_n (by decide)])) x.2.2.2 co hx12 hco (Nat.le_refl 1)) (by omega) (Nat.le_of_ble_eq_true rfl) d1_stand_101 ?_
      refine g_istore d1_stand_104 (by decide) ?_
      refine g_aload_n d1_stand_106 rfl ?_
      refine g_get fl1_27 d1_stand_107 f_44_10 ?_
      refine g_iload d1_stand_110 rfl ?_
      refine g_iconstv (nI 0) d1_stand_112 rfl ?_
      refine g_iload d1_stand_113 rfl ?_
      refine g_iconstv (nI 1) d1_stand_115 rfl ?_
      refine g_isub d1_stand_116 ?_
      refine g_max ml1_126 (by omega) (Nat.le_of_ble_eq_true rfl) d1_stand_117 ?_
      refine g_topI (nI ((les (pdb per x.2.2.2 co)))) (mx_les hpb) ?_
      refine g_iastN (c) _ d1_stand_120 a_50 (rfl) (by omega) (by decide) t_50 ?_
      rw [← hJ]
      refine g_aload_n d1_stand_121 rfl ?_
      refine g_get fl1_9 d1_stand_122 f_44_5 ?_
      refine g_iload_n d1_stand_125 rfl ?_
      refine g_ialdN (s) d1_stand_126 a_45 (rfl) (by omega) (by decide) ?_
      refine g_topI ((1 : Int32)) (by rw [j45, hb]; rfl) ?_
      refine g_iconstv (nI 1) d1_stand_127 rfl ?_
      refine g_ic_ne (1) (1) 186 (by decide) (by decide) d1_stand_128 rfl (fun c128 => absurd c128 (by decide)) (fun _ => ?_)
      refine g_iload d1_stand_131 rfl ?_
      refine g_iz_ne (((pdb per x.2.2.2 co) : Nat) : Int) 186 (nI_ti (by omega)) d1_stand_133 rfl (fun c133 => absurd c133 (by omega)) (fun _ => ?_)
      refine g_aload_n d1_stand_136 rfl ?_
      refine g_get fl1_30 d1_stand_137 f_44_0 ?_
      refine g_iload_n d1_stand_140 rfl ?_
      refine g_iload_n d1_stand_141 rfl ?_
      refine g_aload_n d1_stand_142 rfl ?_
      refine g_get fl1_38 d1_stand_143 f_44_2 ?_
      refine g_XV3 vm10_sparesCar ml1_129 c_21 (r10_spares (I := J) (L := L) g wa wJ lc hL c fr ti se fl coin per fine zJ s k hs1 (by omega) (by omega) (Nat.le_refl 3)) (by omega) (Nat.le_of_ble_eq_true rfl) d1_stand_146 (fun y hy => ?_)
      refine g_bnz 186 d1_stand_149 rfl (fun _ => ?_) (fun c149 => absurd (by rw [hsb]; exact hsp) c149)
      exact g_vret rfl d1_stand_186 (hend y.1 y.2 hy.1 hy.2 (fun z => by rw [hsp] at z; cases z.2.2))
    refine g_aload_n d1_stand_56 rfl ?_
    refine g_get fl1_21 d1_stand_57 f_44_8 ?_
    refine g_iload d1_stand_60 rfl ?_
    refine g_dup2 d1_stand_62 rfl rfl ?_
    refine g_ialdN (c) d1_stand_63 a_48 (rfl) (by omega) (by decide) ?_
    refine g_topI (nI (x.2.2.1)) (x3) ?_
    refine g_iload d1_stand_64 rfl ?_
    refine g_iaddN d1_stand_66 ?_
    refine g_iastN (c) _ d1_stand_67 a_48 (rfl) (by omega) (by decide) t_48 ?_
    refine g_aload_n d1_stand_68 rfl ?_
    refine g_get fl1_15 d1_stand_69 f_44_6 ?_
    refine g_iload d1_stand_72 rfl ?_
    refine g_dup2 d1_stand_74 rfl rfl ?_
    refine g_ialdN (c) d1_stand_75 a_46 (rfl) (by omega) (by decide) ?_
    refine g_topI (nI (x.1)) (x1) ?_
    refine g_aload_n d1_stand_76 rfl ?_
    refine g_get fl1_38 d1_stand_77 f_44_2 ?_
    refine g_iload d1_stand_80 rfl ?_
    refine g_iload_n d1_stand_82 rfl ?_
    refine g_EV2 vm7_price ml1_120 c_28 (r7_price (I := uI I 48 c (nI (x.2.2.1 + co))) (L := L) c fr ti se fl coin per fine (hS.of (uI_n (by decide))) co s hco (by omega) (Nat.le_refl 0)) (by omega) (Nat.le_of_ble_eq_true rfl) d1_stand_83 ?_
    refine g_iaddN d1_stand_86 ?_
    refine g_iastN (c) _ d1_stand_87 a_46 (rfl) (by omega) (by decide) t_46 ?_
    refine g_aload_n d1_stand_88 rfl ?_
    refine g_get fl1_38 d1_stand_89 f_44_2 ?_
    refine g_aload_n d1_stand_92 rfl ?_
    refine g_get fl1_27 d1_stand_93 f_44_10 ?_
    refine g_iload d1_stand_96 rfl ?_
    refine g_ialdN (c) d1_stand_98 a_50 (rfl) (by omega) (by decide) ?_
    refine g_topI (nI (x.2.2.2)) (x4) ?_
    refine g_iload d1_stand_99 rfl ?_
    refine g_EV2 vm7_paidWith ml1_123 c_28 (r7_paid (I := (uI (uI I 48 c (nI (x.2.2.1 + co))) 46 c (nI (x.1 + prc coin fr fl s co)))) (L := L) c fr ti se fl coin per fine (hS.of (by rw [uI_n (by decide), uI_n (by decide)])) x.2.2.2 co hx12 hco (Nat.le_refl 1)) (by omega) (Nat.le_of_ble_eq_true rfl) d1_stand_101 ?_
    refine g_istore d1_stand_104 (by decide) ?_
    refine g_aload_n d1_stand_106 rfl ?_
    refine g_get fl1_27 d1_stand_107 f_44_10 ?_
    refine g_iload d1_stand_110 rfl ?_
    refine g_iconstv (nI 0) d1_stand_112 rfl ?_
    refine g_iload d1_stand_113 rfl ?_
    refine g_iconstv (nI 1) d1_stand_115 rfl ?_
    refine g_isub d1_stand_116 ?_
    refine g_max ml1_126 (by omega) (Nat.le_of_ble_eq_true rfl) d1_stand_117 ?_
    refine g_topI (nI ((les (pdb per x.2.2.2 co)))) (mx_les hpb) ?_
    refine g_iastN (c) _ d1_stand_120 a_50 (rfl) (by omega) (by decide) t_50 ?_
    rw [← hJ]
    refine g_aload_n d1_stand_121 rfl ?_
    refine g_get fl1_9 d1_stand_122 f_44_5 ?_
    refine g_iload_n d1_stand_125 rfl ?_
    refine g_ialdN (s) d1_stand_126 a_45 (rfl) (by omega) (by decide) ?_
    refine g_topI ((1 : Int32)) (by rw [j45, hb]; rfl) ?_
    refine g_iconstv (nI 1) d1_stand_127 rfl ?_
    refine g_ic_ne (1) (1) 186 (by decide) (by decide) d1_stand_128 rfl (fun c128 => absurd c128 (by decide)) (fun _ => ?_)
    refine g_iload d1_stand_131 rfl ?_
    refine g_iz_ne (((pdb per x.2.2.2 co) : Nat) : Int) 186 (nI_ti (by omega)) d1_stand_133 rfl (fun c133 => absurd c133 (by omega)) (fun _ => ?_)
    refine g_aload_n d1_stand_136 rfl ?_
    refine g_get fl1_30 d1_stand_137 f_44_0 ?_
    refine g_iload_n d1_stand_140 rfl ?_
    refine g_iload_n d1_stand_141 rfl ?_
    refine g_aload_n d1_stand_142 rfl ?_
    refine g_get fl1_38 d1_stand_143 f_44_2 ?_
    refine g_XV3 vm10_sparesCar ml1_129 c_21 (r10_spares (I := J) (L := L) g wa wJ lc hL c fr ti se fl coin per fine zJ s k hs1 (by omega) (by omega) (Nat.le_refl 3)) (by omega) (Nat.le_of_ble_eq_true rfl) d1_stand_146 (fun y hy => ?_)
    obtain ⟨I4, L4⟩ := y
    obtain ⟨f4, w4⟩ := hy
    dsimp only at f4 w4 ⊢
    have k46 : I4 46 = J 46 := f4.1 46 (by decide)
    have k47 : I4 47 = J 47 := f4.1 47 (by decide)
    refine g_bnz 186 d1_stand_149 rfl (fun c149 => absurd c149 (by rw [hsb]; exact hsp)) (fun _ => ?_)
    refine g_aload_n d1_stand_152 rfl ?_
    refine g_get fl1_18 d1_stand_153 f_44_7 ?_
    refine g_iload d1_stand_156 rfl ?_
    refine g_dup2 d1_stand_158 rfl rfl ?_
    refine g_ialdN (c) d1_stand_159 a_47 (rfl) (by omega) (by decide) ?_
    refine g_topI (nI (x.2.1)) (by rw [k47, j47]; exact x2) ?_
    refine g_iconstv (nI 1) d1_stand_160 rfl ?_
    refine g_iaddN d1_stand_161 ?_
    refine g_iastN (c) _ d1_stand_162 a_47 (rfl) (by omega) (by decide) t_47 ?_
    refine g_aload_n d1_stand_163 rfl ?_
    refine g_get fl1_15 d1_stand_164 f_44_6 ?_
    refine g_iload d1_stand_167 rfl ?_
    refine g_dup2 d1_stand_169 rfl rfl ?_
    refine g_ialdN (c) d1_stand_170 a_46 (rfl) (by omega) (by decide) ?_
    refine g_topI (nI ((x.1 + prc coin fr fl s co))) (by rw [uI_n (by decide), k46, j46]; exact pk_us) ?_
    refine g_aload_n d1_stand_171 rfl ?_
    refine g_get fl1_30 d1_stand_172 f_44_0 ?_
    refine g_iload_n d1_stand_175 rfl ?_
    refine g_iload_n d1_stand_176 rfl ?_
    refine g_aload_n d1_stand_177 rfl ?_
    refine g_get fl1_38 d1_stand_178 f_44_2 ?_
    refine g_XV3 vm10_finesOf ml1_133 c_21 (r10_finesOf (I := uI I4 47 c (nI (x.2.1 + 1))) (L := L4) g wa (w4.of (uI_n (by decide))) lc hL c fr ti se fl coin per fine (zJ.of (by rw [uI_n (by decide)]; exact f4.1 28 (by decide))) s k hs1 (by omega) (by omega) (Nat.le_refl 3)) (by omega) (Nat.le_of_ble_eq_true rfl) d1_stand_181 (fun v hv => ?_)
    refine g_topI (nI ((fiF (lfO lc) (ceR g wa c fr s k) fine))) (by unfold fnR; rw [if_neg hsp]) ?_
    obtain ⟨I5, L5⟩ := v
    obtain ⟨f5, w5⟩ := hv
    dsimp only at f5 w5 ⊢
    refine g_iaddN d1_stand_184 ?_
    refine g_iastN (c) _ d1_stand_185 a_46 (rfl) (by omega) (by decide) t_46 ?_
    refine g_vret rfl d1_stand_186 (?_)
    have hyes : true = true ∧ pdb per x.2.2.2 co = 0 ∧ spB (lfO lc) (ceR g wa c fr s k) = false := ⟨rfl, h0, by cases hq : spB (lfO lc) (ceR g wa c fr s k); rfl; exact absurd hq hsp⟩
    have w6 : WW (uI I5 46 c (nI (x.1 + prc coin fr fl s co + fiF (lfO lc) (ceR g wa c fr s k) fine))) g wa := w5.of (uI_n (by decide))
    have z6 : STA (uI I5 46 c (nI (x.1 + prc coin fr fl s co + fiF (lfO lc) (ceR g wa c fr s k) fine))) c fr ti se fl coin per fine := zJ.of (by rw [uI_n (by decide), f5.1 28 (by decide), uI_n (by decide)]; exact f4.1 28 (by decide))
    have F6 : FK [22, 23, 46, 47, 48, 50] [22, 24] I L (uI I5 46 c (nI (x.1 + prc coin fr fl s co + fiF (lfO lc) (ceR g wa c fr s k) fine))) L5 := (((FJ.tr (f4.up (by decide) (by decide))).ui (k := 47) (by decide)).tr (f5.up (by decide) (by decide))).ui (by decide)
    refine ⟨(uI I5 46 c (nI (x.1 + prc coin fr fl s co + fiF (lfO lc) (ceR g wa c fr s k) fine)), L5), ⟨F6, w6, z6, ?_, ?_⟩, rfl, rfl⟩
    · show DCc (uI I5 46 c _) c _
      unfold DCc dy1
      rw [if_pos hyes, if_pos hyes, uI_ss, uI_n (by decide), uI_n (by decide), uI_n (by decide), f5.1 47 (by decide), f5.1 48 (by decide), f5.1 50 (by decide), uI_ss, uI_n (by decide), uI_n (by decide), f4.1 48 (by decide), f4.1 50 (by decide), j48, j50]
      exact ⟨rfl, rfl, pk_us, pk_us⟩
    · intro q hq
      dsimp only
      rw [uI_sn hq, uI_n (by decide), uI_n (by decide), uI_n (by decide), f5.1 46 (by decide), f5.1 47 (by decide), f5.1 48 (by decide), f5.1 50 (by decide), uI_sn hq, uI_n (by decide), uI_n (by decide), uI_n (by decide), f4.1 46 (by decide), f4.1 47 (by decide), f4.1 48 (by decide), f4.1 50 (by decide), j46, j47, j48, j50, pk_un hq, pk_un hq, pk_un hq]
      exact ⟨rfl, rfl, rfl, rfl⟩
set_option maxHeartbeats 1000000 in
theorem r1_stand0 {l : Launch} {K : cK} {d : Nat} {I : wI} {L : wL} {R : wR} {dy : cH} (g : Nat → Int32) (wa : Int32) (hw : WW I g wa) (lc : Option (List Cl)) (hL : LWc dy (R 21 1) lc) (c fr ti se fl coin per fine : Nat) (hS : STA I c fr ti se fl coin per fine) (s k : Nat) (hs1 : fr ≤ s) (hs2 : s ≤ ti) (hk : k ≤ 12) (b : Bool) (hb : I 45 s = if b = true then 1 else 0) (x : dyT) (hx : DCc I c x) (hx12 : x.2.2.2 ≤ 12) (fs : Nat) (hfs : I 49 c = nI fs) (hf12 : fs ≤ 12) (hd : 4 ≤ d) : CW l K m1_stand d [.ref 44, .null, .int (nI s), .int (nI k)] (hp I L R dy) (α := wI × wL) (fun y => FK [22, 23, 30, 31, 46, 47, 48, 50] [22, 24, 30, 32] I L y.1 y.2 ∧ WW y.1 g wa ∧ STA y.1 c fr ti se fl coin per fine ∧ DCc y.1 c (dy1 coin per fr fl (fun left => coD none coin per fr ti se fs s k left) (fiF (lfO lc) (ceR g wa c fr s k) fine) b (spB (lfO lc) (ceR g wa c fr s k)) s x) ∧ DOt I y.1 c) (fun y => hp y.1 y.2 R dy) := by
  refine CC.of ok1_stand (Nat.le_of_ble_eq_true rfl) ?_
  obtain ⟨u0, u1, u2, u3, u4, u5, u6, u7, u8, u9, u10, u11, u12, u13, u14, u15⟩ := id hS
  obtain ⟨x1, x2, x3, x4⟩ := id hx
  by_cases hsf : s = fr
  · have e49 := hfs
    refine g_aload_n d1_stand_0 rfl ?_
    refine g_get fl1_38 d1_stand_1 f_44_2 ?_
    refine g_get fl1_113 d1_stand_4 f_28_0 ?_
    refine g_topI (nI (c)) (u0) ?_
    refine g_istore d1_stand_7 (by decide) ?_
    refine g_iload_n d1_stand_9 rfl ?_
    refine g_aload_n d1_stand_10 rfl ?_
    refine g_get fl1_38 d1_stand_11 f_44_2 ?_
    refine g_get fl1_87 d1_stand_14 f_28_1 ?_
    refine g_topI (nI (fr)) (u1) ?_
    refine g_ic_ne ((s : Nat) : Int) ((fr : Nat) : Int) 30 (nI_ti (by omega)) (nI_ti (by omega)) d1_stand_17 rfl (fun c17 => absurd c17 (by omega)) (fun _ => ?_)
    refine g_aload_n d1_stand_20 rfl ?_
    refine g_get fl1_24 d1_stand_21 f_44_9 ?_
    refine g_iload d1_stand_24 rfl ?_
    refine g_ialdN (c) d1_stand_26 a_49 (rfl) (by omega) (by decide) ?_
    refine g_topI (nI (fs)) (e49) ?_
    refine g_goto 31 d1_stand_27 rfl ?_
    refine g_istore d1_stand_31 (by decide) ?_
    refine g_nload_n d1_stand_33 rfl ?_
    refine g_ifnullN 56 d1_stand_34 rfl ?_
    refine g_lo [(0, .ref 44), (2, .int (nI s)), (3, .int (nI k)), (4, .int (nI c)), (5, .int (nI (fs)))] ⟨rfl, rfl, rfl, rfl, rfl, trivial⟩ ?_
    refine g_mono (r1_st2 (I := I) (L := L) g wa hw lc hL c fr ti se fl coin per fine hS s k hs1 hs2 hk b hb x hx hx12 (fs) (by first | omega | exact thr_le _ _ _ _ _ _ _ _ _) hd) (fun r h1 q => ?_)
    obtain ⟨y, ⟨y1, y2, y3, y4, y5⟩, rfl, rfl⟩ := q
    refine ⟨y, ⟨y1.up (by decide) (by decide), y2, y3, ?_, y5⟩, rfl, rfl⟩
    have e : coD none coin per fr ti se fs s k x.2.2.2 = fs := if_pos hsf
    rw [dy1_cg (co2 := fun _ => fs) e]; exact y4
  · skip
    refine g_aload_n d1_stand_0 rfl ?_
    refine g_get fl1_38 d1_stand_1 f_44_2 ?_
    refine g_get fl1_113 d1_stand_4 f_28_0 ?_
    refine g_topI (nI (c)) (u0) ?_
    refine g_istore d1_stand_7 (by decide) ?_
    refine g_iload_n d1_stand_9 rfl ?_
    refine g_aload_n d1_stand_10 rfl ?_
    refine g_get fl1_38 d1_stand_11 f_44_2 ?_
    refine g_get fl1_87 d1_stand_14 f_28_1 ?_
    refine g_topI (nI (fr)) (u1) ?_
    refine g_ic_ne ((s : Nat) : Int) ((fr : Nat) : Int) 30 (nI_ti (by omega)) (nI_ti (by omega)) d1_stand_17 rfl (fun _ => ?_) (fun c17 => absurd c17 (by omega))
    refine g_iconstv (nI 0) d1_stand_30 rfl ?_
    refine g_istore d1_stand_31 (by decide) ?_
    refine g_nload_n d1_stand_33 rfl ?_
    refine g_ifnullN 56 d1_stand_34 rfl ?_
    refine g_lo [(0, .ref 44), (2, .int (nI s)), (3, .int (nI k)), (4, .int (nI c)), (5, .int (nI (0)))] ⟨rfl, rfl, rfl, rfl, rfl, trivial⟩ ?_
    refine g_mono (r1_st2 (I := I) (L := L) g wa hw lc hL c fr ti se fl coin per fine hS s k hs1 hs2 hk b hb x hx hx12 (0) (by first | omega | exact thr_le _ _ _ _ _ _ _ _ _) hd) (fun r h1 q => ?_)
    obtain ⟨y, ⟨y1, y2, y3, y4, y5⟩, rfl, rfl⟩ := q
    refine ⟨y, ⟨y1.up (by decide) (by decide), y2, y3, ?_, y5⟩, rfl, rfl⟩
    have e : coD none coin per fr ti se fs s k x.2.2.2 = 0 := if_neg hsf
    rw [dy1_cg (co2 := fun _ => 0) e]; exact y4
set_option maxHeartbeats 1000000 in
theorem r1_standT {l : Launch} {K : cK} {d : Nat} {I : wI} {L : wL} {R : wR} {dy : cH} (g : Nat → Int32) (wa : Int32) (hw : WW I g wa) (lc : Option (List Cl)) (hL : LWc dy (R 21 1) lc) (c fr ti se fl coin per fine : Nat) (hS : STA I c fr ti se fl coin per fine) (s k : Nat) (hs1 : fr ≤ s) (hs2 : s ≤ ti) (hk : k ≤ 12) (b : Bool) (hb : I 45 s = if b = true then 1 else 0) (x : dyT) (hx : DCc I c x) (hx12 : x.2.2.2 ≤ 12) (T : Nat) (cs : List Cl) (hC : CTX dy T cs) (fs : Nat) (hd : 4 ≤ d) : CW l K m1_stand d [.ref 44, .ref T, .int (nI s), .int (nI k)] (hp I L R dy) (α := wI × wL) (fun y => FK [22, 23, 30, 31, 46, 47, 48, 50] [22, 24, 30, 32] I L y.1 y.2 ∧ WW y.1 g wa ∧ STA y.1 c fr ti se fl coin per fine ∧ DCc y.1 c (dy1 coin per fr fl (fun left => coD (some (txF cs)) coin per fr ti se fs s k left) (fiF (lfO lc) (ceR g wa c fr s k) fine) b (spB (lfO lc) (ceR g wa c fr s k)) s x) ∧ DOt I y.1 c) (fun y => hp y.1 y.2 R dy) := by
  refine CC.of ok1_stand (Nat.le_of_ble_eq_true rfl) ?_
  obtain ⟨u0, u1, u2, u3, u4, u5, u6, u7, u8, u9, u10, u11, u12, u13, u14, u15⟩ := id hS
  obtain ⟨x1, x2, x3, x4⟩ := id hx
  by_cases hsf : s = fr
  · skip
    refine g_aload_n d1_stand_0 rfl ?_
    refine g_get fl1_38 d1_stand_1 f_44_2 ?_
    refine g_get fl1_113 d1_stand_4 f_28_0 ?_
    refine g_topI (nI (c)) (u0) ?_
    refine g_istore d1_stand_7 (by decide) ?_
    refine g_iload_n d1_stand_9 rfl ?_
    refine g_aload_n d1_stand_10 rfl ?_
    refine g_get fl1_38 d1_stand_11 f_44_2 ?_
    refine g_get fl1_87 d1_stand_14 f_28_1 ?_
    refine g_topI (nI (fr)) (u1) ?_
    refine g_ic_ne ((s : Nat) : Int) ((fr : Nat) : Int) 30 (nI_ti (by omega)) (nI_ti (by omega)) d1_stand_17 rfl (fun c17 => absurd c17 (by omega)) (fun _ => ?_)
    refine g_aload_n d1_stand_20 rfl ?_
    refine g_get fl1_24 d1_stand_21 f_44_9 ?_
    refine g_iload d1_stand_24 rfl ?_
    refine g_ialdN (c) d1_stand_26 a_49 (rfl) (by omega) (by decide) ?_
    refine g_goto 31 d1_stand_27 rfl ?_
    refine g_istore d1_stand_31 (by decide) ?_
    refine g_aload_n d1_stand_33 rfl ?_
    refine g_ifnull d1_stand_34 ?_
    refine g_aload_n d1_stand_37 rfl ?_
    refine g_get fl1_34 d1_stand_38 f_44_1 ?_
    refine g_aload_n d1_stand_41 rfl ?_
    refine g_iload_n d1_stand_42 rfl ?_
    refine g_iload_n d1_stand_43 rfl ?_
    refine g_aload_n d1_stand_44 rfl ?_
    refine g_get fl1_27 d1_stand_45 f_44_10 ?_
    refine g_iload d1_stand_48 rfl ?_
    refine g_ialdN (c) d1_stand_50 a_50 (rfl) (by omega) (by decide) ?_
    refine g_topI (nI (x.2.2.2)) (x4) ?_
    refine g_XV4 vm0_coinsBy ml1_116 c_29 (r0_coinsBy (I := I) (L := L) c fr ti se fl coin per fine hS T cs hC s k x.2.2.2 hs1 hs2 hk hx12 (Nat.le_refl 3)) (by omega) (Nat.le_of_ble_eq_true rfl) d1_stand_51 (fun v hv => ?_)
    obtain ⟨I4, L4⟩ := v
    dsimp only at hv ⊢
    have hx4 : DCc I4 c x := ⟨by rw [hv.1 46 (by decide)]; exact x1, by rw [hv.1 47 (by decide)]; exact x2, by rw [hv.1 48 (by decide)]; exact x3, by rw [hv.1 50 (by decide)]; exact x4⟩
    refine g_istore d1_stand_54 (by decide) ?_
    refine g_lo [(0, .ref 44), (2, .int (nI s)), (3, .int (nI k)), (4, .int (nI c)), (5, .int (nI (thr (txF cs) coin per fr ti se s k x.2.2.2)))] ⟨rfl, rfl, rfl, rfl, rfl, trivial⟩ ?_
    refine g_mono (r1_st2 (I := I4) (L := L4) g wa (hw.of (hv.1 23 (by decide))) lc hL c fr ti se fl coin per fine (hS.of (hv.1 28 (by decide))) s k hs1 hs2 hk b (by rw [hv.1 45 (by decide)]; exact hb) x hx4 hx12 (thr (txF cs) coin per fr ti se s k x.2.2.2) (by first | omega | exact thr_le _ _ _ _ _ _ _ _ _) hd) (fun r h1 q => ?_)
    obtain ⟨y, ⟨y1, y2, y3, y4, y5⟩, rfl, rfl⟩ := q
    refine ⟨y, ⟨(hv.up (by decide) (by decide)).tr (y1.up (by decide) (by decide)), y2, y3, ?_, fun q hq => by have z := y5 q hq; rw [hv.1 46 (by decide), hv.1 47 (by decide), hv.1 48 (by decide), hv.1 50 (by decide)] at z; exact z⟩, rfl, rfl⟩
    have e : coD (some (txF cs)) coin per fr ti se fs s k x.2.2.2 = thr (txF cs) coin per fr ti se s k x.2.2.2 := rfl
    rw [dy1_cg (co2 := fun _ => thr (txF cs) coin per fr ti se s k x.2.2.2) e]; exact y4
  · skip
    refine g_aload_n d1_stand_0 rfl ?_
    refine g_get fl1_38 d1_stand_1 f_44_2 ?_
    refine g_get fl1_113 d1_stand_4 f_28_0 ?_
    refine g_topI (nI (c)) (u0) ?_
    refine g_istore d1_stand_7 (by decide) ?_
    refine g_iload_n d1_stand_9 rfl ?_
    refine g_aload_n d1_stand_10 rfl ?_
    refine g_get fl1_38 d1_stand_11 f_44_2 ?_
    refine g_get fl1_87 d1_stand_14 f_28_1 ?_
    refine g_topI (nI (fr)) (u1) ?_
    refine g_ic_ne ((s : Nat) : Int) ((fr : Nat) : Int) 30 (nI_ti (by omega)) (nI_ti (by omega)) d1_stand_17 rfl (fun _ => ?_) (fun c17 => absurd c17 (by omega))
    refine g_iconstv (nI 0) d1_stand_30 rfl ?_
    refine g_istore d1_stand_31 (by decide) ?_
    refine g_aload_n d1_stand_33 rfl ?_
    refine g_ifnull d1_stand_34 ?_
    refine g_aload_n d1_stand_37 rfl ?_
    refine g_get fl1_34 d1_stand_38 f_44_1 ?_
    refine g_aload_n d1_stand_41 rfl ?_
    refine g_iload_n d1_stand_42 rfl ?_
    refine g_iload_n d1_stand_43 rfl ?_
    refine g_aload_n d1_stand_44 rfl ?_
    refine g_get fl1_27 d1_stand_45 f_44_10 ?_
    refine g_iload d1_stand_48 rfl ?_
    refine g_ialdN (c) d1_stand_50 a_50 (rfl) (by omega) (by decide) ?_
    refine g_topI (nI (x.2.2.2)) (x4) ?_
    refine g_XV4 vm0_coinsBy ml1_116 c_29 (r0_coinsBy (I := I) (L := L) c fr ti se fl coin per fine hS T cs hC s k x.2.2.2 hs1 hs2 hk hx12 (Nat.le_refl 3)) (by omega) (Nat.le_of_ble_eq_true rfl) d1_stand_51 (fun v hv => ?_)
    obtain ⟨I4, L4⟩ := v
    dsimp only at hv ⊢
    have hx4 : DCc I4 c x := ⟨by rw [hv.1 46 (by decide)]; exact x1, by rw [hv.1 47 (by decide)]; exact x2, by rw [hv.1 48 (by decide)]; exact x3, by rw [hv.1 50 (by decide)]; exact x4⟩
    refine g_istore d1_stand_54 (by decide) ?_
    refine g_lo [(0, .ref 44), (2, .int (nI s)), (3, .int (nI k)), (4, .int (nI c)), (5, .int (nI (thr (txF cs) coin per fr ti se s k x.2.2.2)))] ⟨rfl, rfl, rfl, rfl, rfl, trivial⟩ ?_
    refine g_mono (r1_st2 (I := I4) (L := L4) g wa (hw.of (hv.1 23 (by decide))) lc hL c fr ti se fl coin per fine (hS.of (hv.1 28 (by decide))) s k hs1 hs2 hk b (by rw [hv.1 45 (by decide)]; exact hb) x hx4 hx12 (thr (txF cs) coin per fr ti se s k x.2.2.2) (by first | omega | exact thr_le _ _ _ _ _ _ _ _ _) hd) (fun r h1 q => ?_)
    obtain ⟨y, ⟨y1, y2, y3, y4, y5⟩, rfl, rfl⟩ := q
    refine ⟨y, ⟨(hv.up (by decide) (by decide)).tr (y1.up (by decide) (by decide)), y2, y3, ?_, fun q hq => by have z := y5 q hq; rw [hv.1 46 (by decide), hv.1 47 (by decide), hv.1 48 (by decide), hv.1 50 (by decide)] at z; exact z⟩, rfl, rfl⟩
    have e : coD (some (txF cs)) coin per fr ti se fs s k x.2.2.2 = thr (txF cs) coin per fr ti se s k x.2.2.2 := rfl
    rw [dy1_cg (co2 := fun _ => thr (txF cs) coin per fr ti se s k x.2.2.2) e]; exact y4
theorem r1_stand {l : Launch} {K : cK} {d : Nat} {I : wI} {L : wL} {R : wR} {dy : cH} (g : Nat → Int32) (wa : Int32) (hw : WW I g wa) (lc : Option (List Cl)) (hL : LWc dy (R 21 1) lc) (c fr ti se fl coin per fine : Nat) (hS : STA I c fr ti se fl coin per fine) (s k : Nat) (hs1 : fr ≤ s) (hs2 : s ≤ ti) (hk : k ≤ 12) (b : Bool) (hb : I 45 s = if b = true then 1 else 0) (x : dyT) (hx : DCc I c x) (hx12 : x.2.2.2 ≤ 12) (h : Option Nat) (o : Option hbF) (hH : HTc dy h o) (fs : Nat) (hfs : o = none → I 49 c = nI fs) (hf12 : fs ≤ 12) (hd : 4 ≤ d) : CW l K m1_stand d [.ref 44, rfv h, .int (nI s), .int (nI k)] (hp I L R dy) (α := wI × wL) (fun y => FK [22, 23, 30, 31, 46, 47, 48, 50] [22, 24, 30, 32] I L y.1 y.2 ∧ WW y.1 g wa ∧ STA y.1 c fr ti se fl coin per fine ∧ DCc y.1 c (dy1 coin per fr fl (fun left => coD o coin per fr ti se fs s k left) (fiF (lfO lc) (ceR g wa c fr s k) fine) b (spB (lfO lc) (ceR g wa c fr s k)) s x) ∧ DOt I y.1 c) (fun y => hp y.1 y.2 R dy) := by
  rcases hH with ⟨rfl, rfl⟩ | ⟨T, cs, rfl, rfl, hC⟩
  · exact r1_stand0 g wa hw lc hL c fr ti se fl coin per fine hS s k hs1 hs2 hk b hb x hx hx12 fs (hfs rfl) hf12 hd
  · exact r1_standT g wa hw lc hL c fr ti se fl coin per fine hS s k hs1 hs2 hk b hb x hx hx12 T cs hC fs hd
