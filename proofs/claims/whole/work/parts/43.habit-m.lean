abbrev hbF : Type := (Nat → Int64) → Nat → Int64 → Int64
def hEv (coin per fr ti se s k left : Nat) : Nat → Int64 := lE (lN s) (lN left) (lN (s - fr)) (lN (ti - s + 1)) (if se = 1 then lN k else -1) (lN coin) (lN per)
def thr (F : hbF) (coin per fr ti se s k left : Nat) : Nat := (clp 0 12 (F (hEv coin per fr ti se s k left) 0 0)).toNat
theorem clp_toNat_le (v : Int64) (hi : Nat) : (clp 0 hi v).toNat ≤ hi := by
  unfold clp
  split
  · exact Nat.zero_le _
  · split <;> omega
theorem thr_le (F : hbF) (coin per fr ti se s k left : Nat) : thr F coin per fr ti se s k left ≤ 12 := clp_toNat_le _ 12
def sN (L : wL) (a b c e f g k : Int64) : wL := uL (uL (uL (uL (uL (uL (uL L 88 1 a) 88 2 b) 88 3 c) 88 4 e) 88 5 f) 88 6 g) 88 7 k
theorem sN_env {L : wL} {a b c e f g k : Int64} : ∀ j, 1 ≤ j → j ≤ 7 → sN L a b c e f g k 88 j = lE a b c e f g k j := by
  intro j h1 h7
  rcases (by omega : j = 1 ∨ j = 2 ∨ j = 3 ∨ j = 4 ∨ j = 5 ∨ j = 6 ∨ j = 7) with rfl | rfl | rfl | rfl | rfl | rfl | rfl <;> simp [sN, uL_at, lE]
theorem sN_n {L : wL} {a b c e f g k : Int64} {q : Nat} (h : q ≠ 88) : sN L a b c e f g k q = L q := by simp [sN, uL_n h]
theorem uI_fn {I : wI} {j b : Nat} {x : Int32} (h : b ≠ j) : uI I 74 j x 74 b = I 74 b := by simp [uI, upd, h]
theorem thr_fr {I : wI} {L : wL} {a b c e f g k : Int64} {x : wI × wL} (ho : I 74 15 = 0) (h : SF (uI I 74 15 1) (sN L a b c e f g k) x) (h2 : ∀ q, q ≠ 89 → q ≠ 74 → x.2 q = sN L a b c e f g k q) : FR [] [28, 32] [88, 89] [33, 34] I L (uI x.1 74 15 0) x.2 := by
  refine ⟨fun q _ h4 => ?_, fun j hj => ?_, fun q hq h4 => ?_, fun j hj => ?_⟩
  · rw [uI_n h4, h.1 q h4, uI_n h4]
  · by_cases e15 : j = 15
    · subst e15; rw [uI_ss, ho]
    · rw [uI_fn e15, h.2.1 j (fun z => hj (by simp [z])) (fun z => hj (by simp [z])), uI_fn e15]
  · rw [h2 q (fun z => hq (by simp [z])) h4, sN_n (fun z => hq (by simp [z]))]
  · rw [h.2.2.2 j (fun z => hj (by simp [z])) (fun z => hj (by simp [z])), sN_n (by decide)]
def HB (g : Nat → Int32) (h : Nat) (F : hbF) : Prop := h < 6 ∧ TMF g (5480 + 900 * h) F
set_option maxHeartbeats 400000 in
theorem r12_thrownBy {l : Launch} {K : cK} {d : Nat} {I : wI} {L : wL} {R : wR} {dy : cH} (h : Nat) (F : hbF) (hB : HB (I 76) h F) (coin per c fr ti se fl : Nat) (hC : CF I c fr ti se fl) (hco : I 76 6 = nI coin) (hc9 : coin ≤ 9) (hpe : I 76 7 = nI per) (hp4 : per ≤ 4) (ho : I 74 15 = 0) (s k left : Nat) (hs1 : fr ≤ s) (hs2 : s ≤ ti) (hk : k ≤ 12) (hl : left ≤ 12) (hd : 4 ≤ d) : CX l K m12_thrownBy d [.ref 74, .int (nI h), .int (nI c), .int (nI s), .int (nI k), .int (nI left)] (hp I L R dy) (α := wI × wL) (fun x => FR [] [28, 32] [88, 89] [33, 34] I L x.1 x.2) (fun _ => .int (nI (thr F coin per fr ti se s k left))) (fun x => hp x.1 x.2 R dy) := by
  obtain ⟨hc6, q0, q1, q2, q3, hft, ht11, hse, hfl⟩ := id hC
  obtain ⟨hh6, ⟨⟨nc, hd0, s1, s2, t1, t2, op, arg, hT, hF⟩, hinv⟩⟩ := hB
  refine CC.of ok12_thrownBy (Nat.le_of_ble_eq_true rfl) ?_
  by_cases hs9 : se = 1
  · skip
    refine g_aload_n d12_thrownBy_0 rfl ?_
    refine g_get fl12_77 d12_thrownBy_1 f_74_30 ?_
    refine g_iconstv (nI 1) d12_thrownBy_4 rfl ?_
    refine g_iload_n d12_thrownBy_5 rfl ?_
    refine g_i2lN (by omega) d12_thrownBy_6 ?_
    refine g_lastN (1) _ d12_thrownBy_7 a_88 (rfl) (by omega) (by decide) t_88 ?_
    refine g_aload_n d12_thrownBy_8 rfl ?_
    refine g_get fl12_77 d12_thrownBy_9 f_74_30 ?_
    refine g_iconstv (nI 2) d12_thrownBy_12 rfl ?_
    refine g_iload d12_thrownBy_13 rfl ?_
    refine g_i2lN (by omega) d12_thrownBy_15 ?_
    refine g_lastN (2) _ d12_thrownBy_16 a_88 (rfl) (by omega) (by decide) t_88 ?_
    refine g_aload_n d12_thrownBy_17 rfl ?_
    refine g_get fl12_77 d12_thrownBy_18 f_74_30 ?_
    refine g_iconstv (nI 3) d12_thrownBy_21 rfl ?_
    refine g_iload_n d12_thrownBy_22 rfl ?_
    refine g_aload_n d12_thrownBy_23 rfl ?_
    refine g_iload_n d12_thrownBy_24 rfl ?_
    refine g_iconstv (nI 0) d12_thrownBy_25 rfl ?_
    refine g_EV2 vm12_ofCar ml12_167 c_74 (r12_ofCar (c) (0) (by omega) (by omega) (Nat.le_refl 0)) (by omega) (Nat.le_of_ble_eq_true rfl) d12_thrownBy_26 ?_
    refine g_topI (nI (fr)) (q0) ?_
    refine g_isubN (hs1) d12_thrownBy_29 ?_
    refine g_i2lN (by omega) d12_thrownBy_30 ?_
    refine g_lastN (3) _ d12_thrownBy_31 a_88 (rfl) (by omega) (by decide) t_88 ?_
    refine g_aload_n d12_thrownBy_32 rfl ?_
    refine g_get fl12_77 d12_thrownBy_33 f_74_30 ?_
    refine g_iconstv (nI 4) d12_thrownBy_36 rfl ?_
    refine g_aload_n d12_thrownBy_37 rfl ?_
    refine g_iload_n d12_thrownBy_38 rfl ?_
    refine g_iconstv (nI 1) d12_thrownBy_39 rfl ?_
    refine g_EV2 vm12_ofCar ml12_167 c_74 (r12_ofCar (c) (1) (by omega) (by omega) (Nat.le_refl 0)) (by omega) (Nat.le_of_ble_eq_true rfl) d12_thrownBy_40 ?_
    refine g_topI (nI (ti)) (q1) ?_
    refine g_iload_n d12_thrownBy_43 rfl ?_
    refine g_isubN (hs2) d12_thrownBy_44 ?_
    refine g_iconstv (nI 1) d12_thrownBy_45 rfl ?_
    refine g_iaddN d12_thrownBy_46 ?_
    refine g_i2lN (by omega) d12_thrownBy_47 ?_
    refine g_lastN (4) _ d12_thrownBy_48 a_88 (rfl) (by omega) (by decide) t_88 ?_
    refine g_aload_n d12_thrownBy_49 rfl ?_
    refine g_get fl12_77 d12_thrownBy_50 f_74_30 ?_
    refine g_iconstv (nI 5) d12_thrownBy_53 rfl ?_
    refine g_aload_n d12_thrownBy_54 rfl ?_
    refine g_iload_n d12_thrownBy_55 rfl ?_
    refine g_iconstv (nI 2) d12_thrownBy_56 rfl ?_
    refine g_EV2 vm12_ofCar ml12_167 c_74 (r12_ofCar (c) (2) (by omega) (by omega) (Nat.le_refl 0)) (by omega) (Nat.le_of_ble_eq_true rfl) d12_thrownBy_57 ?_
    refine g_topI (nI (se)) (q2) ?_
    refine g_iconstv (nI 1) d12_thrownBy_60 rfl ?_
    refine g_ic_ne ((se : Nat) : Int) (1) 70 (nI_ti (by omega)) (by decide) d12_thrownBy_61 rfl (fun c61 => absurd c61 (by omega)) (fun _ => ?_)
    refine g_iload d12_thrownBy_64 rfl ?_
    refine g_i2lN (by omega) d12_thrownBy_66 ?_
    refine g_goto 73 d12_thrownBy_67 rfl ?_
    refine g_lastN (5) _ d12_thrownBy_73 a_88 (rfl) (by omega) (by decide) t_88 ?_
    refine g_aload_n d12_thrownBy_74 rfl ?_
    refine g_get fl12_77 d12_thrownBy_75 f_74_30 ?_
    refine g_bipushv (nI 6) d12_thrownBy_78 rfl ?_
    refine g_aload_n d12_thrownBy_80 rfl ?_
    refine g_iconstv (nI 0) d12_thrownBy_81 rfl ?_
    refine g_EV1 vm12_term ml12_378 c_74 (r12_term (0) (by omega) (Nat.le_refl 0)) (by omega) (Nat.le_of_ble_eq_true rfl) d12_thrownBy_82 ?_
    refine g_topI (nI (coin)) (hco) ?_
    refine g_i2lN (by omega) d12_thrownBy_85 ?_
    refine g_lastN (6) _ d12_thrownBy_86 a_88 (rfl) (by omega) (by decide) t_88 ?_
    refine g_aload_n d12_thrownBy_87 rfl ?_
    refine g_get fl12_77 d12_thrownBy_88 f_74_30 ?_
    refine g_bipushv (nI 7) d12_thrownBy_91 rfl ?_
    refine g_aload_n d12_thrownBy_93 rfl ?_
    refine g_iconstv (nI 1) d12_thrownBy_94 rfl ?_
    refine g_EV1 vm12_term ml12_378 c_74 (r12_term (1) (by omega) (Nat.le_refl 0)) (by omega) (Nat.le_of_ble_eq_true rfl) d12_thrownBy_95 ?_
    refine g_topI (nI (per)) (hpe) ?_
    refine g_i2lN (by omega) d12_thrownBy_98 ?_
    refine g_lastN (7) _ d12_thrownBy_99 a_88 (rfl) (by omega) (by decide) t_88 ?_
    refine g_aload_n d12_thrownBy_100 rfl ?_
    refine g_iconstv (nI 1) d12_thrownBy_101 rfl ?_
    refine g_putZh _ fl12_271 d12_thrownBy_102 f_74_15 (by decide) s_74_15 ?_
    refine g_aload_n d12_thrownBy_105 rfl ?_
    refine g_sipushv (nI 5480) d12_thrownBy_106 rfl ?_
    refine g_sipushv (nI 900) d12_thrownBy_109 rfl ?_
    refine g_iload_n d12_thrownBy_112 rfl ?_
    refine g_imulN d12_thrownBy_113 ?_
    refine g_iaddN d12_thrownBy_114 ?_
    refine g_iconstv (nI 0) d12_thrownBy_115 rfl ?_
    refine g_lconstv (0) d12_thrownBy_116 rfl ?_
    refine g_XV3 vm12_tells ml12_393 c_74 (r12_tells (I := uI I 74 15 1) (L := (sN L (lN s) (lN left) (lN (s - fr)) (lN (ti - s + 1)) (lN k) (lN coin) (lN per))) (5480 + 900 * h) nc hd0 s1 s2 t1 t2 op arg (by exact hT) 0 (by decide) 0 _ (Or.inr ⟨uI_ss, rfl⟩) (Nat.le_refl 3)) (by omega) (Nat.le_of_ble_eq_true rfl) d12_thrownBy_117 (fun x hx => ?_)
    refine g_topL (F (hEv coin per fr ti se s k left) 0 0) (by show tF op arg _ hd0 s1 s2 t1 t2 0 0 nc = F (hEv coin per fr ti se s k left) 0 0; rw [← hF]; refine congrFun (congrFun (hinv _ _ (fun j h1 h7 => ?_)) _) _; rw [sN_env j h1 h7]; unfold hEv; rw [if_pos hs9]) ?_
    refine g_iconstv (nI 0) d12_thrownBy_120 rfl ?_
    refine g_bipushv (nI 12) d12_thrownBy_121 rfl ?_
    refine g_ES3 sm12_within ml12_397 (r12_within _ 12 (by decide) (Nat.le_refl 0)) (by omega) (Nat.le_of_ble_eq_true rfl) d12_thrownBy_123 ?_
    refine g_istore d12_thrownBy_126 (by decide) ?_
    refine g_aload_n d12_thrownBy_128 rfl ?_
    refine g_iconstv (nI 0) d12_thrownBy_129 rfl ?_
    refine g_putZh _ fl12_271 d12_thrownBy_130 f_74_15 (by decide) s_74_15 ?_
    refine g_iload d12_thrownBy_133 rfl ?_
    exact g_iret rfl d12_thrownBy_135 (⟨(uI x.1 74 15 0, x.2), thr_fr ho hx.1 hx.2, rfl, rfl⟩)
  · skip
    refine g_aload_n d12_thrownBy_0 rfl ?_
    refine g_get fl12_77 d12_thrownBy_1 f_74_30 ?_
    refine g_iconstv (nI 1) d12_thrownBy_4 rfl ?_
    refine g_iload_n d12_thrownBy_5 rfl ?_
    refine g_i2lN (by omega) d12_thrownBy_6 ?_
    refine g_lastN (1) _ d12_thrownBy_7 a_88 (rfl) (by omega) (by decide) t_88 ?_
    refine g_aload_n d12_thrownBy_8 rfl ?_
    refine g_get fl12_77 d12_thrownBy_9 f_74_30 ?_
    refine g_iconstv (nI 2) d12_thrownBy_12 rfl ?_
    refine g_iload d12_thrownBy_13 rfl ?_
    refine g_i2lN (by omega) d12_thrownBy_15 ?_
    refine g_lastN (2) _ d12_thrownBy_16 a_88 (rfl) (by omega) (by decide) t_88 ?_
    refine g_aload_n d12_thrownBy_17 rfl ?_
    refine g_get fl12_77 d12_thrownBy_18 f_74_30 ?_
    refine g_iconstv (nI 3) d12_thrownBy_21 rfl ?_
    refine g_iload_n d12_thrownBy_22 rfl ?_
    refine g_aload_n d12_thrownBy_23 rfl ?_
    refine g_iload_n d12_thrownBy_24 rfl ?_
    refine g_iconstv (nI 0) d12_thrownBy_25 rfl ?_
    refine g_EV2 vm12_ofCar ml12_167 c_74 (r12_ofCar (c) (0) (by omega) (by omega) (Nat.le_refl 0)) (by omega) (Nat.le_of_ble_eq_true rfl) d12_thrownBy_26 ?_
    refine g_topI (nI (fr)) (q0) ?_
    refine g_isubN (hs1) d12_thrownBy_29 ?_
    refine g_i2lN (by omega) d12_thrownBy_30 ?_
    refine g_lastN (3) _ d12_thrownBy_31 a_88 (rfl) (by omega) (by decide) t_88 ?_
    refine g_aload_n d12_thrownBy_32 rfl ?_
    refine g_get fl12_77 d12_thrownBy_33 f_74_30 ?_
    refine g_iconstv (nI 4) d12_thrownBy_36 rfl ?_
    refine g_aload_n d12_thrownBy_37 rfl ?_
    refine g_iload_n d12_thrownBy_38 rfl ?_
    refine g_iconstv (nI 1) d12_thrownBy_39 rfl ?_
    refine g_EV2 vm12_ofCar ml12_167 c_74 (r12_ofCar (c) (1) (by omega) (by omega) (Nat.le_refl 0)) (by omega) (Nat.le_of_ble_eq_true rfl) d12_thrownBy_40 ?_
    refine g_topI (nI (ti)) (q1) ?_
    refine g_iload_n d12_thrownBy_43 rfl ?_
    refine g_isubN (hs2) d12_thrownBy_44 ?_
    refine g_iconstv (nI 1) d12_thrownBy_45 rfl ?_
    refine g_iaddN d12_thrownBy_46 ?_
    refine g_i2lN (by omega) d12_thrownBy_47 ?_
    refine g_lastN (4) _ d12_thrownBy_48 a_88 (rfl) (by omega) (by decide) t_88 ?_
    refine g_aload_n d12_thrownBy_49 rfl ?_
    refine g_get fl12_77 d12_thrownBy_50 f_74_30 ?_
    refine g_iconstv (nI 5) d12_thrownBy_53 rfl ?_
    refine g_aload_n d12_thrownBy_54 rfl ?_
    refine g_iload_n d12_thrownBy_55 rfl ?_
    refine g_iconstv (nI 2) d12_thrownBy_56 rfl ?_
    refine g_EV2 vm12_ofCar ml12_167 c_74 (r12_ofCar (c) (2) (by omega) (by omega) (Nat.le_refl 0)) (by omega) (Nat.le_of_ble_eq_true rfl) d12_thrownBy_57 ?_
    refine g_topI (nI (se)) (q2) ?_
    refine g_iconstv (nI 1) d12_thrownBy_60 rfl ?_
    refine g_ic_ne ((se : Nat) : Int) (1) 70 (nI_ti (by omega)) (by decide) d12_thrownBy_61 rfl (fun _ => ?_) (fun c61 => absurd c61 (by omega))
    refine g_ldc2 d12_thrownBy_70 kl12_219 ?_
    refine g_lastN (5) _ d12_thrownBy_73 a_88 (rfl) (by omega) (by decide) t_88 ?_
    refine g_aload_n d12_thrownBy_74 rfl ?_
    refine g_get fl12_77 d12_thrownBy_75 f_74_30 ?_
    refine g_bipushv (nI 6) d12_thrownBy_78 rfl ?_
    refine g_aload_n d12_thrownBy_80 rfl ?_
    refine g_iconstv (nI 0) d12_thrownBy_81 rfl ?_
    refine g_EV1 vm12_term ml12_378 c_74 (r12_term (0) (by omega) (Nat.le_refl 0)) (by omega) (Nat.le_of_ble_eq_true rfl) d12_thrownBy_82 ?_
    refine g_topI (nI (coin)) (hco) ?_
    refine g_i2lN (by omega) d12_thrownBy_85 ?_
    refine g_lastN (6) _ d12_thrownBy_86 a_88 (rfl) (by omega) (by decide) t_88 ?_
    refine g_aload_n d12_thrownBy_87 rfl ?_
    refine g_get fl12_77 d12_thrownBy_88 f_74_30 ?_
    refine g_bipushv (nI 7) d12_thrownBy_91 rfl ?_
    refine g_aload_n d12_thrownBy_93 rfl ?_
    refine g_iconstv (nI 1) d12_thrownBy_94 rfl ?_
    refine g_EV1 vm12_term ml12_378 c_74 (r12_term (1) (by omega) (Nat.le_refl 0)) (by omega) (Nat.le_of_ble_eq_true rfl) d12_thrownBy_95 ?_
    refine g_topI (nI (per)) (hpe) ?_
    refine g_i2lN (by omega) d12_thrownBy_98 ?_
    refine g_lastN (7) _ d12_thrownBy_99 a_88 (rfl) (by omega) (by decide) t_88 ?_
    refine g_aload_n d12_thrownBy_100 rfl ?_
    refine g_iconstv (nI 1) d12_thrownBy_101 rfl ?_
    refine g_putZh _ fl12_271 d12_thrownBy_102 f_74_15 (by decide) s_74_15 ?_
    refine g_aload_n d12_thrownBy_105 rfl ?_
    refine g_sipushv (nI 5480) d12_thrownBy_106 rfl ?_
    refine g_sipushv (nI 900) d12_thrownBy_109 rfl ?_
    refine g_iload_n d12_thrownBy_112 rfl ?_
    refine g_imulN d12_thrownBy_113 ?_
    refine g_iaddN d12_thrownBy_114 ?_
    refine g_iconstv (nI 0) d12_thrownBy_115 rfl ?_
    refine g_lconstv (0) d12_thrownBy_116 rfl ?_
    refine g_XV3 vm12_tells ml12_393 c_74 (r12_tells (I := uI I 74 15 1) (L := (sN L (lN s) (lN left) (lN (s - fr)) (lN (ti - s + 1)) (-1) (lN coin) (lN per))) (5480 + 900 * h) nc hd0 s1 s2 t1 t2 op arg (by exact hT) 0 (by decide) 0 _ (Or.inr ⟨uI_ss, rfl⟩) (Nat.le_refl 3)) (by omega) (Nat.le_of_ble_eq_true rfl) d12_thrownBy_117 (fun x hx => ?_)
    refine g_topL (F (hEv coin per fr ti se s k left) 0 0) (by show tF op arg _ hd0 s1 s2 t1 t2 0 0 nc = F (hEv coin per fr ti se s k left) 0 0; rw [← hF]; refine congrFun (congrFun (hinv _ _ (fun j h1 h7 => ?_)) _) _; rw [sN_env j h1 h7]; unfold hEv; rw [if_neg hs9]) ?_
    refine g_iconstv (nI 0) d12_thrownBy_120 rfl ?_
    refine g_bipushv (nI 12) d12_thrownBy_121 rfl ?_
    refine g_ES3 sm12_within ml12_397 (r12_within _ 12 (by decide) (Nat.le_refl 0)) (by omega) (Nat.le_of_ble_eq_true rfl) d12_thrownBy_123 ?_
    refine g_istore d12_thrownBy_126 (by decide) ?_
    refine g_aload_n d12_thrownBy_128 rfl ?_
    refine g_iconstv (nI 0) d12_thrownBy_129 rfl ?_
    refine g_putZh _ fl12_271 d12_thrownBy_130 f_74_15 (by decide) s_74_15 ?_
    refine g_iload d12_thrownBy_133 rfl ?_
    exact g_iret rfl d12_thrownBy_135 (⟨(uI x.1 74 15 0, x.2), thr_fr ho hx.1 hx.2, rfl, rfl⟩)
