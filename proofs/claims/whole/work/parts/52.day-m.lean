/-- the habit that is told -/
def HO (g : Nat → Int32) (x : Int32) (o : Option hbF) : Prop := (o = none ∧ x = -1) ∨ ∃ (h : Nat) (F : hbF), o = some F ∧ x = nI h ∧ HB g h F
def coD (o : Option hbF) (coin per fr ti se first s k left : Nat) : Nat := match o with
  | none => if s = fr then first else 0
  | some F => thr F coin per fr ti se s k left
theorem coD_le {o : Option hbF} {coin per fr ti se first s k left : Nat} (h : first ≤ 12) : coD o coin per fr ti se first s k left ≤ 12 := by
  cases o with
  | none => show (if _ then _ else _) ≤ _; split; exact h; exact Nat.zero_le _
  | some F => exact thr_le F coin per fr ti se s k left
abbrev dyT : Type := Nat × Nat × Nat × Nat
/-- a car's slot: spent, fined, thrown, left -/
def dy1 (coin per fr fl : Nat) (co : Nat → Nat) (fine : Nat) (b sp : Bool) (s : Nat) (x : dyT) : dyT :=
  (x.1 + prc coin fr fl s (co x.2.2.2) + (if b = true ∧ pdb per x.2.2.2 (co x.2.2.2) = 0 ∧ sp = false then fine else 0), x.2.1 + (if b = true ∧ pdb per x.2.2.2 (co x.2.2.2) = 0 ∧ sp = false then 1 else 0), x.2.2.1 + co x.2.2.2, les (pdb per x.2.2.2 (co x.2.2.2)))
set_option maxHeartbeats 800000 in
theorem r12_throwDay {l : Launch} {K : cK} {d : Nat} {I : wI} {L : wL} {R : wR} {dy : cH} (o : Option hbF) (x : Int32) (hO : HO (I 76) x o) (coin per c fr ti se fl first : Nat) (hC : CF I c fr ti se fl) (hco : I 76 6 = nI coin) (hc9 : coin ≤ 9) (hpe : I 76 7 = nI per) (hp4 : per ≤ 4) (ho : I 74 15 = 0) (s k : Nat) (hs1 : fr ≤ s) (hs2 : s ≤ ti) (hk : k ≤ 12) (hf12 : first ≤ 12) (sp th le : Nat) (hsp : I 101 (3 * c) = nI sp) (hth : I 101 (3 * c + 2) = nI th) (hle : I 103 c = nI le) (hl12 : le ≤ 12) (hfs : I 104 c = nI first) (hd : 5 ≤ d) : CW l K m12_throwDay d [.ref 74, .int (nI c), .int x, .int (nI s), .int (nI k)] (hp I L R dy) (α := wI × wL) (fun x => FR [101, 103] [28, 32] [87, 88, 89] [33, 34] I L x.1 x.2 ∧ x.1 101 (3 * c) = nI (sp + prc coin fr fl s (coD o coin per fr ti se first s k le)) ∧ x.1 101 (3 * c + 2) = nI (th + (coD o coin per fr ti se first s k le)) ∧ (∀ q, q ≠ 3 * c → q ≠ 3 * c + 2 → x.1 101 q = I 101 q) ∧ x.1 103 c = nI (pdb per le (coD o coin per fr ti se first s k le)) ∧ ∀ q, q ≠ c → x.1 103 q = I 103 q) (fun x => hp x.1 x.2 R dy) := by
  obtain ⟨hc6, q0, q1, q2, q3, hft, ht11, hse, hfl⟩ := id hC
  have hc12 : (coD o coin per fr ti se first s k le) ≤ 12 := coD_le hf12
  refine CC.of ok12_throwDay (Nat.le_of_ble_eq_true rfl) ?_
  rcases hO with ⟨rfl, rfl⟩ | ⟨h, F, rfl, rfl, hB⟩
  · by_cases hsf : s = fr
    · have hcv : coD none coin per fr ti se first s k le = first := if_pos hsf
      rw [hcv] at *
      refine g_iload_n d12_throwDay_0 rfl ?_
      refine g_iconstv ((-1 : Int32)) d12_throwDay_1 rfl ?_
      refine g_ic_eq (-1) (-1) 23 (by decide) (by decide) d12_throwDay_2 rfl (fun _ => ?_) (fun c2 => absurd c2 (by decide))
      refine g_iload_n d12_throwDay_23 rfl ?_
      refine g_aload_n d12_throwDay_24 rfl ?_
      refine g_iload_n d12_throwDay_25 rfl ?_
      refine g_iconstv (nI 0) d12_throwDay_26 rfl ?_
      refine g_EV2 vm12_ofCar ml12_167 c_74 (r12_ofCar (c) (0) (by omega) (by omega) (Nat.le_refl 0)) (by omega) (Nat.le_of_ble_eq_true rfl) d12_throwDay_27 ?_
      refine g_topI (nI (fr)) (q0) ?_
      refine g_ic_ne ((s : Nat) : Int) ((fr : Nat) : Int) 42 (nI_ti (by omega)) (nI_ti (by omega)) d12_throwDay_30 rfl (fun c30 => absurd c30 (by omega)) (fun _ => ?_)
      refine g_aload_n d12_throwDay_33 rfl ?_
      refine g_get fl12_125 d12_throwDay_34 f_74_59 ?_
      refine g_iload_n d12_throwDay_37 rfl ?_
      refine g_ialdN (c) d12_throwDay_38 a_104 (rfl) (by omega) (by decide) ?_
      refine g_topI (nI (first)) (hfs) ?_
      refine g_goto 43 d12_throwDay_39 rfl ?_
      refine g_istore d12_throwDay_43 (by decide) ?_
      refine g_aload_n d12_throwDay_45 rfl ?_
      refine g_get fl12_116 d12_throwDay_46 f_74_54 ?_
      refine g_iconstv (nI 3) d12_throwDay_49 rfl ?_
      refine g_iload_n d12_throwDay_50 rfl ?_
      refine g_imulN d12_throwDay_51 ?_
      refine g_dup2 d12_throwDay_52 rfl rfl ?_
      refine g_ialdN ((3 * c)) d12_throwDay_53 a_101 (rfl) (by omega) (by decide) ?_
      refine g_topI (nI (sp)) (hsp) ?_
      refine g_aload_n d12_throwDay_54 rfl ?_
      refine g_iload_n d12_throwDay_55 rfl ?_
      refine g_iload_n d12_throwDay_56 rfl ?_
      refine g_iload d12_throwDay_57 rfl ?_
      refine g_EV3 vm12_price ml12_454 c_74 (r12_price coin c fr ti se fl s first (hC) (hco) hc9 (by omega) (by omega) (Nat.le_refl 1)) (by omega) (Nat.le_of_ble_eq_true rfl) d12_throwDay_59 ?_
      refine g_iaddN d12_throwDay_62 ?_
      refine g_iastN ((3 * c)) _ d12_throwDay_63 a_101 (rfl) (by omega) (by decide) t_101 ?_
      refine g_aload_n d12_throwDay_64 rfl ?_
      refine g_get fl12_116 d12_throwDay_65 f_74_54 ?_
      refine g_iconstv (nI 3) d12_throwDay_68 rfl ?_
      refine g_iload_n d12_throwDay_69 rfl ?_
      refine g_imulN d12_throwDay_70 ?_
      refine g_iconstv (nI 2) d12_throwDay_71 rfl ?_
      refine g_iaddN d12_throwDay_72 ?_
      refine g_dup2 d12_throwDay_73 rfl rfl ?_
      refine g_ialdN (((3 * c) + 2)) d12_throwDay_74 a_101 (rfl) (by omega) (by decide) ?_
      refine g_topI (nI (th)) (by rw [uI_sn (by omega)]; exact hth) ?_
      refine g_iload d12_throwDay_75 rfl ?_
      refine g_iaddN d12_throwDay_77 ?_
      refine g_iastN (((3 * c) + 2)) _ d12_throwDay_78 a_101 (rfl) (by omega) (by decide) t_101 ?_
      refine g_aload_n d12_throwDay_79 rfl ?_
      refine g_get fl12_122 d12_throwDay_80 f_74_56 ?_
      refine g_iload_n d12_throwDay_83 rfl ?_
      refine g_aload_n d12_throwDay_84 rfl ?_
      refine g_aload_n d12_throwDay_85 rfl ?_
      refine g_get fl12_122 d12_throwDay_86 f_74_56 ?_
      refine g_iload_n d12_throwDay_89 rfl ?_
      refine g_ialdN (c) d12_throwDay_90 a_103 (rfl) (by omega) (by decide) ?_
      refine g_topI (nI (le)) (hle) ?_
      refine g_iload d12_throwDay_91 rfl ?_
      refine g_EV2 vm12_paidBy ml12_424 c_74 (r12_paidBy per le first (by exact hpe) hp4 hl12 (by omega) (Nat.le_refl 1)) (by omega) (Nat.le_of_ble_eq_true rfl) d12_throwDay_93 ?_
      refine g_iastN (c) _ d12_throwDay_96 a_103 (rfl) (by omega) (by decide) t_103 ?_
      exact g_vret rfl d12_throwDay_97 (⟨(uI (uI (uI I 101 (3 * c) (nI (sp + prc coin fr fl s first))) 101 (3 * c + 2) (nI (th + first))) 103 c (nI (pdb per le first)), L), ⟨(((FR.rf : FR [101, 103] [28, 32] [87, 88, 89] [33, 34] I L I L).ui (by decide) (by decide)).ui (by decide) (by decide)).ui (by decide) (by decide), by dsimp only; rw [uI_n (by decide), uI_sn (by omega), uI_ss], by dsimp only; rw [uI_n (by decide), uI_ss], fun q h1 h2 => by dsimp only; rw [uI_n (by decide), uI_sn h2, uI_sn h1], by dsimp only; rw [uI_ss], fun q h1 => by dsimp only; rw [uI_sn h1, uI_n (by decide), uI_n (by decide)]⟩, rfl, rfl⟩)
    · have hcv : coD none coin per fr ti se first s k le = 0 := if_neg hsf
      rw [hcv] at *
      refine g_iload_n d12_throwDay_0 rfl ?_
      refine g_iconstv ((-1 : Int32)) d12_throwDay_1 rfl ?_
      refine g_ic_eq (-1) (-1) 23 (by decide) (by decide) d12_throwDay_2 rfl (fun _ => ?_) (fun c2 => absurd c2 (by decide))
      refine g_iload_n d12_throwDay_23 rfl ?_
      refine g_aload_n d12_throwDay_24 rfl ?_
      refine g_iload_n d12_throwDay_25 rfl ?_
      refine g_iconstv (nI 0) d12_throwDay_26 rfl ?_
      refine g_EV2 vm12_ofCar ml12_167 c_74 (r12_ofCar (c) (0) (by omega) (by omega) (Nat.le_refl 0)) (by omega) (Nat.le_of_ble_eq_true rfl) d12_throwDay_27 ?_
      refine g_topI (nI (fr)) (q0) ?_
      refine g_ic_ne ((s : Nat) : Int) ((fr : Nat) : Int) 42 (nI_ti (by omega)) (nI_ti (by omega)) d12_throwDay_30 rfl (fun _ => ?_) (fun c30 => absurd c30 (by omega))
      refine g_iconstv (nI 0) d12_throwDay_42 rfl ?_
      refine g_istore d12_throwDay_43 (by decide) ?_
      refine g_aload_n d12_throwDay_45 rfl ?_
      refine g_get fl12_116 d12_throwDay_46 f_74_54 ?_
      refine g_iconstv (nI 3) d12_throwDay_49 rfl ?_
      refine g_iload_n d12_throwDay_50 rfl ?_
      refine g_imulN d12_throwDay_51 ?_
      refine g_dup2 d12_throwDay_52 rfl rfl ?_
      refine g_ialdN ((3 * c)) d12_throwDay_53 a_101 (rfl) (by omega) (by decide) ?_
      refine g_topI (nI (sp)) (hsp) ?_
      refine g_aload_n d12_throwDay_54 rfl ?_
      refine g_iload_n d12_throwDay_55 rfl ?_
      refine g_iload_n d12_throwDay_56 rfl ?_
      refine g_iload d12_throwDay_57 rfl ?_
      refine g_EV3 vm12_price ml12_454 c_74 (r12_price coin c fr ti se fl s 0 (hC) (hco) hc9 (by omega) (by omega) (Nat.le_refl 1)) (by omega) (Nat.le_of_ble_eq_true rfl) d12_throwDay_59 ?_
      refine g_iaddN d12_throwDay_62 ?_
      refine g_iastN ((3 * c)) _ d12_throwDay_63 a_101 (rfl) (by omega) (by decide) t_101 ?_
      refine g_aload_n d12_throwDay_64 rfl ?_
      refine g_get fl12_116 d12_throwDay_65 f_74_54 ?_
      refine g_iconstv (nI 3) d12_throwDay_68 rfl ?_
      refine g_iload_n d12_throwDay_69 rfl ?_
      refine g_imulN d12_throwDay_70 ?_
      refine g_iconstv (nI 2) d12_throwDay_71 rfl ?_
      refine g_iaddN d12_throwDay_72 ?_
      refine g_dup2 d12_throwDay_73 rfl rfl ?_
      refine g_ialdN (((3 * c) + 2)) d12_throwDay_74 a_101 (rfl) (by omega) (by decide) ?_
      refine g_topI (nI (th)) (by rw [uI_sn (by omega)]; exact hth) ?_
      refine g_iload d12_throwDay_75 rfl ?_
      refine g_iaddN d12_throwDay_77 ?_
      refine g_iastN (((3 * c) + 2)) _ d12_throwDay_78 a_101 (rfl) (by omega) (by decide) t_101 ?_
      refine g_aload_n d12_throwDay_79 rfl ?_
      refine g_get fl12_122 d12_throwDay_80 f_74_56 ?_
      refine g_iload_n d12_throwDay_83 rfl ?_
      refine g_aload_n d12_throwDay_84 rfl ?_
      refine g_aload_n d12_throwDay_85 rfl ?_
      refine g_get fl12_122 d12_throwDay_86 f_74_56 ?_
      refine g_iload_n d12_throwDay_89 rfl ?_
      refine g_ialdN (c) d12_throwDay_90 a_103 (rfl) (by omega) (by decide) ?_
      refine g_topI (nI (le)) (hle) ?_
      refine g_iload d12_throwDay_91 rfl ?_
      refine g_EV2 vm12_paidBy ml12_424 c_74 (r12_paidBy per le 0 (by exact hpe) hp4 hl12 (by omega) (Nat.le_refl 1)) (by omega) (Nat.le_of_ble_eq_true rfl) d12_throwDay_93 ?_
      refine g_iastN (c) _ d12_throwDay_96 a_103 (rfl) (by omega) (by decide) t_103 ?_
      exact g_vret rfl d12_throwDay_97 (⟨(uI (uI (uI I 101 (3 * c) (nI (sp + prc coin fr fl s 0))) 101 (3 * c + 2) (nI (th + 0))) 103 c (nI (pdb per le 0)), L), ⟨(((FR.rf : FR [101, 103] [28, 32] [87, 88, 89] [33, 34] I L I L).ui (by decide) (by decide)).ui (by decide) (by decide)).ui (by decide) (by decide), by dsimp only; rw [uI_n (by decide), uI_sn (by omega), uI_ss], by dsimp only; rw [uI_n (by decide), uI_ss], fun q h1 h2 => by dsimp only; rw [uI_n (by decide), uI_sn h2, uI_sn h1], by dsimp only; rw [uI_ss], fun q h1 => by dsimp only; rw [uI_sn h1, uI_n (by decide), uI_n (by decide)]⟩, rfl, rfl⟩)
  · have hh6 := hB.1
    refine g_iload_n d12_throwDay_0 rfl ?_
    refine g_iconstv ((-1 : Int32)) d12_throwDay_1 rfl ?_
    refine g_ic_eq ((h : Nat) : Int) (-1) 23 (nI_ti (by omega)) (by decide) d12_throwDay_2 rfl (fun c2 => absurd c2 (by omega)) (fun _ => ?_)
    refine g_aload_n d12_throwDay_5 rfl ?_
    refine g_iload_n d12_throwDay_6 rfl ?_
    refine g_iload_n d12_throwDay_7 rfl ?_
    refine g_iload_n d12_throwDay_8 rfl ?_
    refine g_iload d12_throwDay_9 rfl ?_
    refine g_aload_n d12_throwDay_11 rfl ?_
    refine g_get fl12_122 d12_throwDay_12 f_74_56 ?_
    refine g_iload_n d12_throwDay_15 rfl ?_
    refine g_ialdN (c) d12_throwDay_16 a_103 (rfl) (by omega) (by decide) ?_
    refine g_topI (nI (le)) (hle) ?_
    refine g_XV5 vm12_thrownBy ml12_480 c_74 (r12_thrownBy h F hB coin per c fr ti se fl hC hco hc9 hpe hp4 ho s k le hs1 hs2 hk hl12 (Nat.le_refl 4)) (by omega) (Nat.le_of_ble_eq_true rfl) d12_throwDay_17 (fun y hx => ?_)
    obtain ⟨I2, L2⟩ := y
    dsimp only at hx ⊢
    have e0 : ∀ q, q ≠ 74 → I2 q = I q := fun q h => hx.1 q (by simp) h
    have hc12 : thr F coin per fr ti se s k le ≤ 12 := thr_le _ _ _ _ _ _ _ _ _
    refine g_goto 43 d12_throwDay_20 rfl ?_
    refine g_istore d12_throwDay_43 (by decide) ?_
    refine g_aload_n d12_throwDay_45 rfl ?_
    refine g_get fl12_116 d12_throwDay_46 f_74_54 ?_
    refine g_iconstv (nI 3) d12_throwDay_49 rfl ?_
    refine g_iload_n d12_throwDay_50 rfl ?_
    refine g_imulN d12_throwDay_51 ?_
    refine g_dup2 d12_throwDay_52 rfl rfl ?_
    refine g_ialdN ((3 * c)) d12_throwDay_53 a_101 (rfl) (by omega) (by decide) ?_
    refine g_topI (nI (sp)) ((congrFun (e0 101 (by decide)) _).trans hsp) ?_
    refine g_aload_n d12_throwDay_54 rfl ?_
    refine g_iload_n d12_throwDay_55 rfl ?_
    refine g_iload_n d12_throwDay_56 rfl ?_
    refine g_iload d12_throwDay_57 rfl ?_
    refine g_EV3 vm12_price ml12_454 c_74 (r12_price coin c fr ti se fl s (thr F coin per fr ti se s k le) (hC.of (e0 76 (by decide))) ((congrFun (e0 76 (by decide)) _).trans hco) hc9 (by omega) (by omega) (Nat.le_refl 1)) (by omega) (Nat.le_of_ble_eq_true rfl) d12_throwDay_59 ?_
    refine g_iaddN d12_throwDay_62 ?_
    refine g_iastN ((3 * c)) _ d12_throwDay_63 a_101 (rfl) (by omega) (by decide) t_101 ?_
    refine g_aload_n d12_throwDay_64 rfl ?_
    refine g_get fl12_116 d12_throwDay_65 f_74_54 ?_
    refine g_iconstv (nI 3) d12_throwDay_68 rfl ?_
    refine g_iload_n d12_throwDay_69 rfl ?_
    refine g_imulN d12_throwDay_70 ?_
    refine g_iconstv (nI 2) d12_throwDay_71 rfl ?_
    refine g_iaddN d12_throwDay_72 ?_
    refine g_dup2 d12_throwDay_73 rfl rfl ?_
    refine g_ialdN (((3 * c) + 2)) d12_throwDay_74 a_101 (rfl) (by omega) (by decide) ?_
    refine g_topI (nI (th)) (by rw [uI_sn (by omega)]; exact (congrFun (e0 101 (by decide)) _).trans hth) ?_
    refine g_iload d12_throwDay_75 rfl ?_
    refine g_iaddN d12_throwDay_77 ?_
    refine g_iastN (((3 * c) + 2)) _ d12_throwDay_78 a_101 (rfl) (by omega) (by decide) t_101 ?_
    refine g_aload_n d12_throwDay_79 rfl ?_
    refine g_get fl12_122 d12_throwDay_80 f_74_56 ?_
    refine g_iload_n d12_throwDay_83 rfl ?_
    refine g_aload_n d12_throwDay_84 rfl ?_
    refine g_aload_n d12_throwDay_85 rfl ?_
    refine g_get fl12_122 d12_throwDay_86 f_74_56 ?_
    refine g_iload_n d12_throwDay_89 rfl ?_
    refine g_ialdN (c) d12_throwDay_90 a_103 (rfl) (by omega) (by decide) ?_
    refine g_topI (nI (le)) ((congrFun (e0 103 (by decide)) _).trans hle) ?_
    refine g_iload d12_throwDay_91 rfl ?_
    refine g_EV2 vm12_paidBy ml12_424 c_74 (r12_paidBy per le (thr F coin per fr ti se s k le) (by exact (congrFun (e0 76 (by decide)) _).trans hpe) hp4 hl12 (by omega) (Nat.le_refl 1)) (by omega) (Nat.le_of_ble_eq_true rfl) d12_throwDay_93 ?_
    refine g_iastN (c) _ d12_throwDay_96 a_103 (rfl) (by omega) (by decide) t_103 ?_
    exact g_vret rfl d12_throwDay_97 (⟨(uI (uI (uI I2 101 (3 * c) (nI (sp + prc coin fr fl s (thr F coin per fr ti se s k le)))) 101 (3 * c + 2) (nI (th + (thr F coin per fr ti se s k le)))) 103 c (nI (pdb per le (thr F coin per fr ti se s k le))), L2), ⟨(((hx.up (by decide) (by decide) (by decide) (by decide) : FR [101, 103] [28, 32] [87, 88, 89] [33, 34] I L I2 L2).ui (by decide) (by decide)).ui (by decide) (by decide)).ui (by decide) (by decide), by dsimp only; rw [uI_n (by decide), uI_sn (by omega), uI_ss]; rfl, by dsimp only; rw [uI_n (by decide), uI_ss]; rfl, fun q h1 h2 => by dsimp only; rw [uI_n (by decide), uI_sn h2, uI_sn h1]; exact congrFun (e0 101 (by decide)) q, by dsimp only; rw [uI_ss]; rfl, fun q h1 => by dsimp only; rw [uI_sn h1, uI_n (by decide), uI_n (by decide)]; exact congrFun (e0 103 (by decide)) q⟩, rfl, rfl⟩)
set_option maxHeartbeats 800000 in
theorem r12_comeDay {l : Launch} {K : cK} {d : Nat} {I : wI} {L : wL} {R : wR} {dy : cH} (lf : lawF) (ha : askd I lf) (c fr ti se fl : Nat) (hC : CF I c fr ti se fl) (fine : Nat) (hfi : I 76 8 = nI fine) (hf9 : fine ≤ 99) (ho : I 74 15 = 0) (s k : Nat) (hs1 : fr ≤ s) (hs2 : s ≤ ti) (hk : k ≤ 12) (b : Bool) (sp fi le : Nat) (hsp : I 101 (3 * c) = nI sp) (hfd : I 101 (3 * c + 1) = nI fi) (hle : I 103 c = nI le) (hl12 : le ≤ 12) (hd : 5 ≤ d) : CW l K m12_comeDay d [.ref 74, .int (nI c), .int (nI s), .int (nI k), .int (if b = true then 1 else 0)] (hp I L R dy) (α := wI × wL) (fun x => FR [101, 103] [28, 32] [87, 88, 89] [33, 34] I L x.1 x.2 ∧ x.1 101 (3 * c) = nI (sp + (if b = true ∧ le = 0 ∧ spB lf (ceR (I 76) (I 74 36) c fr s k) = false then fiF lf (ceR (I 76) (I 74 36) c fr s k) fine else 0)) ∧ x.1 101 (3 * c + 1) = nI (fi + (if b = true ∧ le = 0 ∧ spB lf (ceR (I 76) (I 74 36) c fr s k) = false then 1 else 0)) ∧ (∀ q, q ≠ 3 * c → q ≠ 3 * c + 1 → x.1 101 q = I 101 q) ∧ x.1 103 c = nI (les le) ∧ ∀ q, q ≠ c → x.1 103 q = I 103 q) (fun x => hp x.1 x.2 R dy) := by
  obtain ⟨hc6, q0, q1, q2, q3, hft, ht11, hse, hfl⟩ := id hC
  refine CC.of ok12_comeDay (Nat.le_of_ble_eq_true rfl) ?_
  by_cases hb : b = true
  rotate_left
  · skip
    refine g_iload d12_comeDay_0 rfl ?_
    refine g_bz 61 d12_comeDay_2 rfl (fun _ => ?_) (fun c2 => absurd c2 (hb))
    refine g_aload_n d12_comeDay_61 rfl ?_
    refine g_get fl12_122 d12_comeDay_62 f_74_56 ?_
    refine g_iload_n d12_comeDay_65 rfl ?_
    refine g_aload_n d12_comeDay_66 rfl ?_
    refine g_get fl12_122 d12_comeDay_67 f_74_56 ?_
    refine g_iload_n d12_comeDay_70 rfl ?_
    refine g_ialdN (c) d12_comeDay_71 a_103 (rfl) (by omega) (by decide) ?_
    refine g_topI (nI (le)) (hle) ?_
    refine g_ES1 sm12_less ml12_427 (r12_less (le) (by omega) (Nat.le_refl 0)) (by omega) (Nat.le_of_ble_eq_true rfl) d12_comeDay_72 ?_
    refine g_iastN (c) _ d12_comeDay_75 a_103 (rfl) (by omega) (by decide) t_103 ?_
    exact g_vret rfl d12_comeDay_76 (⟨(uI I 103 c (nI (les le)), L), ⟨(FR.rf : FR [101, 103] [28, 32] [87, 88, 89] [33, 34] I L I L).ui (by decide) (by decide), by dsimp only; rw [uI_n (by decide), if_neg (fun z => hb z.1)]; exact hsp, by dsimp only; rw [uI_n (by decide), if_neg (fun z => hb z.1)]; exact hfd, fun q _ _ => by dsimp only; rw [uI_n (by decide)], by dsimp only; rw [uI_ss], fun q h1 => by dsimp only; rw [uI_sn h1]⟩, rfl, rfl⟩)
  · by_cases hl0 : le = 0
    rotate_left
    · skip
      refine g_iload d12_comeDay_0 rfl ?_
      refine g_bz 61 d12_comeDay_2 rfl (fun c2 => absurd c2 (by first | exact fun z => z hb | exact c2 hb)) (fun _ => ?_)
      refine g_aload_n d12_comeDay_5 rfl ?_
      refine g_get fl12_122 d12_comeDay_6 f_74_56 ?_
      refine g_iload_n d12_comeDay_9 rfl ?_
      refine g_ialdN (c) d12_comeDay_10 a_103 (rfl) (by omega) (by decide) ?_
      refine g_topI (nI (le)) (hle) ?_
      refine g_iz_ne ((le : Nat) : Int) 61 (nI_ti (by omega)) d12_comeDay_11 rfl (fun _ => ?_) (fun c11 => absurd c11 (by omega))
      refine g_aload_n d12_comeDay_61 rfl ?_
      refine g_get fl12_122 d12_comeDay_62 f_74_56 ?_
      refine g_iload_n d12_comeDay_65 rfl ?_
      refine g_aload_n d12_comeDay_66 rfl ?_
      refine g_get fl12_122 d12_comeDay_67 f_74_56 ?_
      refine g_iload_n d12_comeDay_70 rfl ?_
      refine g_ialdN (c) d12_comeDay_71 a_103 (rfl) (by omega) (by decide) ?_
      refine g_topI (nI (le)) (hle) ?_
      refine g_ES1 sm12_less ml12_427 (r12_less (le) (by omega) (Nat.le_refl 0)) (by omega) (Nat.le_of_ble_eq_true rfl) d12_comeDay_72 ?_
      refine g_iastN (c) _ d12_comeDay_75 a_103 (rfl) (by omega) (by decide) t_103 ?_
      exact g_vret rfl d12_comeDay_76 (⟨(uI I 103 c (nI (les le)), L), ⟨(FR.rf : FR [101, 103] [28, 32] [87, 88, 89] [33, 34] I L I L).ui (by decide) (by decide), by dsimp only; rw [uI_n (by decide), if_neg (fun z => hl0 z.2.1)]; exact hsp, by dsimp only; rw [uI_n (by decide), if_neg (fun z => hl0 z.2.1)]; exact hfd, fun q _ _ => by dsimp only; rw [uI_n (by decide)], by dsimp only; rw [uI_ss], fun q h1 => by dsimp only; rw [uI_sn h1]⟩, rfl, rfl⟩)
    · subst hl0
      by_cases hsb : spB lf (ceR (I 76) (I 74 36) c fr s k) = true
      · skip
        refine g_iload d12_comeDay_0 rfl ?_
        refine g_bz 61 d12_comeDay_2 rfl (fun c2 => absurd c2 (by first | exact fun z => z hb | exact c2 hb)) (fun _ => ?_)
        refine g_aload_n d12_comeDay_5 rfl ?_
        refine g_get fl12_122 d12_comeDay_6 f_74_56 ?_
        refine g_iload_n d12_comeDay_9 rfl ?_
        refine g_ialdN (c) d12_comeDay_10 a_103 (rfl) (by omega) (by decide) ?_
        refine g_topI (nI (0)) (hle) ?_
        refine g_iz_ne ((0 : Nat) : Int) 61 (nI_ti (by omega)) d12_comeDay_11 rfl (fun c11 => absurd c11 (by omega)) (fun _ => ?_)
        refine g_aload_n d12_comeDay_14 rfl ?_
        refine g_iload_n d12_comeDay_15 rfl ?_
        refine g_iload_n d12_comeDay_16 rfl ?_
        refine g_iload_n d12_comeDay_17 rfl ?_
        refine g_XV3 vm12_isSpared ml12_412 c_74 (r12_isSpared s k c fr (by omega) (by omega) hc6 q0 hs1 lf ha ho (Nat.le_refl 4)) (by omega) (Nat.le_of_ble_eq_true rfl) d12_comeDay_18 (fun y hy => ?_)
        obtain ⟨I2, L2⟩ := y
        have hF2 : FR [101, 103] [28, 32] [87, 88, 89] [33, 34] I L I2 L2 := hy.fr.up (by decide) (by decide) (by decide) (by decide)
        have e0 : ∀ q, q ≠ 74 → I2 q = I q := fun q h => hy.fr.1 q (by simp) h
        have e36 : I2 74 36 = I 74 36 := hy.fr.2.1 36 (by decide)
        have e35 : I2 74 35 = I 74 35 := hy.fr.2.1 35 (by decide)
        have e15 : I2 74 15 = 0 := (hy.fr.2.1 15 (by decide)).trans ho
        dsimp only
        refine g_bnz 61 d12_comeDay_21 rfl (fun _ => ?_) (fun c21 => absurd c21 (fun z => z hsb))
        refine g_aload_n d12_comeDay_61 rfl ?_
        refine g_get fl12_122 d12_comeDay_62 f_74_56 ?_
        refine g_iload_n d12_comeDay_65 rfl ?_
        refine g_aload_n d12_comeDay_66 rfl ?_
        refine g_get fl12_122 d12_comeDay_67 f_74_56 ?_
        refine g_iload_n d12_comeDay_70 rfl ?_
        refine g_ialdN (c) d12_comeDay_71 a_103 (rfl) (by omega) (by decide) ?_
        refine g_topI (nI (0)) ((congrFun (e0 103 (by decide)) _).trans hle) ?_
        refine g_ES1 sm12_less ml12_427 (r12_less (0) (by omega) (Nat.le_refl 0)) (by omega) (Nat.le_of_ble_eq_true rfl) d12_comeDay_72 ?_
        refine g_iastN (c) _ d12_comeDay_75 a_103 (rfl) (by omega) (by decide) t_103 ?_
        exact g_vret rfl d12_comeDay_76 (⟨(uI I2 103 c (nI (les 0)), L2), ⟨hF2.ui (by decide) (by decide), by dsimp only; rw [uI_n (by decide), if_neg (fun z => by rw [hsb] at z; exact absurd z.2.2 (by decide))]; exact (congrFun (e0 101 (by decide)) _).trans hsp, by dsimp only; rw [uI_n (by decide), if_neg (fun z => by rw [hsb] at z; exact absurd z.2.2 (by decide))]; exact (congrFun (e0 101 (by decide)) _).trans hfd, fun q _ _ => by dsimp only; rw [uI_n (by decide)]; exact congrFun (e0 101 (by decide)) q, by dsimp only; rw [uI_ss], fun q h1 => by dsimp only; rw [uI_sn h1]; exact congrFun (e0 103 (by decide)) q⟩, rfl, rfl⟩)
      · have hsb2 : spB lf (ceR (I 76) (I 74 36) c fr s k) = false := by simpa using hsb
        refine g_iload d12_comeDay_0 rfl ?_
        refine g_bz 61 d12_comeDay_2 rfl (fun c2 => absurd c2 (by first | exact fun z => z hb | exact c2 hb)) (fun _ => ?_)
        refine g_aload_n d12_comeDay_5 rfl ?_
        refine g_get fl12_122 d12_comeDay_6 f_74_56 ?_
        refine g_iload_n d12_comeDay_9 rfl ?_
        refine g_ialdN (c) d12_comeDay_10 a_103 (rfl) (by omega) (by decide) ?_
        refine g_topI (nI (0)) (hle) ?_
        refine g_iz_ne ((0 : Nat) : Int) 61 (nI_ti (by omega)) d12_comeDay_11 rfl (fun c11 => absurd c11 (by omega)) (fun _ => ?_)
        refine g_aload_n d12_comeDay_14 rfl ?_
        refine g_iload_n d12_comeDay_15 rfl ?_
        refine g_iload_n d12_comeDay_16 rfl ?_
        refine g_iload_n d12_comeDay_17 rfl ?_
        refine g_XV3 vm12_isSpared ml12_412 c_74 (r12_isSpared s k c fr (by omega) (by omega) hc6 q0 hs1 lf ha ho (Nat.le_refl 4)) (by omega) (Nat.le_of_ble_eq_true rfl) d12_comeDay_18 (fun y hy => ?_)
        obtain ⟨I2, L2⟩ := y
        have hF2 : FR [101, 103] [28, 32] [87, 88, 89] [33, 34] I L I2 L2 := hy.fr.up (by decide) (by decide) (by decide) (by decide)
        have e0 : ∀ q, q ≠ 74 → I2 q = I q := fun q h => hy.fr.1 q (by simp) h
        have e36 : I2 74 36 = I 74 36 := hy.fr.2.1 36 (by decide)
        have e35 : I2 74 35 = I 74 35 := hy.fr.2.1 35 (by decide)
        have e15 : I2 74 15 = 0 := (hy.fr.2.1 15 (by decide)).trans ho
        dsimp only
        refine g_bnz 61 d12_comeDay_21 rfl (fun c21 => absurd c21 (hsb)) (fun _ => ?_)
        refine g_aload_n d12_comeDay_24 rfl ?_
        refine g_get fl12_116 d12_comeDay_25 f_74_54 ?_
        refine g_iconstv (nI 3) d12_comeDay_28 rfl ?_
        refine g_iload_n d12_comeDay_29 rfl ?_
        refine g_imulN d12_comeDay_30 ?_
        refine g_dup2 d12_comeDay_31 rfl rfl ?_
        refine g_ialdN ((3 * c)) d12_comeDay_32 a_101 (rfl) (by omega) (by decide) ?_
        refine g_topI (nI (sp)) ((congrFun (e0 101 (by decide)) _).trans hsp) ?_
        refine g_aload_n d12_comeDay_33 rfl ?_
        refine g_iload_n d12_comeDay_34 rfl ?_
        refine g_iload_n d12_comeDay_35 rfl ?_
        refine g_iload_n d12_comeDay_36 rfl ?_
        refine g_aload_n d12_comeDay_37 rfl ?_
        refine g_iconstv (nI 2) d12_comeDay_38 rfl ?_
        refine g_EV1 vm12_term ml12_378 c_74 (r12_term (2) (by omega) (Nat.le_refl 0)) (by omega) (Nat.le_of_ble_eq_true rfl) d12_comeDay_39 ?_
        refine g_topI (nI (fine)) ((congrFun (e0 76 (by decide)) _).trans hfi) ?_
        refine g_XV4 vm12_finesOf ml12_409 c_74 (r12_finesOf (I := I2) (L := L2) s k c fr (by omega) (by omega) hc6 (by rw [e0 76 (by decide)]; exact q0) hs1 fine (by omega) lf (ha.of (e0 76 (by decide)) e35) e15 (Nat.le_refl 4)) (by omega) (Nat.le_of_ble_eq_true rfl) d12_comeDay_42 (fun z hz => ?_)
        refine g_topI (nI (fiF lf (ceR (I 76) (I 74 36) c fr s k) fine)) (by unfold ceR; rw [e0 76 (by decide), e36]) ?_
        obtain ⟨I4, L4⟩ := z
        have hF4 : FR [101, 103] [28, 32] [87, 88, 89] [33, 34] I L I4 L4 := hF2.tr (hz.fr.up (by decide) (by decide) (by decide) (by decide))
        have g0 : ∀ q, q ≠ 74 → I4 q = I q := fun q h => (hz.fr.1 q (by simp) h).trans (e0 q h)
        dsimp only
        refine g_iaddN d12_comeDay_45 ?_
        refine g_iastN ((3 * c)) _ d12_comeDay_46 a_101 (rfl) (by omega) (by decide) t_101 ?_
        refine g_aload_n d12_comeDay_47 rfl ?_
        refine g_get fl12_116 d12_comeDay_48 f_74_54 ?_
        refine g_iconstv (nI 3) d12_comeDay_51 rfl ?_
        refine g_iload_n d12_comeDay_52 rfl ?_
        refine g_imulN d12_comeDay_53 ?_
        refine g_iconstv (nI 1) d12_comeDay_54 rfl ?_
        refine g_iaddN d12_comeDay_55 ?_
        refine g_dup2 d12_comeDay_56 rfl rfl ?_
        refine g_ialdN (((3 * c) + 1)) d12_comeDay_57 a_101 (rfl) (by omega) (by decide) ?_
        refine g_topI (nI (fi)) (by rw [uI_sn (by omega)]; exact (congrFun (g0 101 (by decide)) _).trans hfd) ?_
        refine g_iconstv (nI 1) d12_comeDay_58 rfl ?_
        refine g_iaddN d12_comeDay_59 ?_
        refine g_iastN (((3 * c) + 1)) _ d12_comeDay_60 a_101 (rfl) (by omega) (by decide) t_101 ?_
        refine g_aload_n d12_comeDay_61 rfl ?_
        refine g_get fl12_122 d12_comeDay_62 f_74_56 ?_
        refine g_iload_n d12_comeDay_65 rfl ?_
        refine g_aload_n d12_comeDay_66 rfl ?_
        refine g_get fl12_122 d12_comeDay_67 f_74_56 ?_
        refine g_iload_n d12_comeDay_70 rfl ?_
        refine g_ialdN (c) d12_comeDay_71 a_103 (rfl) (by omega) (by decide) ?_
        refine g_topI (nI (0)) ((congrFun (g0 103 (by decide)) _).trans hle) ?_
        refine g_ES1 sm12_less ml12_427 (r12_less (0) (by omega) (Nat.le_refl 0)) (by omega) (Nat.le_of_ble_eq_true rfl) d12_comeDay_72 ?_
        refine g_iastN (c) _ d12_comeDay_75 a_103 (rfl) (by omega) (by decide) t_103 ?_
        exact g_vret rfl d12_comeDay_76 (⟨(uI (uI (uI I4 101 (3 * c) (nI (sp + fiF lf (ceR (I 76) (I 74 36) c fr s k) fine))) 101 (3 * c + 1) (nI (fi + 1))) 103 c (nI (les 0)), L4), ⟨((hF4.ui (by decide) (by decide)).ui (by decide) (by decide)).ui (by decide) (by decide), by dsimp only; rw [uI_n (by decide), uI_sn (by omega), uI_ss, if_pos ⟨hb, rfl, hsb2⟩], by dsimp only; rw [uI_n (by decide), uI_ss, if_pos ⟨hb, rfl, hsb2⟩], fun q h1 h2 => by dsimp only; rw [uI_n (by decide), uI_sn h2, uI_sn h1]; exact congrFun (g0 101 (by decide)) q, by dsimp only; rw [uI_ss], fun q h1 => by dsimp only; rw [uI_sn h1, uI_n (by decide), uI_n (by decide)]; exact congrFun (g0 103 (by decide)) q⟩, rfl, rfl⟩)
