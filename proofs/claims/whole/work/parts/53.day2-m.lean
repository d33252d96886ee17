/-- all that a day goes by -/
abbrev DPt : Type := (Nat → Int32) × lawF × (Option hbF) × Nat × Nat × Nat × Nat × Nat × (Nat → Nat) × (Nat → Nat) × (Nat → Nat) × (Nat → Nat)
def DP : Type := DPt
def DP.mk (g : (Nat → Int32)) (lf : lawF) (o : (Option hbF)) (coin : Nat) (per : Nat) (fine : Nat) (s0 : Nat) (z0 : Nat) (cF : (Nat → Nat)) (cT : (Nat → Nat)) (cS : (Nat → Nat)) (cL : (Nat → Nat)) : DP := show DPt from (g, lf, o, coin, per, fine, s0, z0, cF, cT, cS, cL)
def DP.g (D : DP) : (Nat → Int32) := (show DPt from D).1
def DP.lf (D : DP) : lawF := (show DPt from D).2.1
def DP.o (D : DP) : (Option hbF) := (show DPt from D).2.2.1
def DP.coin (D : DP) : Nat := (show DPt from D).2.2.2.1
def DP.per (D : DP) : Nat := (show DPt from D).2.2.2.2.1
def DP.fine (D : DP) : Nat := (show DPt from D).2.2.2.2.2.1
def DP.s0 (D : DP) : Nat := (show DPt from D).2.2.2.2.2.2.1
def DP.z0 (D : DP) : Nat := (show DPt from D).2.2.2.2.2.2.2.1
def DP.cF (D : DP) : (Nat → Nat) := (show DPt from D).2.2.2.2.2.2.2.2.1
def DP.cT (D : DP) : (Nat → Nat) := (show DPt from D).2.2.2.2.2.2.2.2.2.1
def DP.cS (D : DP) : (Nat → Nat) := (show DPt from D).2.2.2.2.2.2.2.2.2.2.1
def DP.cL (D : DP) : (Nat → Nat) := (show DPt from D).2.2.2.2.2.2.2.2.2.2.2
def DP.cm (D : DP) : Nat → Nat → Nat := cmR D.g (D.g 11) D.lf
def DP.fs (D : DP) (c : Nat) : Nat := (fa (co1 D.coin D.per (D.cF c) (D.cT c) (fun s => mfv D.cm D.s0 (fnR D.g (D.g 11) D.lf c (D.cF c) D.fine) s 12)) 12).2.1
def dz (z0 : Nat) : Nat → Nat
  | 0 => z0
  | s + 1 => (dz z0 s * 1103 + 12345) % 1000003
def DP.dk (D : DP) : Nat → Nat
  | 0 => D.s0
  | s + 1 => if dz D.z0 (s + 1) % 10 < D.cm s (D.dk s) then 1 else lat (D.dk s)
def DP.ca (D : DP) (s : Nat) : Bool := decide (dz D.z0 (s + 1) % 10 < D.cm s (D.dk s))
def DP.dn (D : DP) : Nat → Nat
  | 0 => 0
  | s + 1 => D.dn s + (if D.ca s = true then 1 else 0)
def DP.env (D : DP) (c s : Nat) : Nat → Int64 := ceR D.g (D.g 11) c (D.cF c) s (D.dk s)
def DP.stp (D : DP) (c s : Nat) (x : dyT) : dyT := if D.cF c ≤ s ∧ s ≤ D.cT c then dy1 D.coin D.per (D.cF c) (D.cL c) (fun left => coD D.o D.coin D.per (D.cF c) (D.cT c) (D.cS c) (D.fs c) s (D.dk s) left) (fiF D.lf (D.env c s) D.fine) (D.ca s) (spB D.lf (D.env c s)) s x else x
def DP.dX (D : DP) (c : Nat) : Nat → dyT
  | 0 => (0, 0, 0, 0)
  | s + 1 => D.stp c s (D.dX c s)
theorem dz_lt {z0 : Nat} (h : z0 < 1000003) : ∀ s, dz z0 s < 1000003
  | 0 => h
  | s + 1 => Nat.mod_lt _ (by decide)
theorem DP.dk_le (D : DP) (h1 : 1 ≤ D.s0) (h2 : D.s0 ≤ 12) : ∀ s, 1 ≤ D.dk s ∧ D.dk s ≤ 12
  | 0 => ⟨h1, h2⟩
  | s + 1 => by
    obtain ⟨a, b⟩ := D.dk_le h1 h2 s
    have hl : 1 ≤ lat (D.dk s) ∧ lat (D.dk s) ≤ 12 := by unfold lat; split <;> omega
    show 1 ≤ (if _ then _ else _) ∧ (if _ then _ else _) ≤ 12
    split
    · exact ⟨Nat.le_refl _, by decide⟩
    · exact hl
theorem DP.dn_le (D : DP) : ∀ s, D.dn s ≤ s
  | 0 => Nat.le_refl _
  | s + 1 => by have := D.dn_le s; show D.dn s + (if _ then _ else _) ≤ _; split <;> omega
theorem DP.fs_le (D : DP) (c : Nat) : D.fs c ≤ 12 := (fa_le _ 12).2.1
theorem pdb_le (per left co : Nat) : pdb per left co ≤ 12 := by unfold pdb; omega
theorem dX_le (D : DP) (c : Nat) : ∀ s, (D.dX c s).2.2.2 ≤ 12
  | 0 => Nat.zero_le _
  | s + 1 => by
    have ih := dX_le D c s
    show (D.stp c s (D.dX c s)).2.2.2 ≤ 12
    unfold DP.stp
    split
    · exact Nat.le_trans (Nat.sub_le _ _) (pdb_le _ _ _)
    · exact ih
/-- a car's cells -/
def DC (I : wI) (c : Nat) (x : dyT) : Prop := I 101 (3 * c) = nI x.1 ∧ I 101 (3 * c + 1) = nI x.2.1 ∧ I 101 (3 * c + 2) = nI x.2.2.1 ∧ I 103 c = nI x.2.2.2
/-- the terms are as told -/
def DT (I : wI) (D : DP) (n : Nat) (x : Int32) : Prop := D.g = I 76 ∧ I 76 6 = nI D.coin ∧ D.coin ≤ 9 ∧ I 76 7 = nI D.per ∧ D.per ≤ 4 ∧ I 76 8 = nI D.fine ∧ D.fine ≤ 99 ∧ I 76 10 = nI D.s0 ∧ 1 ≤ D.s0 ∧ D.s0 ≤ 12 ∧ D.z0 < 1000003 ∧ CS I n D.cF D.cT D.cS D.cL ∧ HO (I 76) x D.o
theorem DT.of {I I2 : wI} {D : DP} {n : Nat} {x : Int32} (h : I2 76 = I 76) (hT : DT I D n x) : DT I2 D n x := by
  unfold DT
  rw [h]
  obtain ⟨a1, a2, a3, a4, a5, a6, a7, a8, a9, a10, a11, a12, a13⟩ := hT
  exact ⟨a1, a2, a3, a4, a5, a6, a7, a8, a9, a10, a11, a12.of h, a13⟩
set_option maxHeartbeats 200000 in
theorem r12_draw {l : Launch} {K : cK} {d : Nat} {I : wI} {L : wL} {R : wR} {dy : cH} (z : Nat) (hz : L 74 53 = lN z) (hz9 : z < 1000003) (hd : 0 ≤ d) : CE l K m12_draw d [.ref 74, .int (nI 10)] (hp I L R dy) (.int (nI ((z * 1103 + 12345) % 1000003 % 10))) (hp I (uL L 74 53 (lN ((z * 1103 + 12345) % 1000003))) R dy) := by
  refine CC.of ok12_draw (Nat.le_of_ble_eq_true rfl) ?_
  refine g_aload_n d12_draw_0 rfl ?_
  refine g_aload_n d12_draw_1 rfl ?_
  refine g_get fl12_542 d12_draw_2 f_74_53 ?_
  refine g_topL (lN (z)) (hz) ?_
  refine g_ldc2 d12_draw_5 kl12_545 ?_
  refine g_lmul d12_draw_8 ?_
  refine g_topL (lN (z * 1103)) (lN_mul _ _) ?_
  refine g_ldc2 d12_draw_9 kl12_547 ?_
  refine g_ladd d12_draw_12 ?_
  refine g_topL (lN ((z * 1103) + 12345)) (lN_add _ _) ?_
  refine g_ldc2 d12_draw_13 kl12_549 ?_
  refine g_lrem d12_draw_16 (by decide) ?_
  refine g_topL (lN (((z * 1103) + 12345) % 1000003)) (pk_lRem (b := 1000003) (by omega) (by omega) (by omega)) ?_
  refine g_putLh _ fl12_542 d12_draw_17 f_74_53 s_74_53 ?_
  refine g_aload_n d12_draw_20 rfl ?_
  refine g_get fl12_542 d12_draw_21 f_74_53 ?_
  refine g_topL (lN ((z * 1103 + 12345) % 1000003)) (uL_ss) ?_
  refine g_iload_n d12_draw_24 rfl ?_
  refine g_i2lN (by omega) d12_draw_25 ?_
  refine g_lrem d12_draw_26 (by decide) ?_
  refine g_topL (lN ((z * 1103 + 12345) % 1000003 % 10)) (pk_lRem (b := 10) (by omega) (by omega) (by omega)) ?_
  refine g_l2i d12_draw_27 ?_
  refine g_topI (nI ((z * 1103 + 12345) % 1000003 % 10)) (lN_i _) ?_
  exact g_iret rfl d12_draw_28 (⟨rfl, rfl⟩)
set_option maxHeartbeats 800000 in
theorem r12_d1 {l : Launch} {K : cK} {d : Nat} {I : wI} {L : wL} {R : wR} {dy : cH} {Q : Option Value → cH → Prop} (D : DP) (n : Nat) (x : Int32) (hT : DT I D n x) (ha : askd I D.lf) (ho : I 74 15 = 0) (h36 : I 74 36 = D.g 11) (h57 : I 74 57 = nI n) (y : Int32) (hLC : LC I L D.cm D.s0) (hd : 6 ≤ d)
    (kk : ∀ (I3 : wI) (L3 : wL), (FR [92, 93, 103, 104] [28, 32, 43, 44] [87, 88, 89, 94] [33, 34, 42] I L I3 L3) → (∀ q, q < n → I3 104 q = nI (D.fs q) ∧ I3 103 q = nI 0) → GL l K m12_day d 0 0 114 [(0, .ref 74), (1, .int y), (2, .int x)] [] (hp I3 L3 R dy) Q) :
    ∀ (zn c : Nat) (I2 : wI) (L2 : wL), c + zn = n → (FR [92, 93, 103, 104] [28, 32, 43, 44] [87, 88, 89, 94] [33, 34, 42] I L I2 L2) → (∀ q, q < c → I2 104 q = nI (D.fs q) ∧ I2 103 q = nI 0) → GL l K m12_day d 0 0 68 [(0, .ref 74), (1, .int y), (2, .int x), (3, .int (nI (c)))] [] (hp I2 L2 R dy) Q := by
  obtain ⟨a1, a2, a3, a4, a5, a6, a7, a8, a9, a10, a11, a12, a13⟩ := id hT
  obtain ⟨hn, hn6, hCs⟩ := id a12
  intro zn
  induction zn with
  | zero =>
    intro c I2 L2 hin hF hz
    obtain rfl : n = c := by omega
    refine g_iload_n d12_day_68 rfl ?_
    refine g_aload_n d12_day_69 rfl ?_
    refine g_get fl12_551 d12_day_70 f_74_57 ?_
    refine g_topI (nI (n)) ((hF.2.1 57 (by decide)).trans h57) ?_
    refine g_ic_ge ((n : Nat) : Int) ((n : Nat) : Int) 114 (nI_ti (by omega)) (nI_ti (by omega)) d12_day_73 rfl (fun _ => ?_) (fun c73 => absurd c73 (by omega))
    refine g_lo [(0, .ref 74), (1, .int y), (2, .int x)] ⟨rfl, rfl, rfl, trivial⟩ ?_
    exact kk I2 L2 hF hz
  | succ zn ih =>
    intro c I2 L2 hin hF hz
    have hC := hCs c (by omega)
    have hc6 := hC.1
    refine g_iload_n d12_day_68 rfl ?_
    refine g_aload_n d12_day_69 rfl ?_
    refine g_get fl12_551 d12_day_70 f_74_57 ?_
    refine g_topI (nI (n)) ((hF.2.1 57 (by decide)).trans h57) ?_
    refine g_ic_ge ((c : Nat) : Int) ((n : Nat) : Int) 114 (nI_ti (by omega)) (nI_ti (by omega)) d12_day_73 rfl (fun c73 => absurd c73 (by omega)) (fun _ => ?_)
    refine g_aload_n d12_day_76 rfl ?_
    refine g_iload_n d12_day_77 rfl ?_
    refine g_aload_n d12_day_78 rfl ?_
    refine g_iconstv (nI 2) d12_day_79 rfl ?_
    refine g_EV1 vm12_term ml12_378 c_74 (r12_term (2) (by omega) (Nat.le_refl 0)) (by omega) (Nat.le_of_ble_eq_true rfl) d12_day_80 ?_
    refine g_topI (nI (D.fine)) ((congrFun (hF.1 76 (by decide) (by decide)) _).trans a6) ?_
    refine g_WV2 vm12_layCar ml12_430 c_74 (r12_layCar (I := I2) (L := L2) D.lf (ha.of (hF.1 76 (by decide) (by decide)) (hF.2.1 35 (by decide))) ((hF.2.1 15 (by decide)).trans ho) c (D.cF c) (D.cT c) (D.cS c) (D.cL c) (hC.of (hF.1 76 (by decide) (by decide))) D.fine a7 D.cm D.s0 (by unfold LC; rw [hF.1 90 (by decide) (by decide), hF.2.2.1 91 (by decide) (by decide)]; exact hLC) (cmR_le _ _ D.lf) (Nat.le_refl 5)) (by omega) (Nat.le_of_ble_eq_true rfl) d12_day_83 (fun v hv => ?_)
    obtain ⟨I3, L3⟩ := v
    obtain ⟨hF3, hR3⟩ := hv
    dsimp only at hF3 hR3 ⊢
    have hb : fnv I2 D.lf c (D.cF c) D.fine = fnR D.g (D.g 11) D.lf c (D.cF c) D.fine := by funext s k; unfold fnv fnR cEn ceR; rw [(hF.1 76 (by decide) (by decide)), (hF.2.1 36 (by decide)).trans h36, a1]
    rw [hb] at hR3
    have e763 : I3 76 = I 76 := (hF3.1 76 (by decide) (by decide)).trans (hF.1 76 (by decide) (by decide))
    refine g_aload_n d12_day_86 rfl ?_
    refine g_iload_n d12_day_87 rfl ?_
    refine g_WV1 vm12_findAtFirst ml12_451 c_74 (r12_findAtFirst (I := I3) (L := L3) D.coin D.per c (D.cF c) (D.cT c) (D.cS c) (D.cL c) (hC.of e763) (by rw [e763]; exact a2) a3 (by rw [e763]; exact a4) a5 (fun s => mfv D.cm D.s0 (fnR D.g (D.g 11) D.lf c (D.cF c) D.fine) s 12) (fun s a b => (hR3 s a b).2) (fun q hq => Nat.lt_trans (co1_le D.coin D.per (D.cF c) (D.cT c) a3 hC.2.2.2.2.2.2.1 _ (fun s => mfv_le _ D.s0 _ (cmR_le _ _ D.lf) (fun a b => fnR_le _ _ D.lf c (D.cF c) a b a7) s) hq) (by decide)) (Nat.le_refl 3)) (by omega) (Nat.le_of_ble_eq_true rfl) d12_day_88 (fun w hw => ?_)
    obtain ⟨I4, L4⟩ := w
    obtain ⟨hF4, h43, -, -⟩ := hw
    dsimp only at hF4 h43 ⊢
    have hF9 : FR [92, 93, 103, 104] [28, 32, 43, 44] [87, 88, 89, 94] [33, 34, 42] I L I4 L4 := (hF.tr (hF3.up (by decide) (by decide) (by decide) (by decide))).tr (hF4.up (by decide) (by decide) (by decide) (by decide))
    have g104 : I4 104 = I2 104 := (hF4.1 104 (by decide) (by decide)).trans (hF3.1 104 (by decide) (by decide))
    have g103 : I4 103 = I2 103 := (hF4.1 103 (by decide) (by decide)).trans (hF3.1 103 (by decide) (by decide))
    refine g_aload_n d12_day_91 rfl ?_
    refine g_get fl12_125 d12_day_92 f_74_59 ?_
    refine g_iload_n d12_day_95 rfl ?_
    refine g_aload_n d12_day_96 rfl ?_
    refine g_get fl12_448 d12_day_97 f_74_43 ?_
    refine g_topI (nI (D.fs c)) (h43) ?_
    refine g_iastN (c) _ d12_day_100 a_104 (rfl) (by omega) (by decide) t_104 ?_
    refine g_aload_n d12_day_101 rfl ?_
    refine g_get fl12_122 d12_day_102 f_74_56 ?_
    refine g_iload_n d12_day_105 rfl ?_
    refine g_iconstv (nI 0) d12_day_106 rfl ?_
    refine g_iastN (c) _ d12_day_107 a_103 (rfl) (by omega) (by decide) t_103 ?_
    refine g_iincN d12_day_108 rfl (by decide) ?_
    refine g_goto 68 d12_day_111 rfl ?_
    refine g_lo [(0, .ref 74), (1, .int y), (2, .int x), (3, .int (nI (c + 1)))] ⟨rfl, rfl, rfl, rfl, trivial⟩ ?_
    refine ih (c + 1) _ L4 (by omega) ((hF9.ui (by decide) (by decide)).ui (by decide) (by decide)) (fun q hq => ?_)
    by_cases e : q = c
    · subst e; exact ⟨by rw [uI_n (by decide), uI_ss], uI_ss⟩
    · rw [uI_n (by decide), uI_sn e, uI_sn e, uI_n (by decide), g104, g103]; exact hz q (by omega)
set_option maxHeartbeats 400000 in
theorem r12_d2 {l : Launch} {K : cK} {d : Nat} {I : wI} {L : wL} {R : wR} {dy : cH} {Q : Option Value → cH → Prop} (x y : Int32)
    (kk : ∀ (I3 : wI), (∀ q, q ≠ 101 → I3 q = I q) → (∀ q, q < 18 → I3 101 q = nI 0) → GL l K m12_day d 0 0 135 [(0, .ref 74), (1, .int y), (2, .int x)] [] (hp I3 L R dy) Q) :
    ∀ (zn k : Nat) (I2 : wI), k + zn = 18 → (∀ q, q ≠ 101 → I2 q = I q) → (∀ q, q < k → I2 101 q = nI 0) → GL l K m12_day d 0 0 116 [(0, .ref 74), (1, .int y), (2, .int x), (3, .int (nI (k)))] [] (hp I2 L R dy) Q := by
  intro zn
  induction zn with
  | zero =>
    intro k I2 hin hI hz
    obtain rfl : 18 = k := by omega
    refine g_iload_n d12_day_116 rfl ?_
    refine g_bipushv (nI 18) d12_day_117 rfl ?_
    refine g_ic_ge ((18 : Nat) : Int) (18) 135 (nI_ti (by omega)) (by decide) d12_day_119 rfl (fun _ => ?_) (fun c119 => absurd c119 (by decide))
    refine g_lo [(0, .ref 74), (1, .int y), (2, .int x)] ⟨rfl, rfl, rfl, trivial⟩ ?_
    exact kk I2 hI hz
  | succ zn ih =>
    intro k I2 hin hI hz
    refine g_iload_n d12_day_116 rfl ?_
    refine g_bipushv (nI 18) d12_day_117 rfl ?_
    refine g_ic_ge ((k : Nat) : Int) (18) 135 (nI_ti (by omega)) (by decide) d12_day_119 rfl (fun c119 => absurd c119 (by omega)) (fun _ => ?_)
    refine g_aload_n d12_day_122 rfl ?_
    refine g_get fl12_116 d12_day_123 f_74_54 ?_
    refine g_iload_n d12_day_126 rfl ?_
    refine g_iconstv (nI 0) d12_day_127 rfl ?_
    refine g_iastN (k) _ d12_day_128 a_101 (rfl) (by omega) (by decide) t_101 ?_
    refine g_iincN d12_day_129 rfl (by decide) ?_
    refine g_goto 116 d12_day_132 rfl ?_
    refine g_lo [(0, .ref 74), (1, .int y), (2, .int x), (3, .int (nI (k + 1)))] ⟨rfl, rfl, rfl, rfl, trivial⟩ ?_
    refine ih (k + 1) _ (by omega) (fun q hq => (uI_n hq).trans (hI q hq)) (fun q hq => ?_)
    by_cases e : q = k
    · subst e; exact uI_ss
    · rw [uI_sn e]; exact hz q (by omega)
set_option maxHeartbeats 1600000 in
theorem r12_d3 {l : Launch} {K : cK} {d : Nat} {I : wI} {L : wL} {R : wR} {dy : cH} {Q : Option Value → cH → Prop} (D : DP) (n : Nat) (x : Int32) (hT : DT I D n x) (ha : askd I D.lf) (ho : I 74 15 = 0) (h36 : I 74 36 = D.g 11) (h57 : I 74 57 = nI n) (s : Nat) (hs : s < 12) (hfs : ∀ q, q < n → I 104 q = nI (D.fs q)) (hd : 6 ≤ d)
    (kk : ∀ (I3 : wI) (L3 : wL), (FR [101, 103] [28, 32] [87, 88, 89] [33, 34] I L I3 L3) → (∀ q, q < n → DC I3 q (if q < n then D.dX q (s + 1) else D.dX q s)) → GL l K m12_day d 0 0 252 [(0, .ref 74), (2, .int x), (3, .int (nI (D.dk s))), (4, .int (nI (D.dn s))), (5, .int (nI (s))), (6, .int (if D.ca s = true then 1 else 0))] [] (hp I3 L3 R dy) Q) :
    ∀ (zn c : Nat) (I2 : wI) (L2 : wL), c + zn = n → (FR [101, 103] [28, 32] [87, 88, 89] [33, 34] I L I2 L2) → (∀ q, q < n → DC I2 q (if q < c then D.dX q (s + 1) else D.dX q s)) → GL l K m12_day d 0 0 191 [(0, .ref 74), (2, .int x), (3, .int (nI (D.dk s))), (4, .int (nI (D.dn s))), (5, .int (nI (s))), (6, .int (if D.ca s = true then 1 else 0)), (7, .int (nI (c)))] [] (hp I2 L2 R dy) Q := by
  obtain ⟨a1, a2, a3, a4, a5, a6, a7, a8, a9, a10, a11, a12, a13⟩ := id hT
  obtain ⟨hn, hn6, hCs⟩ := id a12
  intro zn
  induction zn with
  | zero =>
    intro c I2 L2 hin hF hz
    obtain rfl : n = c := by omega
    refine g_iload d12_day_191 rfl ?_
    refine g_aload_n d12_day_193 rfl ?_
    refine g_get fl12_551 d12_day_194 f_74_57 ?_
    refine g_topI (nI (n)) ((hF.2.1 57 (by decide)).trans h57) ?_
    refine g_ic_ge ((n : Nat) : Int) ((n : Nat) : Int) 252 (nI_ti (by omega)) (nI_ti (by omega)) d12_day_197 rfl (fun _ => ?_) (fun c197 => absurd c197 (by omega))
    refine g_lo [(0, .ref 74), (2, .int x), (3, .int (nI (D.dk s))), (4, .int (nI (D.dn s))), (5, .int (nI (s))), (6, .int (if D.ca s = true then 1 else 0))] ⟨rfl, rfl, rfl, rfl, rfl, rfl, trivial⟩ ?_
    exact kk I2 L2 hF hz
  | succ zn ih =>
    intro c I2 L2 hin hF hz
    have hC := hCs c (by omega)
    obtain ⟨hc6, q0, q1, q2, q3, hft, ht11, hse, hfl⟩ := id hC
    obtain ⟨k1, k2⟩ := D.dk_le a9 a10 s
    have hx12 := dX_le D c s
    have hpx := pdb_le D.per (D.dX c s).2.2.2 (coD D.o D.coin D.per (D.cF c) (D.cT c) (D.cS c) (D.fs c) s (D.dk s) (D.dX c s).2.2.2)
    obtain ⟨z1, z2, z3, z4⟩ := hz c (by omega)
    rw [if_neg (by omega)] at z1 z2 z3 z4
    by_cases hst : D.cF c ≤ s ∧ s ≤ D.cT c
    · skip
      refine g_iload d12_day_191 rfl ?_
      refine g_aload_n d12_day_193 rfl ?_
      refine g_get fl12_551 d12_day_194 f_74_57 ?_
      refine g_topI (nI (n)) ((hF.2.1 57 (by decide)).trans h57) ?_
      refine g_ic_ge ((c : Nat) : Int) ((n : Nat) : Int) 252 (nI_ti (by omega)) (nI_ti (by omega)) d12_day_197 rfl (fun c197 => absurd c197 (by omega)) (fun _ => ?_)
      refine g_iload d12_day_200 rfl ?_
      refine g_i2lN (by omega) d12_day_202 ?_
      refine g_aload_n d12_day_203 rfl ?_
      refine g_iload d12_day_204 rfl ?_
      refine g_iconstv (nI 0) d12_day_206 rfl ?_
      refine g_EV2 vm12_ofCar ml12_167 c_74 (r12_ofCar (c) (0) (by omega) (by omega) (Nat.le_refl 0)) (by omega) (Nat.le_of_ble_eq_true rfl) d12_day_207 ?_
      refine g_topI (nI (D.cF c)) ((congrFun (hF.1 76 (by decide) (by decide)) _).trans q0) ?_
      refine g_i2lN (by omega) d12_day_210 ?_
      refine g_aload_n d12_day_211 rfl ?_
      refine g_iload d12_day_212 rfl ?_
      refine g_iconstv (nI 1) d12_day_214 rfl ?_
      refine g_EV2 vm12_ofCar ml12_167 c_74 (r12_ofCar (c) (1) (by omega) (by omega) (Nat.le_refl 0)) (by omega) (Nat.le_of_ble_eq_true rfl) d12_day_215 ?_
      refine g_topI (nI (D.cT c)) ((congrFun (hF.1 76 (by decide) (by decide)) _).trans q1) ?_
      refine g_i2lN (by omega) d12_day_218 ?_
      refine g_ES3 sm12_in ml12_134 (r12_inI (vi := ((s : Nat) : Int)) (ai := ((D.cF c : Nat) : Int)) (bi := ((D.cT c : Nat) : Int)) (pk_lT (by omega)) (pk_lT (by omega)) (pk_lT (by omega)) (Nat.le_refl 0)) (by omega) (Nat.le_of_ble_eq_true rfl) d12_day_219 ?_
      refine g_bz 246 d12_day_222 rfl (fun c222 => absurd c222 (fun z => z (by omega))) (fun _ => ?_)
      refine g_aload_n d12_day_225 rfl ?_
      refine g_iload d12_day_226 rfl ?_
      refine g_iload_n d12_day_228 rfl ?_
      refine g_iload d12_day_229 rfl ?_
      refine g_iload_n d12_day_231 rfl ?_
      refine g_WV4 vm12_throwDay ml12_560 c_74 (r12_throwDay (I := I2) (L := L2) D.o x (by rw [(hF.1 76 (by decide) (by decide))]; exact a13) D.coin D.per c (D.cF c) (D.cT c) (D.cS c) (D.cL c) (D.fs c) (hC.of (hF.1 76 (by decide) (by decide))) (by rw [(hF.1 76 (by decide) (by decide))]; exact a2) a3 (by rw [(hF.1 76 (by decide) (by decide))]; exact a4) a5 ((hF.2.1 15 (by decide)).trans ho) s (D.dk s) hst.1 hst.2 k2 (D.fs_le c) (D.dX c s).1 (D.dX c s).2.2.1 (D.dX c s).2.2.2 z1 z3 z4 hx12 ((congrFun (hF.1 104 (by decide) (by decide)) c).trans (hfs c (by omega))) (Nat.le_refl 5)) (by omega) (Nat.le_of_ble_eq_true rfl) d12_day_232 (fun v hv => ?_)
      obtain ⟨I3, L3⟩ := v
      obtain ⟨hF3, u1, u2, u3, u4, u5⟩ := hv
      dsimp only at hF3 u1 u2 u3 u4 u5 ⊢
      have f76 : I3 76 = I 76 := (hF3.1 76 (by decide) (by decide)).trans (hF.1 76 (by decide) (by decide))
      have hF33 : FR [101, 103] [28, 32] [87, 88, 89] [33, 34] I L I3 L3 := hF.tr hF3
      refine g_aload_n d12_day_235 rfl ?_
      refine g_iload d12_day_236 rfl ?_
      refine g_iload d12_day_238 rfl ?_
      refine g_iload_n d12_day_240 rfl ?_
      refine g_iload d12_day_241 rfl ?_
      refine g_WV4 vm12_comeDay ml12_563 c_74 (r12_comeDay (I := I3) (L := L3) D.lf (ha.of f76 (hF33.2.1 35 (by decide))) c (D.cF c) (D.cT c) (D.cS c) (D.cL c) (hC.of f76) D.fine (by rw [f76]; exact a6) a7 ((hF33.2.1 15 (by decide)).trans ho) s (D.dk s) hst.1 hst.2 k2 (D.ca s) _ (D.dX c s).2.1 (pdb D.per (D.dX c s).2.2.2 (coD D.o D.coin D.per (D.cF c) (D.cT c) (D.cS c) (D.fs c) s (D.dk s) (D.dX c s).2.2.2)) u1 ((u3 _ (by omega) (by omega)).trans z2) u4 hpx (Nat.le_refl 5)) (by omega) (Nat.le_of_ble_eq_true rfl) d12_day_243 (fun w hw => ?_)
      obtain ⟨I4, L4⟩ := w
      obtain ⟨hF4, v1, v2, v3, v4, v5⟩ := hw
      dsimp only at hF4 v1 v2 v3 v4 v5 ⊢
      have hen : ceR (I3 76) (I3 74 36) c (D.cF c) s (D.dk s) = D.env c s := by unfold DP.env; rw [f76, (hF33.2.1 36 (by decide)).trans h36, a1]
      rw [hen] at v1 v2
      have hnew : DC I4 c (D.dX c (s + 1)) := by
        show DC I4 c (D.stp c s (D.dX c s))
        unfold DP.stp
        rw [if_pos hst]
        exact ⟨v1, v2, (v3 _ (by omega) (by omega)).trans u2, v4⟩
      refine g_iincN d12_day_246 rfl (by decide) ?_
      refine g_goto 191 d12_day_249 rfl ?_
      refine g_lo [(0, .ref 74), (2, .int x), (3, .int (nI (D.dk s))), (4, .int (nI (D.dn s))), (5, .int (nI (s))), (6, .int (if D.ca s = true then 1 else 0)), (7, .int (nI (c + 1)))] ⟨rfl, rfl, rfl, rfl, rfl, rfl, rfl, trivial⟩ ?_
      refine ih (c + 1) I4 L4 (by omega) (hF33.tr hF4) (fun q hq => ?_)
      by_cases e : q = c
      · subst e; rw [if_pos (by omega)]; exact hnew
      · have hold := hz q hq
        have e2 : (if q < c + 1 then D.dX q (s + 1) else D.dX q s) = (if q < c then D.dX q (s + 1) else D.dX q s) := by by_cases e3 : q < c <;> simp [e3] <;> omega
        rw [e2]
        exact ⟨(v3 _ (by omega) (by omega)).trans ((u3 _ (by omega) (by omega)).trans hold.1), (v3 _ (by omega) (by omega)).trans ((u3 _ (by omega) (by omega)).trans hold.2.1), (v3 _ (by omega) (by omega)).trans ((u3 _ (by omega) (by omega)).trans hold.2.2.1), (v5 q e).trans ((u5 q e).trans hold.2.2.2)⟩
    · have hnew : DC I2 c (D.dX c (s + 1)) := by
        show DC I2 c (D.stp c s (D.dX c s))
        unfold DP.stp
        rw [if_neg hst]
        exact ⟨z1, z2, z3, z4⟩
      refine g_iload d12_day_191 rfl ?_
      refine g_aload_n d12_day_193 rfl ?_
      refine g_get fl12_551 d12_day_194 f_74_57 ?_
      refine g_topI (nI (n)) ((hF.2.1 57 (by decide)).trans h57) ?_
      refine g_ic_ge ((c : Nat) : Int) ((n : Nat) : Int) 252 (nI_ti (by omega)) (nI_ti (by omega)) d12_day_197 rfl (fun c197 => absurd c197 (by omega)) (fun _ => ?_)
      refine g_iload d12_day_200 rfl ?_
      refine g_i2lN (by omega) d12_day_202 ?_
      refine g_aload_n d12_day_203 rfl ?_
      refine g_iload d12_day_204 rfl ?_
      refine g_iconstv (nI 0) d12_day_206 rfl ?_
      refine g_EV2 vm12_ofCar ml12_167 c_74 (r12_ofCar (c) (0) (by omega) (by omega) (Nat.le_refl 0)) (by omega) (Nat.le_of_ble_eq_true rfl) d12_day_207 ?_
      refine g_topI (nI (D.cF c)) ((congrFun (hF.1 76 (by decide) (by decide)) _).trans q0) ?_
      refine g_i2lN (by omega) d12_day_210 ?_
      refine g_aload_n d12_day_211 rfl ?_
      refine g_iload d12_day_212 rfl ?_
      refine g_iconstv (nI 1) d12_day_214 rfl ?_
      refine g_EV2 vm12_ofCar ml12_167 c_74 (r12_ofCar (c) (1) (by omega) (by omega) (Nat.le_refl 0)) (by omega) (Nat.le_of_ble_eq_true rfl) d12_day_215 ?_
      refine g_topI (nI (D.cT c)) ((congrFun (hF.1 76 (by decide) (by decide)) _).trans q1) ?_
      refine g_i2lN (by omega) d12_day_218 ?_
      refine g_ES3 sm12_in ml12_134 (r12_inI (vi := ((s : Nat) : Int)) (ai := ((D.cF c : Nat) : Int)) (bi := ((D.cT c : Nat) : Int)) (pk_lT (by omega)) (pk_lT (by omega)) (pk_lT (by omega)) (Nat.le_refl 0)) (by omega) (Nat.le_of_ble_eq_true rfl) d12_day_219 ?_
      refine g_bz 246 d12_day_222 rfl (fun _ => ?_) (fun c222 => absurd c222 (fun z => hst ⟨by omega, by omega⟩))
      refine g_iincN d12_day_246 rfl (by decide) ?_
      refine g_goto 191 d12_day_249 rfl ?_
      refine g_lo [(0, .ref 74), (2, .int x), (3, .int (nI (D.dk s))), (4, .int (nI (D.dn s))), (5, .int (nI (s))), (6, .int (if D.ca s = true then 1 else 0)), (7, .int (nI (c + 1)))] ⟨rfl, rfl, rfl, rfl, rfl, rfl, rfl, trivial⟩ ?_
      refine ih (c + 1) I2 L2 (by omega) (hF) (fun q hq => ?_)
      by_cases e : q = c
      · subst e; rw [if_pos (by omega)]; exact hnew
      · have hold := hz q hq
        have e2 : (if q < c + 1 then D.dX q (s + 1) else D.dX q s) = (if q < c then D.dX q (s + 1) else D.dX q s) := by by_cases e3 : q < c <;> simp [e3] <;> omega
        rw [e2]
        exact hold
set_option maxHeartbeats 1600000 in
theorem r12_d4 {l : Launch} {K : cK} {d : Nat} {I : wI} {L : wL} {R : wR} {dy : cH} {Q : Option Value → cH → Prop} (D : DP) (n : Nat) (x : Int32) (hT : DT I D n x) (ha : askd I D.lf) (ho : I 74 15 = 0) (h36 : I 74 36 = D.g 11) (h57 : I 74 57 = nI n) (hcm : ∀ s2, s2 < 12 → ∀ k2, 1 ≤ k2 → k2 ≤ 12 → I 90 (13 * s2 + k2) = nI (D.cm s2 k2)) (hfs : ∀ q, q < n → I 104 q = nI (D.fs q)) (hd : 7 ≤ d)
    (kk : ∀ (I3 : wI) (L3 : wL), FR [101, 102, 103] [28, 32] [87, 88, 89] [33, 34, 53] I L I3 L3 → (∀ q, q < n → DC I3 q (D.dX q 12)) → (∀ q, q < 12 → I3 102 q = nI (if D.ca q = true then 1 else 0)) → GL l K m12_day d 0 0 301 [(0, .ref 74), (4, .int (nI (D.dn 12)))] [] (hp I3 L3 R dy) Q) :
    ∀ (zn s : Nat) (I2 : wI) (L2 : wL), s + zn = 12 → FR [101, 102, 103] [28, 32] [87, 88, 89] [33, 34, 53] I L I2 L2 → L2 74 53 = lN (dz D.z0 s) → (∀ q, q < n → DC I2 q (D.dX q s)) → (∀ q, q < s → I2 102 q = nI (if D.ca q = true then 1 else 0)) → GL l K m12_day d 0 0 153 [(0, .ref 74), (2, .int x), (3, .int (nI (D.dk s))), (4, .int (nI (D.dn s))), (5, .int (nI (s)))] [] (hp I2 L2 R dy) Q := by
  obtain ⟨a1, a2, a3, a4, a5, a6, a7, a8, a9, a10, a11, a12, a13⟩ := id hT
  obtain ⟨hn, hn6, hCs⟩ := id a12
  intro zn
  induction zn with
  | zero =>
    intro s I2 L2 hin hF hst hz hsl
    obtain rfl : 12 = s := by omega
    refine g_iload d12_day_153 rfl ?_
    refine g_bipushv (nI 12) d12_day_155 rfl ?_
    refine g_ic_ge ((12 : Nat) : Int) (12) 301 (nI_ti (by omega)) (by decide) d12_day_157 rfl (fun _ => ?_) (fun c157 => absurd c157 (by decide))
    refine g_lo [(0, .ref 74), (4, .int (nI (D.dn 12)))] ⟨rfl, rfl, trivial⟩ ?_
    exact kk I2 L2 hF hz hsl
  | succ zn ih =>
    intro s I2 L2 hin hF hst hz hsl
    obtain ⟨k1, k2⟩ := D.dk_le a9 a10 s
    have hzl := dz_lt a11 s
    have hcm9 : D.cm s (D.dk s) ≤ 10 := cmR_le _ _ D.lf s (D.dk s)
    have hdn := D.dn_le s
    by_cases hc : dz D.z0 (s + 1) % 10 < D.cm s (D.dk s)
    · have hca : D.ca s = true := decide_eq_true hc
      have hdk : D.dk (s + 1) = 1 := if_pos hc
      have hdn1 : D.dn (s + 1) = D.dn s + 1 := by show D.dn s + (if _ then _ else _) = _; rw [hca]; rfl
      refine g_iload d12_day_153 rfl ?_
      refine g_bipushv (nI 12) d12_day_155 rfl ?_
      refine g_ic_ge ((s : Nat) : Int) (12) 301 (nI_ti (by omega)) (by decide) d12_day_157 rfl (fun c157 => absurd c157 (by omega)) (fun _ => ?_)
      refine g_aload_n d12_day_160 rfl ?_
      refine g_bipushv (nI 10) d12_day_161 rfl ?_
      refine g_EV1 vm12_draw ml12_557 c_74 (r12_draw (I := I2) (L := L2) (dz D.z0 s) hst hzl (Nat.le_refl 0)) (by omega) (Nat.le_of_ble_eq_true rfl) d12_day_163 ?_
      refine g_topI (nI (dz D.z0 (s + 1) % 10)) (rfl) ?_
      refine g_aload_n d12_day_166 rfl ?_
      refine g_get fl12_83 d12_day_167 f_74_37 ?_
      refine g_bipushv (nI 13) d12_day_170 rfl ?_
      refine g_iload d12_day_172 rfl ?_
      refine g_imulN d12_day_174 ?_
      refine g_iload_n d12_day_175 rfl ?_
      refine g_iaddN d12_day_176 ?_
      refine g_ialdN (((13 * s) + (D.dk s))) d12_day_177 a_90 (rfl) (by omega) (by decide) ?_
      refine g_topI (nI (D.cm s (D.dk s))) ((congrFun (hF.1 90 (by decide) (by decide)) _).trans (hcm s (by omega) _ k1 k2)) ?_
      refine g_ic_ge ((dz D.z0 (s + 1) % 10 : Nat) : Int) ((D.cm s (D.dk s) : Nat) : Int) 185 (nI_ti (by omega)) (nI_ti (by omega)) d12_day_178 rfl (fun c178 => absurd c178 (by omega)) (fun _ => ?_)
      refine g_iconstv (nI 1) d12_day_181 rfl ?_
      refine g_goto 186 d12_day_182 rfl ?_
      refine g_istore d12_day_186 (by decide) ?_
      refine g_iconstv (nI 0) d12_day_188 rfl ?_
      refine g_istore d12_day_189 (by decide) ?_
      refine g_lo [(0, .ref 74), (2, .int x), (3, .int (nI (D.dk s))), (4, .int (nI (D.dn s))), (5, .int (nI (s))), (6, .int (if D.ca s = true then 1 else 0)), (7, .int (nI (0)))] ⟨rfl, rfl, rfl, rfl, rfl, by rw [hca]; rfl, rfl, trivial⟩ ?_
      have hF2 : FR [101, 102, 103] [28, 32] [87, 88, 89] [33, 34, 53] I L I2 (uL L2 74 53 (lN (dz D.z0 (s + 1)))) := hF.ug (by decide)
      refine r12_d3 (I := I2) (L := uL L2 74 53 (lN (dz D.z0 (s + 1)))) D n x (hT.of (hF.1 76 (by decide) (by decide))) (ha.of (hF.1 76 (by decide) (by decide)) (hF.2.1 35 (by decide))) ((hF.2.1 15 (by decide)).trans ho) ((hF.2.1 36 (by decide)).trans h36) ((hF.2.1 57 (by decide)).trans h57) s (by omega) (fun q hq => (congrFun (hF.1 104 (by decide) (by decide)) q).trans (hfs q hq)) (by omega) (fun I4 L4 hF4 hz4 => ?_) n 0 I2 _ (by omega) FR.rf (fun q hq => by rw [if_neg (by omega)]; exact hz q hq)
      have hz5 : ∀ q, q < n → DC I4 q (D.dX q (s + 1)) := fun q hq => by have := hz4 q hq; rw [if_pos hq] at this; exact this
      have hst4 : L4 74 53 = lN (dz D.z0 (s + 1)) := (hF4.2.2.2 53 (by decide)).trans uL_ss
      have hF5 : FR [101, 102, 103] [28, 32] [87, 88, 89] [33, 34, 53] I L I4 L4 := hF2.tr (hF4.up (by decide) (by decide) (by decide) (by decide))
      have g102 : I4 102 = I2 102 := hF4.1 102 (by decide) (by decide)
      refine g_aload_n d12_day_252 rfl ?_
      refine g_get fl12_119 d12_day_253 f_74_55 ?_
      refine g_iload d12_day_256 rfl ?_
      refine g_iload d12_day_258 rfl ?_
      refine g_bz 267 d12_day_260 rfl (fun c260 => absurd c260 (by first | exact fun z => z hca | (rw [hca] at c260; exact absurd rfl c260))) (fun _ => ?_)
      refine g_iconstv (nI 1) d12_day_263 rfl ?_
      refine g_goto 268 d12_day_264 rfl ?_
      refine g_iastN (s) _ d12_day_268 a_102 (rfl) (by omega) (by decide) t_102 ?_
      refine g_iload d12_day_269 rfl ?_
      refine g_aload_n d12_day_271 rfl ?_
      refine g_get fl12_119 d12_day_272 f_74_55 ?_
      refine g_iload d12_day_275 rfl ?_
      refine g_ialdN (s) d12_day_277 a_102 (rfl) (by omega) (by decide) ?_
      refine g_topI (nI (1)) (uI_ss) ?_
      refine g_iaddN d12_day_278 ?_
      refine g_istore d12_day_279 (by decide) ?_
      refine g_iload d12_day_281 rfl ?_
      refine g_bz 290 d12_day_283 rfl (fun c283 => absurd c283 (by first | exact fun z => z hca | (rw [hca] at c283; exact absurd rfl c283))) (fun _ => ?_)
      refine g_iconstv (nI 1) d12_day_286 rfl ?_
      refine g_goto 294 d12_day_287 rfl ?_
      refine g_istore_n d12_day_294 (by decide) ?_
      refine g_iincN d12_day_295 rfl (by decide) ?_
      refine g_goto 153 d12_day_298 rfl ?_
      refine g_lo [(0, .ref 74), (2, .int x), (3, .int (nI (D.dk (s + 1)))), (4, .int (nI (D.dn (s + 1)))), (5, .int (nI (s + 1)))] ⟨rfl, rfl, by rw [hdk]; rfl, by rw [hdn1]; rfl, rfl, trivial⟩ ?_
      refine ih (s + 1) _ L4 (by omega) (hF5.ui (by decide) (by decide)) hst4 (fun q hq => ?_) (fun q hq => ?_)
      · obtain ⟨w1, w2, w3, w4⟩ := hz5 q hq
        exact ⟨by rw [uI_n (by decide)]; exact w1, by rw [uI_n (by decide)]; exact w2, by rw [uI_n (by decide)]; exact w3, by rw [uI_n (by decide)]; exact w4⟩
      · by_cases e : q = s
        · subst e; rw [uI_ss, hca]; rfl
        · rw [uI_sn e, g102]; exact hsl q (by omega)
    · have hca : D.ca s = false := decide_eq_false hc
      have hdk : D.dk (s + 1) = lat (D.dk s) := if_neg hc
      have hdn1 : D.dn (s + 1) = D.dn s + 0 := by show D.dn s + (if _ then _ else _) = _; rw [hca]; rfl
      refine g_iload d12_day_153 rfl ?_
      refine g_bipushv (nI 12) d12_day_155 rfl ?_
      refine g_ic_ge ((s : Nat) : Int) (12) 301 (nI_ti (by omega)) (by decide) d12_day_157 rfl (fun c157 => absurd c157 (by omega)) (fun _ => ?_)
      refine g_aload_n d12_day_160 rfl ?_
      refine g_bipushv (nI 10) d12_day_161 rfl ?_
      refine g_EV1 vm12_draw ml12_557 c_74 (r12_draw (I := I2) (L := L2) (dz D.z0 s) hst hzl (Nat.le_refl 0)) (by omega) (Nat.le_of_ble_eq_true rfl) d12_day_163 ?_
      refine g_topI (nI (dz D.z0 (s + 1) % 10)) (rfl) ?_
      refine g_aload_n d12_day_166 rfl ?_
      refine g_get fl12_83 d12_day_167 f_74_37 ?_
      refine g_bipushv (nI 13) d12_day_170 rfl ?_
      refine g_iload d12_day_172 rfl ?_
      refine g_imulN d12_day_174 ?_
      refine g_iload_n d12_day_175 rfl ?_
      refine g_iaddN d12_day_176 ?_
      refine g_ialdN (((13 * s) + (D.dk s))) d12_day_177 a_90 (rfl) (by omega) (by decide) ?_
      refine g_topI (nI (D.cm s (D.dk s))) ((congrFun (hF.1 90 (by decide) (by decide)) _).trans (hcm s (by omega) _ k1 k2)) ?_
      refine g_ic_ge ((dz D.z0 (s + 1) % 10 : Nat) : Int) ((D.cm s (D.dk s) : Nat) : Int) 185 (nI_ti (by omega)) (nI_ti (by omega)) d12_day_178 rfl (fun _ => ?_) (fun c178 => absurd c178 (by omega))
      refine g_iconstv (nI 0) d12_day_185 rfl ?_
      refine g_istore d12_day_186 (by decide) ?_
      refine g_iconstv (nI 0) d12_day_188 rfl ?_
      refine g_istore d12_day_189 (by decide) ?_
      refine g_lo [(0, .ref 74), (2, .int x), (3, .int (nI (D.dk s))), (4, .int (nI (D.dn s))), (5, .int (nI (s))), (6, .int (if D.ca s = true then 1 else 0)), (7, .int (nI (0)))] ⟨rfl, rfl, rfl, rfl, rfl, by rw [hca]; rfl, rfl, trivial⟩ ?_
      have hF2 : FR [101, 102, 103] [28, 32] [87, 88, 89] [33, 34, 53] I L I2 (uL L2 74 53 (lN (dz D.z0 (s + 1)))) := hF.ug (by decide)
      refine r12_d3 (I := I2) (L := uL L2 74 53 (lN (dz D.z0 (s + 1)))) D n x (hT.of (hF.1 76 (by decide) (by decide))) (ha.of (hF.1 76 (by decide) (by decide)) (hF.2.1 35 (by decide))) ((hF.2.1 15 (by decide)).trans ho) ((hF.2.1 36 (by decide)).trans h36) ((hF.2.1 57 (by decide)).trans h57) s (by omega) (fun q hq => (congrFun (hF.1 104 (by decide) (by decide)) q).trans (hfs q hq)) (by omega) (fun I4 L4 hF4 hz4 => ?_) n 0 I2 _ (by omega) FR.rf (fun q hq => by rw [if_neg (by omega)]; exact hz q hq)
      have hz5 : ∀ q, q < n → DC I4 q (D.dX q (s + 1)) := fun q hq => by have := hz4 q hq; rw [if_pos hq] at this; exact this
      have hst4 : L4 74 53 = lN (dz D.z0 (s + 1)) := (hF4.2.2.2 53 (by decide)).trans uL_ss
      have hF5 : FR [101, 102, 103] [28, 32] [87, 88, 89] [33, 34, 53] I L I4 L4 := hF2.tr (hF4.up (by decide) (by decide) (by decide) (by decide))
      have g102 : I4 102 = I2 102 := hF4.1 102 (by decide) (by decide)
      refine g_aload_n d12_day_252 rfl ?_
      refine g_get fl12_119 d12_day_253 f_74_55 ?_
      refine g_iload d12_day_256 rfl ?_
      refine g_iload d12_day_258 rfl ?_
      refine g_bz 267 d12_day_260 rfl (fun _ => ?_) (fun c260 => absurd c260 (by rw [hca]; decide))
      refine g_iconstv (nI 0) d12_day_267 rfl ?_
      refine g_iastN (s) _ d12_day_268 a_102 (rfl) (by omega) (by decide) t_102 ?_
      refine g_iload d12_day_269 rfl ?_
      refine g_aload_n d12_day_271 rfl ?_
      refine g_get fl12_119 d12_day_272 f_74_55 ?_
      refine g_iload d12_day_275 rfl ?_
      refine g_ialdN (s) d12_day_277 a_102 (rfl) (by omega) (by decide) ?_
      refine g_topI (nI (0)) (uI_ss) ?_
      refine g_iaddN d12_day_278 ?_
      refine g_istore d12_day_279 (by decide) ?_
      refine g_iload d12_day_281 rfl ?_
      refine g_bz 290 d12_day_283 rfl (fun _ => ?_) (fun c283 => absurd c283 (by rw [hca]; decide))
      refine g_iload_n d12_day_290 rfl ?_
      refine g_ES1 sm12_later ml12_418 (r12_later ((D.dk s)) (by omega) (Nat.le_refl 0)) (by omega) (Nat.le_of_ble_eq_true rfl) d12_day_291 ?_
      refine g_istore_n d12_day_294 (by decide) ?_
      refine g_iincN d12_day_295 rfl (by decide) ?_
      refine g_goto 153 d12_day_298 rfl ?_
      refine g_lo [(0, .ref 74), (2, .int x), (3, .int (nI (D.dk (s + 1)))), (4, .int (nI (D.dn (s + 1)))), (5, .int (nI (s + 1)))] ⟨rfl, rfl, by rw [hdk]; rfl, by rw [hdn1]; rfl, rfl, trivial⟩ ?_
      refine ih (s + 1) _ L4 (by omega) (hF5.ui (by decide) (by decide)) hst4 (fun q hq => ?_) (fun q hq => ?_)
      · obtain ⟨w1, w2, w3, w4⟩ := hz5 q hq
        exact ⟨by rw [uI_n (by decide)]; exact w1, by rw [uI_n (by decide)]; exact w2, by rw [uI_n (by decide)]; exact w3, by rw [uI_n (by decide)]; exact w4⟩
      · by_cases e : q = s
        · subst e; rw [uI_ss, hca]; rfl
        · rw [uI_sn e, g102]; exact hsl q (by omega)
