theorem lI_add2 (z : Int) (a b : Nat) : lI (z + (a : Int)) + lN b = lI (z + ((a + b : Nat) : Int)) := by rw [lI_add, Int.natCast_add, Int.add_assoc]
theorem lI_0 (z : Int) : lI z = lI (z + ((0 : Nat) : Int)) := by simp
/-- the class's cars -/
def CSC (I : wI) (n : Nat) (cF cT cS cL : Nat → Nat) : Prop := I 1 0 = nI n ∧ n ≤ 6 ∧ ∀ c, c < n → CC1 I c (cF c) (cT c) (cS c) (cL c)
theorem CSC.of {I I2 : wI} {n : Nat} {cF cT cS cL : Nat → Nat} (h : CSC I n cF cT cS cL) (e1 : I2 1 = I 1) (e2 : I2 2 = I 2) : CSC I2 n cF cT cS cL := ⟨by rw [e1]; exact h.1, h.2.1, fun c hc => (h.2.2 c hc).of e2⟩
set_option maxHeartbeats 1000000 in
theorem r11_tk1 {l : Launch} {K : cK} {d : Nat} {I : wI} {L : wL} {R : wR} {dy : cH} {Q : Option Value → cH → Prop} (g : Nat → Int32) (lc : Option (List Cl)) (s0 : Nat) (coin per fine wage wa n : Nat) (cF cT cS cL : Nat → Nat) (hCS : CSC I n cF cT cS cL) (hT : CT I coin per fine) (hw3 : wa ≤ 3) (o : Option Nat) (hL : LWc dy (uR R 21 1 o 21 1) lc) (lo hi : Nat) (hlh : lo ≤ hi + 1) (hh9 : hi ≤ 99) (c : Nat) (hcn : c < n) (I3 : wI) (hS : STA I3 c (cF c) (cT c) (cS c) (cL c) coin per fine) (hd : 5 ≤ d)
    (kk : ∀ L3 : wL, (∀ k, k ≠ 53 → L3 k = L k) → (∀ q, lo ≤ q → q ≤ hi → L3 53 q = lI (-(1000000000000 * (wage : Int) * wa) + ((su (tl g (nI wa) (lfO lc) coin per s0 cF cT q) (c + 1) : Nat) : Int))) → GL l K m11_reckonTakings d 0 0 146 [(0, .ref 0), (1, .int (nI wa)), (2, .int (nI lo)), (3, .int (nI hi)), (4, .int (nI c))] [] (hp I3 L3 (uR R 21 1 o) dy) Q) :
    ∀ (m f : Nat) (L2 : wL), f + m = hi + 1 → lo ≤ f → (∀ k, k ≠ 53 → L2 k = L k) → TFs L2 (fun s => tdv (cpv (cmR g (nI wa) (lfO lc)) s0) (sbR g (nI wa) (lfO lc) c (cF c)) (fun s k => fiO lc (ceR g (nI wa) c (cF c) s k)) s 12) (fun s => tav (cpv (cmR g (nI wa) (lfO lc)) s0) (sbR g (nI wa) (lfO lc) c (cF c)) (fun s k => fiO lc (ceR g (nI wa) c (cF c) s k)) s 12) (cF c) (cT c) → (∀ q, lo ≤ q → q ≤ hi → L2 53 q = lI (-(1000000000000 * (wage : Int) * wa) + ((su (tl g (nI wa) (lfO lc) coin per s0 cF cT q) (if q < f then c + 1 else c) : Nat) : Int))) → GL l K m11_reckonTakings d 0 0 106 [(0, .ref 0), (1, .int (nI wa)), (2, .int (nI lo)), (3, .int (nI hi)), (4, .int (nI c)), (5, .int (nI f))] [] (hp I3 L2 (uR R 21 1 o) dy) Q := by
  obtain ⟨u0, u1, u2, u3, u4, u5, u6, u7, u8, u9, u10, u11, u12, u13, u14, u15⟩ := id hS
  have hn6 := hCS.2.1
  intro m
  induction m with
  | zero =>
    intro f L2 hf hlo h1 hTF h2
    obtain rfl : f = hi + 1 := by omega
    refine g_iload d11_reckonTakings_106 rfl ?_
    refine g_iload_n d11_reckonTakings_108 rfl ?_
    refine g_ic_gt (((hi + 1) : Nat) : Int) ((hi : Nat) : Int) 146 (nI_ti (by omega)) (nI_ti (by omega)) d11_reckonTakings_109 rfl (fun _ => ?_) (fun c109 => absurd c109 (by omega))
    refine g_lo [(0, .ref 0), (1, .int (nI wa)), (2, .int (nI lo)), (3, .int (nI hi)), (4, .int (nI c))] ⟨rfl, rfl, rfl, rfl, rfl, trivial⟩ ?_
    exact kk L2 h1 (fun q a b => by rw [h2 q a b, if_pos (by omega)])
  | succ m ih =>
    intro f L2 hf hlo h1 hTF h2
    have hf9 : f ≤ 99 := by omega
    have h5 := h2 f hlo (by omega)
    rw [if_neg (by omega)] at h5
    have hMl : ∀ s, mfv (cmR g (nI wa) (lfO lc)) s0 (fnR g (nI wa) (lfO lc) c (cF c) f) s 12 ≤ 99000000000000 := fun s => mfv_le _ s0 _ (cmR_le _ _ _) (fun a b => fnR_le _ _ _ _ _ a b hf9) s
    have hbig : ∀ k, k ≤ 12 → co1 coin per (cF c) (cT c) (fun s => (fun s => tdv (cpv (cmR g (nI wa) (lfO lc)) s0) (sbR g (nI wa) (lfO lc) c (cF c)) (fun s k => fiO lc (ceR g (nI wa) c (cF c) s k)) s 12) s + (fun s => tav (cpv (cmR g (nI wa) (lfO lc)) s0) (sbR g (nI wa) (lfO lc) c (cF c)) (fun s k => fiO lc (ceR g (nI wa) c (cF c) s k)) s 12) s * f) k < 4000000000000000000 := fun k h => by
      rw [td_mf hf9]
      have := co1_le coin per (cF c) (cT c) u13 u10 _ hMl h
      omega
    have hfl := (fa_le (co1 coin per (cF c) (cT c) (fun s => (fun s => tdv (cpv (cmR g (nI wa) (lfO lc)) s0) (sbR g (nI wa) (lfO lc) c (cF c)) (fun s k => fiO lc (ceR g (nI wa) c (cF c) s k)) s 12) s + (fun s => tav (cpv (cmR g (nI wa) (lfO lc)) s0) (sbR g (nI wa) (lfO lc) c (cF c)) (fun s k => fiO lc (ceR g (nI wa) c (cF c) s k)) s 12) s * f)) 12).2.1
    have hat := (fa_at (co1 coin per (cF c) (cT c) (fun s => (fun s => tdv (cpv (cmR g (nI wa) (lfO lc)) s0) (sbR g (nI wa) (lfO lc) c (cF c)) (fun s k => fiO lc (ceR g (nI wa) c (cF c) s k)) s 12) s + (fun s => tav (cpv (cmR g (nI wa) (lfO lc)) s0) (sbR g (nI wa) (lfO lc) c (cF c)) (fun s k => fiO lc (ceR g (nI wa) c (cF c) s k)) s 12) s * f)) 12).1
    have etl : (fa (co1 coin per (cF c) (cT c) (fun s => (fun s => tdv (cpv (cmR g (nI wa) (lfO lc)) s0) (sbR g (nI wa) (lfO lc) c (cF c)) (fun s k => fiO lc (ceR g (nI wa) c (cF c) s k)) s 12) s + (fun s => tav (cpv (cmR g (nI wa) (lfO lc)) s0) (sbR g (nI wa) (lfO lc) c (cF c)) (fun s k => fiO lc (ceR g (nI wa) c (cF c) s k)) s 12) s * f)) 12).1 = (tl g (nI wa) (lfO lc) coin per s0 cF cT f) c := by rw [td_mf hf9]; rfl
    rw [etl] at hat
    generalize hy : (fa (co1 coin per (cF c) (cT c) (fun s => (fun s => tdv (cpv (cmR g (nI wa) (lfO lc)) s0) (sbR g (nI wa) (lfO lc) c (cF c)) (fun s k => fiO lc (ceR g (nI wa) c (cF c) s k)) s 12) s + (fun s => tav (cpv (cmR g (nI wa) (lfO lc)) s0) (sbR g (nI wa) (lfO lc) c (cF c)) (fun s k => fiO lc (ceR g (nI wa) c (cF c) s k)) s 12) s * f)) 12).2.1 = y at hat hfl
    refine g_iload d11_reckonTakings_106 rfl ?_
    refine g_iload_n d11_reckonTakings_108 rfl ?_
    refine g_ic_gt ((f : Nat) : Int) ((hi : Nat) : Int) 146 (nI_ti (by omega)) (nI_ti (by omega)) d11_reckonTakings_109 rfl (fun c109 => absurd c109 (by omega)) (fun _ => ?_)
    refine g_aload_n d11_reckonTakings_112 rfl ?_
    refine g_get fl11_86 d11_reckonTakings_113 f_0_11 ?_
    refine g_iload d11_reckonTakings_116 rfl ?_
    refine g_dup2 d11_reckonTakings_118 rfl rfl ?_
    refine g_laldN (f) d11_reckonTakings_119 a_53 (rfl) (by omega) (by decide) ?_
    refine g_topL (lI (-(1000000000000 * (wage : Int) * wa) + ((su (tl g (nI wa) (lfO lc) coin per s0 cF cT f) c : Nat) : Int))) (h5) ?_
    refine g_aload_n d11_reckonTakings_120 rfl ?_
    refine g_get fl11_59 d11_reckonTakings_121 f_0_7 ?_
    refine g_aload_n d11_reckonTakings_124 rfl ?_
    refine g_get fl11_59 d11_reckonTakings_125 f_0_7 ?_
    refine g_iload d11_reckonTakings_128 rfl ?_
    refine g_EV1 vm0_bestFirst ml11_228 c_29 (r0_best (I := I3) (L := L2) (fun s => tdv (cpv (cmR g (nI wa) (lfO lc)) s0) (sbR g (nI wa) (lfO lc) c (cF c)) (fun s k => fiO lc (ceR g (nI wa) c (cF c) s k)) s 12) (fun s => tav (cpv (cmR g (nI wa) (lfO lc)) s0) (sbR g (nI wa) (lfO lc) c (cF c)) (fun s k => fiO lc (ceR g (nI wa) c (cF c) s k)) s 12) c (cF c) (cT c) (cS c) (cL c) coin per fine hS hTF f hf9 hbig (Nat.le_refl 3)) (by omega) (Nat.le_of_ble_eq_true rfl) d11_reckonTakings_130 ?_
    refine g_topI (nI (y)) (by rw [hy]) ?_
    refine g_iload d11_reckonTakings_133 rfl ?_
    refine g_EV2 vm0_firstCost ml11_224 c_29 (r0_first (I := I3) (L := L2) (fun s => tdv (cpv (cmR g (nI wa) (lfO lc)) s0) (sbR g (nI wa) (lfO lc) c (cF c)) (fun s k => fiO lc (ceR g (nI wa) c (cF c) s k)) s 12) (fun s => tav (cpv (cmR g (nI wa) (lfO lc)) s0) (sbR g (nI wa) (lfO lc) c (cF c)) (fun s k => fiO lc (ceR g (nI wa) c (cF c) s k)) s 12) c (cF c) (cT c) (cS c) (cL c) coin per fine hS hTF f hf9 y hfl (Nat.le_refl 2)) (by omega) (Nat.le_of_ble_eq_true rfl) d11_reckonTakings_135 ?_
    refine g_topL (lN (((tl g (nI wa) (lfO lc) coin per s0 cF cT f) c))) (by rw [hat]) ?_
    refine g_ladd d11_reckonTakings_138 ?_
    refine g_topL (lI (-(1000000000000 * (wage : Int) * wa) + ((su (tl g (nI wa) (lfO lc) coin per s0 cF cT f) (c + 1) : Nat) : Int))) (lI_add2 _ _ _) ?_
    refine g_lastN (f) _ d11_reckonTakings_139 a_53 (rfl) (by omega) (by decide) t_53 ?_
    refine g_iincN d11_reckonTakings_140 rfl (by decide) ?_
    refine g_goto 106 d11_reckonTakings_143 rfl ?_
    refine g_lo [(0, .ref 0), (1, .int (nI wa)), (2, .int (nI lo)), (3, .int (nI hi)), (4, .int (nI c)), (5, .int (nI (f + 1)))] ⟨rfl, rfl, rfl, rfl, rfl, rfl, trivial⟩ ?_
    refine ih (f + 1) _ (by omega) (by omega) (fun k hk => by rw [uL_n hk]; exact h1 k hk) (hTF.of (uL_n (by decide)) (uL_n (by decide))) (fun q a b => ?_)
    by_cases e : q = f
    · subst e; rw [uL_ss, if_pos (by omega)]
    · rw [uL_sn e, h2 q a b]
      by_cases e2 : q < f
      · rw [if_pos e2, if_pos (by omega)]
      · rw [if_neg e2, if_neg (by omega)]
set_option maxHeartbeats 1000000 in
theorem r11_tk2 {l : Launch} {K : cK} {d : Nat} {I : wI} {L : wL} {R : wR} {dy : cH} {Q : Option Value → cH → Prop} (g : Nat → Int32) (lc : Option (List Cl)) (s0 : Nat) (coin per fine wage wa n : Nat) (cF cT cS cL : Nat → Nat) (hCS : CSC I n cF cT cS cL) (hT : CT I coin per fine) (hw3 : wa ≤ 3) (o : Option Nat) (hL : LWc dy (uR R 21 1 o 21 1) lc) (lo hi : Nat) (hlh : lo ≤ hi + 1) (hh9 : hi ≤ 99) (hd : 5 ≤ d)
    (kk : ∀ (I3 : wI) (L3 : wL), (FK [22, 23, 25, 26, 28] [22, 24, 27, 33, 34, 53] I L I3 L3 ∧ WW I3 g (nI wa) ∧ SPD I3 L3 fr2 (cmR g (nI wa) (lfO lc)) s0) ∧ (∀ q, lo ≤ q → q ≤ hi → L3 53 q = lI (-(1000000000000 * (wage : Int) * wa) + ((su (tl g (nI wa) (lfO lc) coin per s0 cF cT q) n : Nat) : Int))) → GL l K m11_reckonTakings d 0 0 152 [] [] (hp I3 L3 (uR R 21 1 o) dy) Q) :
    ∀ (m c : Nat) (I2 : wI) (L2 : wL), c + m = n → (FK [22, 23, 25, 26, 28] [22, 24, 27, 33, 34, 53] I L I2 L2 ∧ WW I2 g (nI wa) ∧ SPD I2 L2 fr2 (cmR g (nI wa) (lfO lc)) s0) ∧ (∀ q, lo ≤ q → q ≤ hi → L2 53 q = lI (-(1000000000000 * (wage : Int) * wa) + ((su (tl g (nI wa) (lfO lc) coin per s0 cF cT q) c : Nat) : Int))) → GL l K m11_reckonTakings d 0 0 71 [(0, .ref 0), (1, .int (nI wa)), (2, .int (nI lo)), (3, .int (nI hi)), (4, .int (nI c))] [] (hp I2 L2 (uR R 21 1 o) dy) Q := by
  have hn6 := hCS.2.1
  intro m
  induction m with
  | zero =>
    intro c I2 L2 hc hI
    obtain rfl : c = n := by omega
    have e10 : I2 1 0 = nI c := by rw [hI.1.1.1 1 (by decide)]; exact hCS.1
    refine g_iload d11_reckonTakings_71 rfl ?_
    refine g_aload_n d11_reckonTakings_73 rfl ?_
    refine g_get fl11_10 d11_reckonTakings_74 f_0_0 ?_
    refine g_get fl11_112 d11_reckonTakings_77 f_1_0 ?_
    refine g_topI (nI (c)) (e10) ?_
    refine g_ic_ge ((c : Nat) : Int) ((c : Nat) : Int) 152 (nI_ti (by omega)) (nI_ti (by omega)) d11_reckonTakings_80 rfl (fun _ => ?_) (fun c80 => absurd c80 (by omega))
    refine g_lo [] trivial ?_
    exact kk I2 L2 hI
  | succ m ih =>
    intro c I2 L2 hc hI
    obtain ⟨⟨i1, i2, i3⟩, i4⟩ := hI
    have e10 : I2 1 0 = nI n := by rw [i1.1 1 (by decide)]; exact hCS.1
    have z1 : STA (stI8 I2 c) c (cF c) (cT c) (cS c) (cL c) coin per fine := stI8_st ((hCS.2.2 c (by omega)).of (i1.1 2 (by decide))) (hT.of (i1.1 3 (by decide)))
    refine g_iload d11_reckonTakings_71 rfl ?_
    refine g_aload_n d11_reckonTakings_73 rfl ?_
    refine g_get fl11_10 d11_reckonTakings_74 f_0_0 ?_
    refine g_get fl11_112 d11_reckonTakings_77 f_1_0 ?_
    refine g_topI (nI (n)) (e10) ?_
    refine g_ic_ge ((c : Nat) : Int) ((n : Nat) : Int) 152 (nI_ti (by omega)) (nI_ti (by omega)) d11_reckonTakings_80 rfl (fun c80 => absurd c80 (by omega)) (fun _ => ?_)
    refine g_aload_n d11_reckonTakings_83 rfl ?_
    refine g_get fl11_50 d11_reckonTakings_84 f_0_6 ?_
    refine g_aload_n d11_reckonTakings_87 rfl ?_
    refine g_get fl11_10 d11_reckonTakings_88 f_0_0 ?_
    refine g_iload d11_reckonTakings_91 rfl ?_
    refine g_VV2 vm7_take ml11_191 c_28 (r7_take0 (I := I2) c (by omega) (Nat.le_refl 1)) (by omega) (Nat.le_of_ble_eq_true rfl) d11_reckonTakings_93 ?_
    refine g_aload_n d11_reckonTakings_96 rfl ?_
    refine g_get fl11_59 d11_reckonTakings_97 f_0_7 ?_
    refine g_WV0 vm0_reckonFines ml11_221 c_29 (r0_fines (I := stI8 I2 c) (L := L2) (R := uR R 21 1 o) g (nI wa) (i2.of (stI8_n (by decide))) lc hL s0 (cmR g (nI wa) (lfO lc)) rfl c (cF c) (cT c) (cS c) (cL c) coin per fine z1 (i3.of (stI8_n (by decide)) rfl) (Nat.le_refl 4)) (by omega) (Nat.le_of_ble_eq_true rfl) d11_reckonTakings_100 (fun y hy => ?_)
    obtain ⟨I4, L4⟩ := y
    obtain ⟨⟨f1, w1, zz1, p1⟩, t1⟩ := hy
    dsimp only at f1 w1 zz1 p1 t1 ⊢
    have F4 : FK [22, 23, 25, 26, 28] [22, 24, 27, 33, 34, 53] I L I4 L4 := (i1.tr (stI8_fk (by decide))).tr (f1.up (by decide) (by decide))
    refine g_iload_n d11_reckonTakings_103 rfl ?_
    refine g_istore d11_reckonTakings_104 (by decide) ?_
    refine g_lo [(0, .ref 0), (1, .int (nI wa)), (2, .int (nI lo)), (3, .int (nI hi)), (4, .int (nI c)), (5, .int (nI lo))] ⟨rfl, rfl, rfl, rfl, rfl, rfl, trivial⟩ ?_
    refine r11_tk1 (I := I) (L := L4) g lc s0 coin per fine wage wa n cF cT cS cL hCS hT hw3 o hL lo hi hlh hh9 c (by omega) I4 zz1 hd (fun L5 g1 g2 => ?_) (hi + 1 - lo) lo L4 (by omega) (Nat.le_refl _) (fun _ _ => rfl) t1 (fun q a b => by rw [f1.2 53 (by decide), i4 q a b, if_neg (by omega)])
    have F5 : FK [22, 23, 25, 26, 28] [22, 24, 27, 33, 34, 53] I L I4 L5 := ⟨F4.1, fun k hk => (g1 k (fun z => hk (by rw [z]; decide))).trans (F4.2 k hk)⟩
    refine g_iincN d11_reckonTakings_146 rfl (by decide) ?_
    refine g_goto 71 d11_reckonTakings_149 rfl ?_
    refine g_lo [(0, .ref 0), (1, .int (nI wa)), (2, .int (nI lo)), (3, .int (nI hi)), (4, .int (nI (c + 1)))] ⟨rfl, rfl, rfl, rfl, rfl, trivial⟩ ?_
    exact ih (c + 1) I4 L5 (by omega) ⟨⟨F5, w1, p1.of rfl (g1 27 (by decide))⟩, g2⟩
set_option maxHeartbeats 600000 in
theorem r11_takings {l : Launch} {K : cK} {d : Nat} {I : wI} {L : wL} {R : wR} {dy : cH} (g : Nat → Int32) (hg : g 9 = I 3 3 ∧ g 13 = I 3 7) (s0 : Nat) (h34 : I 3 4 = nI s0) (hs1 : 1 ≤ s0) (hs2 : s0 ≤ 12) (o : Option Nat) (lc : Option (List Cl)) (hO : CLF I R dy (I 1 5) o lc) (coin per fine wage n : Nat) (cF cT cS cL : Nat → Nat) (hCS : CSC I n cF cT cS cL) (hT : CT I coin per fine) (h36 : I 3 6 = nI wage) (hwg : wage ≤ 99) (wa : Nat) (hw3 : wa ≤ 3) (lo hi : Nat) (hlh : lo ≤ hi + 1) (hh9 : hi ≤ 99) (hd : 5 ≤ d) : CW l K m11_reckonTakings d [.ref 0, .int (nI wa), .int (nI lo), .int (nI hi)] (hp I L R dy) (α := wI × wL) (fun x => FK [22, 23, 25, 26, 28] [22, 24, 27, 33, 34, 53] I L x.1 x.2 ∧ ∀ q, lo ≤ q → q ≤ hi → x.2 53 q = lI (tv g (lfO lc) coin per s0 wage n cF cT wa q)) (fun x => hp x.1 x.2 (uR R 21 1 o) dy) := by
  refine CC.of ok11_reckonTakings (Nat.le_of_ble_eq_true rfl) ?_
  refine g_aload_n d11_reckonTakings_0 rfl ?_
  refine g_get fl11_43 d11_reckonTakings_1 f_0_5 ?_
  refine g_aload_n d11_reckonTakings_4 rfl ?_
  refine g_get fl11_10 d11_reckonTakings_5 f_0_0 ?_
  refine g_aload_n d11_reckonTakings_8 rfl ?_
  refine g_get fl11_10 d11_reckonTakings_9 f_0_0 ?_
  refine g_get fl11_178 d11_reckonTakings_12 f_1_5 ?_
  refine g_iload_n d11_reckonTakings_15 rfl ?_
  refine g_VV3 vm10_serve ml11_184 c_21 (r10_serve (I 1 5) o lc hO (nI wa) (Nat.le_refl 1)) (by omega) (Nat.le_of_ble_eq_true rfl) d11_reckonTakings_16 ?_
  refine g_aload_n d11_reckonTakings_19 rfl ?_
  refine g_get fl11_43 d11_reckonTakings_20 f_0_5 ?_
  refine g_VV0 vm10_freeSlots ml11_208 c_21 (r10_free (Nat.le_refl 1)) (by omega) (Nat.le_of_ble_eq_true rfl) d11_reckonTakings_23 ?_
  refine g_aload_n d11_reckonTakings_26 rfl ?_
  refine g_get fl11_43 d11_reckonTakings_27 f_0_5 ?_
  refine g_aload_n d11_reckonTakings_30 rfl ?_
  refine g_get fl11_10 d11_reckonTakings_31 f_0_0 ?_
  refine g_get fl11_142 d11_reckonTakings_34 f_1_2 ?_
  refine g_iconstv (nI 4) d11_reckonTakings_37 rfl ?_
  refine g_ialdN (4) d11_reckonTakings_38 a_3 (rfl) (by omega) (by decide) ?_
  refine g_topI (nI (s0)) (h34) ?_
  refine g_XV1 vm10_spread ml11_214 c_21 (r10_spread (I := cI (sv I (nI wa)) 25 (fil (sv I (nI wa) 25) (-1) 12)) (L := L) g (nI wa) ((sv_ww hg).of (cI_n (by decide))) lc hO.lw fr2 fre_m s0 hs1 hs2 (Nat.le_refl 4)) (by omega) (Nat.le_of_ble_eq_true rfl) d11_reckonTakings_39 (fun x hx => ?_)
  obtain ⟨I3, L3⟩ := x
  obtain ⟨f1, w1, p1⟩ := hx
  dsimp only at f1 w1 p1 ⊢
  have F3 : FK [22, 23, 25, 26, 28] [22, 24, 27, 33, 34, 53] I L I3 L3 := ((sv_fk (by decide)).ci (by decide)).tr (f1.up (by decide) (by decide))
  refine g_pop2L d11_reckonTakings_42 rfl ?_
  refine g_aload_n d11_reckonTakings_43 rfl ?_
  refine g_get fl11_86 d11_reckonTakings_44 f_0_11 ?_
  refine g_ldc2 d11_reckonTakings_47 kl11_350 ?_
  refine g_aload_n d11_reckonTakings_50 rfl ?_
  refine g_get fl11_10 d11_reckonTakings_51 f_0_0 ?_
  refine g_get fl11_142 d11_reckonTakings_54 f_1_2 ?_
  refine g_bipushv (nI 6) d11_reckonTakings_57 rfl ?_
  refine g_ialdN (6) d11_reckonTakings_59 a_3 (rfl) (by omega) (by decide) ?_
  refine g_topI (nI (wage)) (by rw [F3.1 3 (by decide)]; exact h36) ?_
  refine g_i2lN (by omega) d11_reckonTakings_60 ?_
  refine g_lmul d11_reckonTakings_61 ?_
  refine g_iload_n d11_reckonTakings_62 rfl ?_
  refine g_i2lN (by omega) d11_reckonTakings_63 ?_
  refine g_lmul d11_reckonTakings_64 ?_
  refine g_topL (lI (-(1000000000000 * (wage : Int) * wa))) (lI_base _ _) ?_
  refine g_VS2 smAr_fillL ml11_352 (rAr_fill_53 (lI (-(1000000000000 * (wage : Int) * wa))) (Nat.le_refl 0)) (by omega) (Nat.le_of_ble_eq_true rfl) d11_reckonTakings_65 ?_
  refine g_iconstv (nI 0) d11_reckonTakings_68 rfl ?_
  refine g_istore d11_reckonTakings_69 (by decide) ?_
  refine g_lo [(0, .ref 0), (1, .int (nI wa)), (2, .int (nI lo)), (3, .int (nI hi)), (4, .int (nI 0))] ⟨rfl, rfl, rfl, rfl, rfl, trivial⟩ ?_
  refine r11_tk2 (I := I) (L := L) g lc s0 coin per fine wage wa n cF cT cS cL hCS hT hw3 o hO.lw lo hi hlh hh9 hd (fun I5 L5 hO5 => ?_) n 0 I3 _ (by omega) ⟨⟨F3.cl (by decide), w1, p1.of rfl (cL_n (by decide))⟩, fun q a b => ?_⟩
  · exact g_vret rfl d11_reckonTakings_152 ⟨(I5, L5), ⟨hO5.1.1, hO5.2⟩, rfl, rfl⟩
  · rw [cL_s]; exact (if_pos (by omega)).trans (lI_0 _)
set_option maxHeartbeats 200000 in
theorem r11_town_no {l : Launch} {K : cK} {d : Nat} {I : wI} {L : wL} {R : wR} {dy : cH} (w : Int32) (hbad : ¬ (0 ≤ w.toInt ∧ w.toInt ≤ 3)) (hd : 0 ≤ d) : CE l K m11_town d [.ref 0, .int w] (hp I L R dy) (.long (-1)) (hp I L R dy) := by
  refine CC.of ok11_town (Nat.le_of_ble_eq_true rfl) ?_
  by_cases h0 : w.toInt < 0
  · skip
    refine g_iload_n d11_town_0 rfl ?_
    refine g_iz_lt _ 9 (rfl) d11_town_1 rfl (fun _ => ?_) (fun c1 => absurd c1 (by omega))
    refine g_ldc2 d11_town_9 kl11_206 ?_
    exact g_lret rfl d11_town_12 (⟨rfl, rfl⟩)
  · skip
    refine g_iload_n d11_town_0 rfl ?_
    refine g_iz_lt _ 9 (rfl) d11_town_1 rfl (fun c1 => absurd c1 (by omega)) (fun _ => ?_)
    refine g_iload_n d11_town_4 rfl ?_
    refine g_iconstv (nI 3) d11_town_5 rfl ?_
    refine g_ic_le _ (3) 13 (rfl) (by decide) d11_town_6 rfl (fun c6 => absurd c6 (by omega)) (fun _ => ?_)
    refine g_ldc2 d11_town_9 kl11_206 ?_
    exact g_lret rfl d11_town_12 (⟨rfl, rfl⟩)
set_option maxHeartbeats 400000 in
theorem r11_town_0 {l : Launch} {K : cK} {d : Nat} {I : wI} {L : wL} {R : wR} {dy : cH} (g : Nat → Int32) (hg : g 9 = I 3 3 ∧ g 13 = I 3 7) (s0 : Nat) (h34 : I 3 4 = nI s0) (hs1 : 1 ≤ s0) (hs2 : s0 ≤ 12) (o : Option Nat) (lc : Option (List Cl)) (hO : CLF I R dy (I 1 5) o lc) (coin per fine wage n : Nat) (cF cT cS cL : Nat → Nat) (hCS : CSC I n cF cT cS cL) (hT : CT I coin per fine) (h36 : I 3 6 = nI wage) (hwg : wage ≤ 99) (wa : Nat) (h35 : I 3 5 = nI wa) (hw3 : wa ≤ 3) (hd : 6 ≤ d) : CX l K m11_town d [.ref 0, .int (nI 0)] (hp I L R dy) (α := wI × wL) (fun x => FK [22, 23, 25, 26, 28, 30, 31, 36, 39, 40, 41, 51, 52] [22, 24, 27, 30, 32, 33, 34, 35, 37, 38, 39, 42, 43, 51, 53, 54] I L x.1 x.2) (fun _ => .long (lI (tv g (lfO lc) coin per s0 wage n cF cT wa fine))) (fun x => hp x.1 x.2 (uR R 21 1 o) dy) := by
  obtain ⟨t1, t2, t3, t4, t5, t6, t7⟩ := id hT
  refine CC.of ok11_town (Nat.le_of_ble_eq_true rfl) ?_
  refine g_iload_n d11_town_0 rfl ?_
  refine g_iz_lt (0) 9 (by decide) d11_town_1 rfl (fun c1 => absurd c1 (by decide)) (fun _ => ?_)
  refine g_iload_n d11_town_4 rfl ?_
  refine g_iconstv (nI 3) d11_town_5 rfl ?_
  refine g_ic_le (0) (3) 13 (by decide) (by decide) d11_town_6 rfl (fun _ => ?_) (fun c6 => absurd c6 (by decide))
  refine g_iload_n d11_town_13 rfl ?_
  refine g_iz_ne (0) 65 (by decide) d11_town_14 rfl (fun c14 => absurd c14 (by decide)) (fun _ => ?_)
  refine g_aload_n d11_town_17 rfl ?_
  refine g_get fl11_10 d11_town_18 f_0_0 ?_
  refine g_get fl11_142 d11_town_21 f_1_2 ?_
  refine g_iconstv (nI 5) d11_town_24 rfl ?_
  refine g_ialdN (5) d11_town_25 a_3 (rfl) (by omega) (by decide) ?_
  refine g_topI (nI (wa)) (h35) ?_
  refine g_istore_n d11_town_26 (by decide) ?_
  refine g_aload_n d11_town_27 rfl ?_
  refine g_iload_n d11_town_28 rfl ?_
  refine g_aload_n d11_town_29 rfl ?_
  refine g_get fl11_10 d11_town_30 f_0_0 ?_
  refine g_get fl11_142 d11_town_33 f_1_2 ?_
  refine g_iconstv (nI 2) d11_town_36 rfl ?_
  refine g_ialdN (2) d11_town_37 a_3 (rfl) (by omega) (by decide) ?_
  refine g_topI (nI (fine)) (t6) ?_
  refine g_aload_n d11_town_38 rfl ?_
  refine g_get fl11_10 d11_town_39 f_0_0 ?_
  refine g_get fl11_142 d11_town_42 f_1_2 ?_
  refine g_iconstv (nI 2) d11_town_45 rfl ?_
  refine g_ialdN (2) d11_town_46 a_3 (rfl) (by omega) (by decide) ?_
  refine g_topI (nI (fine)) (t6) ?_
  refine g_WV3 vm11_reckonTakings ml11_290 c_0 (r11_takings g hg s0 h34 hs1 hs2 o lc hO coin per fine wage n cF cT cS cL hCS hT h36 hwg wa hw3 fine fine (by omega) t7 (Nat.le_refl 5)) (by omega) (Nat.le_of_ble_eq_true rfl) d11_town_47 (fun x hx => ?_)
  obtain ⟨I3, L3⟩ := x
  obtain ⟨f1, k1⟩ := hx
  dsimp only at f1 k1 ⊢
  refine g_aload_n d11_town_50 rfl ?_
  refine g_get fl11_86 d11_town_51 f_0_11 ?_
  refine g_aload_n d11_town_54 rfl ?_
  refine g_get fl11_10 d11_town_55 f_0_0 ?_
  refine g_get fl11_142 d11_town_58 f_1_2 ?_
  refine g_iconstv (nI 2) d11_town_61 rfl ?_
  refine g_ialdN (2) d11_town_62 a_3 (rfl) (by omega) (by decide) ?_
  refine g_topI (nI (fine)) (by rw [f1.1 3 (by decide)]; exact t6) ?_
  refine g_laldN (fine) d11_town_63 a_53 (rfl) (by omega) (by decide) ?_
  refine g_topL (lI (tv g (lfO lc) coin per s0 wage n cF cT wa fine)) (k1 fine (Nat.le_refl _) (Nat.le_refl _)) ?_
  exact g_lret rfl d11_town_64 (⟨(I3, L3), f1.up (by decide) (by decide), rfl, rfl⟩)
set_option maxHeartbeats 1000000 in
theorem r11_mo1 {l : Launch} {K : cK} {d : Nat} {I : wI} {L : wL} {R : wR} {dy : cH} {Q : Option Value → cH → Prop} (g : Nat → Int32) (hg : g 9 = I 3 3 ∧ g 13 = I 3 7) (s0 : Nat) (h34 : I 3 4 = nI s0) (hs1 : 1 ≤ s0) (hs2 : s0 ≤ 12) (o : Option Nat) (lc : Option (List Cl)) (hO : CLF I R dy (I 1 5) o lc) (coin per fine wage n : Nat) (cF cT cS cL : Nat → Nat) (hCS : CSC I n cF cT cS cL) (hT : CT I coin per fine) (h36 : I 3 6 = nI wage) (hwg : wage ≤ 99) (V : Nat → Int) (hV : V = (fun q => (tv g (lfO lc) coin per s0 wage n cF cT (q / 100) (q % 100)))) (wa : Nat) (hw3 : wa ≤ 3) (R2 : wR) (I3 : wI)
    (kk : ∀ L3 : wL, (∀ k, k ≠ 54 → L3 k = L k) → (L3 54 0 = lI (tb V (100 * wa + 100)).1 ∧ L3 54 1 = lN ((tb V (100 * wa + 100)).2 / 100) ∧ L3 54 2 = lN ((tb V (100 * wa + 100)).2 % 100)) → GL l K m11_reckonMost d 0 0 81 [(0, .ref 0), (1, .int 1), (2, .int (nI wa))] [] (hp I3 L3 R2 dy) Q) (h53 : ∀ q, q ≤ 99 → L 53 q = lI (V (100 * wa + q))) :
    ∀ (m f : Nat) (any : Int32) (L2 : wL), f + m = 100 → (∀ k, k ≠ 54 → L2 k = L k) → (100 * wa + f = 0 ∧ any = 0 ∨ 0 < 100 * wa + f ∧ any = 1 ∧ L2 54 0 = lI (tb V (100 * wa + f)).1 ∧ L2 54 1 = lN ((tb V (100 * wa + f)).2 / 100) ∧ L2 54 2 = lN ((tb V (100 * wa + f)).2 % 100)) → GL l K m11_reckonMost d 0 0 19 [(0, .ref 0), (1, .int any), (2, .int (nI wa)), (3, .int (nI f))] [] (hp I3 L2 R2 dy) Q := by
  have hVl : ∀ q, q < 400 → -300000000000000 ≤ V q ∧ V q ≤ 24000000000000000 := fun q hq => by rw [hV]; exact tv_le hT.2.1 (by omega) hwg (by omega) hCS.2.1 (fun c hc => (hCS.2.2 c hc).2.2.2.2.2.2.1)
  intro m
  induction m with
  | zero =>
    intro f any L2 hf h1 h2
    obtain rfl : f = 100 := by omega
    rcases h2 with ⟨z, _⟩ | ⟨_, rfl, h2⟩
    · omega
    refine g_iload_n d11_reckonMost_19 rfl ?_
    refine g_bipushv (nI 99) d11_reckonMost_20 rfl ?_
    refine g_ic_gt (100) (99) 81 (by decide) (by decide) d11_reckonMost_22 rfl (fun _ => ?_) (fun c22 => absurd c22 (by decide))
    refine g_lo [(0, .ref 0), (1, .int 1), (2, .int (nI wa))] ⟨rfl, rfl, rfl, trivial⟩ ?_
    exact kk L2 h1 h2
  | succ m ih =>
    intro f any L2 hf h1 h2
    obtain ⟨v1, v2⟩ := hVl (100 * wa + f) (by omega)
    have e53 : L2 53 f = lI (V (100 * wa + f)) := by rw [h1 53 (by decide)]; exact h53 f (by omega)
    have et := tb_s V (100 * wa + f)
    have hnew : ∀ any2 : Int32, any2 = 1 → tb V (100 * wa + f + 1) = (V (100 * wa + f), 100 * wa + f) → GL l K m11_reckonMost d 0 0 19 [(0, .ref 0), (1, .int any2), (2, .int (nI wa)), (3, .int (nI (f + 1)))] [] (hp I3 (uL (uL (uL L2 54 0 (lI (V (100 * wa + f)))) 54 1 (lN wa)) 54 2 (lN f)) R2 dy) Q := fun any2 ha he => by
      refine ih (f + 1) any2 _ (by omega) (fun k hk => by rw [uL_n hk, uL_n hk, uL_n hk]; exact h1 k hk) (Or.inr ⟨by omega, ha, ?_, ?_, ?_⟩)
      · rw [uL_sn (by decide), uL_sn (by decide), uL_ss, show 100 * wa + (f + 1) = 100 * wa + f + 1 by omega, he]
      · rw [uL_sn (by decide), uL_ss, show 100 * wa + (f + 1) = 100 * wa + f + 1 by omega, he]; congr 1; show wa = (100 * wa + f) / 100; omega
      · rw [uL_ss, show 100 * wa + (f + 1) = 100 * wa + f + 1 by omega, he]; congr 1; show f = (100 * wa + f) % 100; omega
    rcases h2 with ⟨z, rfl⟩ | ⟨z, rfl, k0, k1, k2⟩
    · rw [if_pos (by rw [z]; show (-4000000000000000000 : Int) < _; rw [z] at v1; omega)] at et
      refine g_iload_n d11_reckonMost_19 rfl ?_
      refine g_bipushv (nI 99) d11_reckonMost_20 rfl ?_
      refine g_ic_gt ((f : Nat) : Int) (99) 81 (nI_ti (by omega)) (by decide) d11_reckonMost_22 rfl (fun c22 => absurd c22 (by omega)) (fun _ => ?_)
      refine g_iload_n d11_reckonMost_25 rfl ?_
      refine g_iz_eq (0) 45 (by decide) d11_reckonMost_26 rfl (fun _ => ?_) (fun c26 => absurd c26 (by decide))
      refine g_iconstv (nI 1) d11_reckonMost_45 rfl ?_
      refine g_istore_n d11_reckonMost_46 (by decide) ?_
      refine g_aload_n d11_reckonMost_47 rfl ?_
      refine g_get fl11_90 d11_reckonMost_48 f_0_12 ?_
      refine g_iconstv (nI 0) d11_reckonMost_51 rfl ?_
      refine g_aload_n d11_reckonMost_52 rfl ?_
      refine g_get fl11_86 d11_reckonMost_53 f_0_11 ?_
      refine g_iload_n d11_reckonMost_56 rfl ?_
      refine g_laldN (f) d11_reckonMost_57 a_53 (rfl) (by omega) (by decide) ?_
      refine g_topL (lI (V (100 * wa + f))) (by first | exact e53 | (rw [uL_n (by decide)]; exact e53)) ?_
      refine g_lastN (0) _ d11_reckonMost_58 a_54 (rfl) (by omega) (by decide) t_54 ?_
      refine g_aload_n d11_reckonMost_59 rfl ?_
      refine g_get fl11_90 d11_reckonMost_60 f_0_12 ?_
      refine g_iconstv (nI 1) d11_reckonMost_63 rfl ?_
      refine g_iload_n d11_reckonMost_64 rfl ?_
      refine g_i2lN (by omega) d11_reckonMost_65 ?_
      refine g_lastN (1) _ d11_reckonMost_66 a_54 (rfl) (by omega) (by decide) t_54 ?_
      refine g_aload_n d11_reckonMost_67 rfl ?_
      refine g_get fl11_90 d11_reckonMost_68 f_0_12 ?_
      refine g_iconstv (nI 2) d11_reckonMost_71 rfl ?_
      refine g_iload_n d11_reckonMost_72 rfl ?_
      refine g_i2lN (by omega) d11_reckonMost_73 ?_
      refine g_lastN (2) _ d11_reckonMost_74 a_54 (rfl) (by omega) (by decide) t_54 ?_
      refine g_iincN d11_reckonMost_75 rfl (by decide) ?_
      refine g_goto 19 d11_reckonMost_78 rfl ?_
      refine g_lo [(0, .ref 0), (1, .int (nI 1)), (2, .int (nI wa)), (3, .int (nI (f + 1)))] ⟨rfl, rfl, rfl, rfl, trivial⟩ ?_
      exact hnew (nI 1) rfl et
    · obtain ⟨b1, b2, b3⟩ := tb_le V 24000000000000000 (by decide) (100 * wa + f) (fun j hj => by have := hVl j (by omega); omega)
      by_cases hlt : (tb V (100 * wa + f)).1 < V (100 * wa + f)
      · rw [if_pos hlt] at et
        refine g_iload_n d11_reckonMost_19 rfl ?_
        refine g_bipushv (nI 99) d11_reckonMost_20 rfl ?_
        refine g_ic_gt ((f : Nat) : Int) (99) 81 (nI_ti (by omega)) (by decide) d11_reckonMost_22 rfl (fun c22 => absurd c22 (by omega)) (fun _ => ?_)
        refine g_iload_n d11_reckonMost_25 rfl ?_
        refine g_iz_eq (1) 45 (by decide) d11_reckonMost_26 rfl (fun c26 => absurd c26 (by decide)) (fun _ => ?_)
        refine g_aload_n d11_reckonMost_29 rfl ?_
        refine g_get fl11_86 d11_reckonMost_30 f_0_11 ?_
        refine g_iload_n d11_reckonMost_33 rfl ?_
        refine g_laldN (f) d11_reckonMost_34 a_53 (rfl) (by omega) (by decide) ?_
        refine g_topL (lI (V (100 * wa + f))) (by first | exact e53 | (rw [uL_n (by decide)]; exact e53)) ?_
        refine g_aload_n d11_reckonMost_35 rfl ?_
        refine g_get fl11_90 d11_reckonMost_36 f_0_12 ?_
        refine g_iconstv (nI 0) d11_reckonMost_39 rfl ?_
        refine g_laldN (0) d11_reckonMost_40 a_54 (rfl) (by omega) (by decide) ?_
        refine g_topL (lI (tb V (100 * wa + f)).1) (k0) ?_
        refine g_lx_le (V (100 * wa + f)) (tb V (100 * wa + f)).1 75 (lI_ti (by omega) (by omega)) (lI_ti (by omega) (by omega)) d11_reckonMost_41 d11_reckonMost_42 rfl (fun c41 => absurd c41 (by omega)) (fun _ => ?_)
        refine g_iconstv (nI 1) d11_reckonMost_45 rfl ?_
        refine g_istore_n d11_reckonMost_46 (by decide) ?_
        refine g_aload_n d11_reckonMost_47 rfl ?_
        refine g_get fl11_90 d11_reckonMost_48 f_0_12 ?_
        refine g_iconstv (nI 0) d11_reckonMost_51 rfl ?_
        refine g_aload_n d11_reckonMost_52 rfl ?_
        refine g_get fl11_86 d11_reckonMost_53 f_0_11 ?_
        refine g_iload_n d11_reckonMost_56 rfl ?_
        refine g_laldN (f) d11_reckonMost_57 a_53 (rfl) (by omega) (by decide) ?_
        refine g_topL (lI (V (100 * wa + f))) (by first | exact e53 | (rw [uL_n (by decide)]; exact e53)) ?_
        refine g_lastN (0) _ d11_reckonMost_58 a_54 (rfl) (by omega) (by decide) t_54 ?_
        refine g_aload_n d11_reckonMost_59 rfl ?_
        refine g_get fl11_90 d11_reckonMost_60 f_0_12 ?_
        refine g_iconstv (nI 1) d11_reckonMost_63 rfl ?_
        refine g_iload_n d11_reckonMost_64 rfl ?_
        refine g_i2lN (by omega) d11_reckonMost_65 ?_
        refine g_lastN (1) _ d11_reckonMost_66 a_54 (rfl) (by omega) (by decide) t_54 ?_
        refine g_aload_n d11_reckonMost_67 rfl ?_
        refine g_get fl11_90 d11_reckonMost_68 f_0_12 ?_
        refine g_iconstv (nI 2) d11_reckonMost_71 rfl ?_
        refine g_iload_n d11_reckonMost_72 rfl ?_
        refine g_i2lN (by omega) d11_reckonMost_73 ?_
        refine g_lastN (2) _ d11_reckonMost_74 a_54 (rfl) (by omega) (by decide) t_54 ?_
        refine g_iincN d11_reckonMost_75 rfl (by decide) ?_
        refine g_goto 19 d11_reckonMost_78 rfl ?_
        refine g_lo [(0, .ref 0), (1, .int (nI 1)), (2, .int (nI wa)), (3, .int (nI (f + 1)))] ⟨rfl, rfl, rfl, rfl, trivial⟩ ?_
        exact hnew (nI 1) rfl et
      · rw [if_neg hlt] at et
        refine g_iload_n d11_reckonMost_19 rfl ?_
        refine g_bipushv (nI 99) d11_reckonMost_20 rfl ?_
        refine g_ic_gt ((f : Nat) : Int) (99) 81 (nI_ti (by omega)) (by decide) d11_reckonMost_22 rfl (fun c22 => absurd c22 (by omega)) (fun _ => ?_)
        refine g_iload_n d11_reckonMost_25 rfl ?_
        refine g_iz_eq (1) 45 (by decide) d11_reckonMost_26 rfl (fun c26 => absurd c26 (by decide)) (fun _ => ?_)
        refine g_aload_n d11_reckonMost_29 rfl ?_
        refine g_get fl11_86 d11_reckonMost_30 f_0_11 ?_
        refine g_iload_n d11_reckonMost_33 rfl ?_
        refine g_laldN (f) d11_reckonMost_34 a_53 (rfl) (by omega) (by decide) ?_
        refine g_topL (lI (V (100 * wa + f))) (by first | exact e53 | (rw [uL_n (by decide)]; exact e53)) ?_
        refine g_aload_n d11_reckonMost_35 rfl ?_
        refine g_get fl11_90 d11_reckonMost_36 f_0_12 ?_
        refine g_iconstv (nI 0) d11_reckonMost_39 rfl ?_
        refine g_laldN (0) d11_reckonMost_40 a_54 (rfl) (by omega) (by decide) ?_
        refine g_topL (lI (tb V (100 * wa + f)).1) (k0) ?_
        refine g_lx_le (V (100 * wa + f)) (tb V (100 * wa + f)).1 75 (lI_ti (by omega) (by omega)) (lI_ti (by omega) (by omega)) d11_reckonMost_41 d11_reckonMost_42 rfl (fun _ => ?_) (fun c41 => absurd c41 (by omega))
        refine g_iincN d11_reckonMost_75 rfl (by decide) ?_
        refine g_goto 19 d11_reckonMost_78 rfl ?_
        refine g_lo [(0, .ref 0), (1, .int 1), (2, .int (nI wa)), (3, .int (nI (f + 1)))] ⟨rfl, rfl, rfl, rfl, trivial⟩ ?_
        exact ih (f + 1) 1 L2 (by omega) h1 (Or.inr ⟨by omega, rfl, by rw [show 100 * wa + (f + 1) = 100 * wa + f + 1 by omega, et]; exact ⟨k0, k1, k2⟩⟩)
set_option maxHeartbeats 1000000 in
theorem r11_mo2 {l : Launch} {K : cK} {d : Nat} {I : wI} {L : wL} {R : wR} {dy : cH} (g : Nat → Int32) (hg : g 9 = I 3 3 ∧ g 13 = I 3 7) (s0 : Nat) (h34 : I 3 4 = nI s0) (hs1 : 1 ≤ s0) (hs2 : s0 ≤ 12) (o : Option Nat) (lc : Option (List Cl)) (hO : CLF I R dy (I 1 5) o lc) (coin per fine wage n : Nat) (cF cT cS cL : Nat → Nat) (hCS : CSC I n cF cT cS cL) (hT : CT I coin per fine) (h36 : I 3 6 = nI wage) (hwg : wage ≤ 99) (V : Nat → Int) (hV : V = (fun q => (tv g (lfO lc) coin per s0 wage n cF cT (q / 100) (q % 100)))) (hd : 6 ≤ d) :
    ∀ (m wa : Nat) (any : Int32) (R2 : wR) (I2 : wI) (L2 : wL), wa + m = 4 → (R2 = R ∨ R2 = uR R 21 1 o) → FK [22, 23, 25, 26, 28, 30, 31, 36, 39, 40, 41, 51, 52] [22, 24, 27, 30, 32, 33, 34, 35, 37, 38, 39, 42, 43, 51, 53, 54] I L I2 L2 → (100 * wa = 0 ∧ any = 0 ∨ 0 < 100 * wa ∧ any = 1 ∧ L2 54 0 = lI (tb V (100 * wa)).1 ∧ L2 54 1 = lN ((tb V (100 * wa)).2 / 100) ∧ L2 54 2 = lN ((tb V (100 * wa)).2 % 100)) → GL l K m11_reckonMost d 0 0 4 [(0, .ref 0), (1, .int any), (2, .int (nI wa))] [] (hp I2 L2 R2 dy) (fun r h => ∃ x : wI × wL × wR, ((x.2.2 = R ∨ x.2.2 = uR R 21 1 o) ∧ FK [22, 23, 25, 26, 28, 30, 31, 36, 39, 40, 41, 51, 52] [22, 24, 27, 30, 32, 33, 34, 35, 37, 38, 39, 42, 43, 51, 53, 54] I L x.1 x.2.1 ∧ (x.2.1 54 0 = lI (tb V 400).1 ∧ x.2.1 54 1 = lN ((tb V 400).2 / 100) ∧ x.2.1 54 2 = lN ((tb V 400).2 % 100))) ∧ r = none ∧ h = hp x.1 x.2.1 x.2.2 dy) := by
  intro m
  induction m with
  | zero =>
    intro wa any R2 I2 L2 hwa hR hF h2
    obtain rfl : wa = 4 := by omega
    rcases h2 with ⟨z, _⟩ | ⟨_, _, h2⟩
    · omega
    refine g_iload_n d11_reckonMost_4 rfl ?_
    refine g_iconstv (nI 3) d11_reckonMost_5 rfl ?_
    refine g_ic_gt (4) (3) 87 (by decide) (by decide) d11_reckonMost_6 rfl (fun _ => ?_) (fun c6 => absurd c6 (by decide))
    exact g_vret rfl d11_reckonMost_87 (⟨(I2, L2, R2), ⟨hR, hF, h2⟩, rfl, rfl⟩)
  | succ m ih =>
    intro wa any R2 I2 L2 hwa hR hF h2
    have e1 := hF.1 1 (by decide)
    have e2 := hF.1 2 (by decide)
    have e3 := hF.1 3 (by decide)
    have hRR : uR R2 21 1 o = uR R 21 1 o := by rcases hR with rfl | rfl; rfl; exact uR_uR
    have hO2 : CLF I2 R2 dy (I2 1 5) o lc := by
      obtain ⟨nl, q1, q2, q3⟩ := hO
      refine ⟨nl, by rw [e1]; exact q1, q2, ?_⟩
      rw [e1]
      have e4 : R2 4 = R 4 := by rcases hR with rfl | rfl; rfl; exact uR_n (by decide)
      rw [e4]; exact q3
    refine g_iload_n d11_reckonMost_4 rfl ?_
    refine g_iconstv (nI 3) d11_reckonMost_5 rfl ?_
    refine g_ic_gt ((wa : Nat) : Int) (3) 87 (nI_ti (by omega)) (by decide) d11_reckonMost_6 rfl (fun c6 => absurd c6 (by omega)) (fun _ => ?_)
    refine g_aload_n d11_reckonMost_9 rfl ?_
    refine g_iload_n d11_reckonMost_10 rfl ?_
    refine g_iconstv (nI 0) d11_reckonMost_11 rfl ?_
    refine g_bipushv (nI 99) d11_reckonMost_12 rfl ?_
    refine g_WV3 vm11_reckonTakings ml11_290 c_0 (r11_takings (I := I2) (L := L2) (R := R2) g (by rw [e3]; exact hg) s0 (by rw [e3]; exact h34) hs1 hs2 o lc hO2 coin per fine wage n cF cT cS cL (hCS.of e1 e2) (hT.of e3) (by rw [e3]; exact h36) hwg wa (by omega) 0 99 (by omega) (by omega) (Nat.le_refl 5)) (by omega) (Nat.le_of_ble_eq_true rfl) d11_reckonMost_14 (fun x hx => ?_)
    obtain ⟨I4, L4⟩ := x
    obtain ⟨f1, k1⟩ := hx
    dsimp only at f1 k1 ⊢
    rw [hRR]
    have e54 : L4 54 = L2 54 := f1.2 54 (by decide)
    refine g_iconstv (nI 0) d11_reckonMost_17 rfl ?_
    refine g_istore_n d11_reckonMost_18 (by decide) ?_
    refine g_lo [(0, .ref 0), (1, .int any), (2, .int (nI wa)), (3, .int (nI 0))] ⟨rfl, rfl, rfl, rfl, trivial⟩ ?_
    refine r11_mo1 (I := I) (R := R) (L := L4) g hg s0 h34 hs1 hs2 o lc hO coin per fine wage n cF cT cS cL hCS hT h36 hwg V hV wa (by omega) (uR R 21 1 o) I4 (fun L5 g1 g2 => ?_) (fun q hq => by rw [k1 q (by omega) hq, hV]; show _ = lI (tv _ _ _ _ _ _ _ _ _ ((100 * wa + q) / 100) ((100 * wa + q) % 100)); rw [show (100 * wa + q) / 100 = wa by omega, show (100 * wa + q) % 100 = q by omega]) 100 0 any L4 (by omega) (fun _ _ => rfl) (by rw [Nat.add_zero, e54]; exact h2)
    have F4 : FK [22, 23, 25, 26, 28, 30, 31, 36, 39, 40, 41, 51, 52] [22, 24, 27, 30, 32, 33, 34, 35, 37, 38, 39, 42, 43, 51, 53, 54] I L I4 L4 := hF.tr (f1.up (by decide) (by decide))
    have F5 : FK [22, 23, 25, 26, 28, 30, 31, 36, 39, 40, 41, 51, 52] [22, 24, 27, 30, 32, 33, 34, 35, 37, 38, 39, 42, 43, 51, 53, 54] I L I4 L5 := ⟨F4.1, fun k hk => (g1 k (fun z => hk (by rw [z]; decide))).trans (F4.2 k hk)⟩
    refine g_iincN d11_reckonMost_81 rfl (by decide) ?_
    refine g_goto 4 d11_reckonMost_84 rfl ?_
    refine g_lo [(0, .ref 0), (1, .int 1), (2, .int (nI (wa + 1)))] ⟨rfl, rfl, rfl, trivial⟩ ?_
    exact ih (wa + 1) 1 (uR R 21 1 o) I4 L5 (by omega) (Or.inr rfl) F5 (Or.inr ⟨by omega, rfl, by rw [show 100 * (wa + 1) = 100 * wa + 100 by omega]; exact g2⟩)
set_option maxHeartbeats 200000 in
theorem r11_most {l : Launch} {K : cK} {d : Nat} {I : wI} {L : wL} {R : wR} {dy : cH} (g : Nat → Int32) (hg : g 9 = I 3 3 ∧ g 13 = I 3 7) (s0 : Nat) (h34 : I 3 4 = nI s0) (hs1 : 1 ≤ s0) (hs2 : s0 ≤ 12) (o : Option Nat) (lc : Option (List Cl)) (hO : CLF I R dy (I 1 5) o lc) (coin per fine wage n : Nat) (cF cT cS cL : Nat → Nat) (hCS : CSC I n cF cT cS cL) (hT : CT I coin per fine) (h36 : I 3 6 = nI wage) (hwg : wage ≤ 99) (hd : 6 ≤ d) : CW l K m11_reckonMost d [.ref 0] (hp I L R dy) (α := wI × wL × wR) (fun x => (x.2.2 = R ∨ x.2.2 = uR R 21 1 o) ∧ FK [22, 23, 25, 26, 28, 30, 31, 36, 39, 40, 41, 51, 52] [22, 24, 27, 30, 32, 33, 34, 35, 37, 38, 39, 42, 43, 51, 53, 54] I L x.1 x.2.1 ∧ x.2.1 54 0 = lI (tb (fun q => (tv g (lfO lc) coin per s0 wage n cF cT (q / 100) (q % 100))) 400).1 ∧ x.2.1 54 1 = lN ((tb (fun q => (tv g (lfO lc) coin per s0 wage n cF cT (q / 100) (q % 100))) 400).2 / 100) ∧ x.2.1 54 2 = lN ((tb (fun q => (tv g (lfO lc) coin per s0 wage n cF cT (q / 100) (q % 100))) 400).2 % 100)) (fun x => hp x.1 x.2.1 x.2.2 dy) := by
  refine CC.of ok11_reckonMost (Nat.le_of_ble_eq_true rfl) ?_
  refine g_iconstv (nI 0) d11_reckonMost_0 rfl ?_
  refine g_istore_n d11_reckonMost_1 (by decide) ?_
  refine g_iconstv (nI 0) d11_reckonMost_2 rfl ?_
  refine g_istore_n d11_reckonMost_3 (by decide) ?_
  refine g_lo [(0, .ref 0), (1, .int 0), (2, .int (nI 0))] ⟨rfl, rfl, rfl, trivial⟩ ?_
  exact r11_mo2 g hg s0 h34 hs1 hs2 o lc hO coin per fine wage n cF cT cS cL hCS hT h36 hwg _ rfl hd 4 0 0 R I L (by omega) (Or.inl rfl) FK.rf (Or.inl ⟨rfl, rfl⟩)
set_option maxHeartbeats 400000 in
theorem r11_town_1 {l : Launch} {K : cK} {d : Nat} {I : wI} {L : wL} {R : wR} {dy : cH} (g : Nat → Int32) (hg : g 9 = I 3 3 ∧ g 13 = I 3 7) (s0 : Nat) (h34 : I 3 4 = nI s0) (hs1 : 1 ≤ s0) (hs2 : s0 ≤ 12) (o : Option Nat) (lc : Option (List Cl)) (hO : CLF I R dy (I 1 5) o lc) (coin per fine wage n : Nat) (cF cT cS cL : Nat → Nat) (hCS : CSC I n cF cT cS cL) (hT : CT I coin per fine) (h36 : I 3 6 = nI wage) (hwg : wage ≤ 99) (hd : 7 ≤ d) : CX l K m11_town d [.ref 0, .int (nI 1)] (hp I L R dy) (α := wI × wL × wR) (fun x => (x.2.2 = R ∨ x.2.2 = uR R 21 1 o) ∧ FK [22, 23, 25, 26, 28, 30, 31, 36, 39, 40, 41, 51, 52] [22, 24, 27, 30, 32, 33, 34, 35, 37, 38, 39, 42, 43, 51, 53, 54] I L x.1 x.2.1) (fun _ => .long (lI (tb (fun q => (tv g (lfO lc) coin per s0 wage n cF cT (q / 100) (q % 100))) 400).1)) (fun x => hp x.1 x.2.1 x.2.2 dy) := by
  refine CC.of ok11_town (Nat.le_of_ble_eq_true rfl) ?_
  refine g_iload_n d11_town_0 rfl ?_
  refine g_iz_lt (1) 9 (by decide) d11_town_1 rfl (fun c1 => absurd c1 (by decide)) (fun _ => ?_)
  refine g_iload_n d11_town_4 rfl ?_
  refine g_iconstv (nI 3) d11_town_5 rfl ?_
  refine g_ic_le (1) (3) 13 (by decide) (by decide) d11_town_6 rfl (fun _ => ?_) (fun c6 => absurd c6 (by decide))
  refine g_iload_n d11_town_13 rfl ?_
  refine g_iz_ne (1) 65 (by decide) d11_town_14 rfl (fun _ => ?_) (fun c14 => absurd c14 (by decide))
  refine g_aload_n d11_town_65 rfl ?_
  refine g_WV0 vm11_reckonMost ml11_294 c_0 (r11_most g hg s0 h34 hs1 hs2 o lc hO coin per fine wage n cF cT cS cL hCS hT h36 hwg (Nat.le_refl 6)) (by omega) (Nat.le_of_ble_eq_true rfl) d11_town_66 (fun x hx => ?_)
  obtain ⟨I3, L3, R3⟩ := x
  obtain ⟨r1, f1, k0, k1, k2⟩ := hx
  dsimp only at r1 f1 k0 k1 k2 ⊢
  refine g_aload_n d11_town_69 rfl ?_
  refine g_get fl11_90 d11_town_70 f_0_12 ?_
  refine g_iload_n d11_town_73 rfl ?_
  refine g_iconstv (nI 1) d11_town_74 rfl ?_
  refine g_isubN (by decide) d11_town_75 ?_
  refine g_laldN ((1 - 1)) d11_town_76 a_54 (rfl) (by decide) (by decide) ?_
  refine g_topL (lI (tb (fun q => (tv g (lfO lc) coin per s0 wage n cF cT (q / 100) (q % 100))) 400).1) (k0) ?_
  exact g_lret rfl d11_town_77 (⟨(I3, L3, R3), ⟨r1, f1⟩, rfl, rfl⟩)
set_option maxHeartbeats 400000 in
theorem r11_town_2 {l : Launch} {K : cK} {d : Nat} {I : wI} {L : wL} {R : wR} {dy : cH} (g : Nat → Int32) (hg : g 9 = I 3 3 ∧ g 13 = I 3 7) (s0 : Nat) (h34 : I 3 4 = nI s0) (hs1 : 1 ≤ s0) (hs2 : s0 ≤ 12) (o : Option Nat) (lc : Option (List Cl)) (hO : CLF I R dy (I 1 5) o lc) (coin per fine wage n : Nat) (cF cT cS cL : Nat → Nat) (hCS : CSC I n cF cT cS cL) (hT : CT I coin per fine) (h36 : I 3 6 = nI wage) (hwg : wage ≤ 99) (hd : 7 ≤ d) : CX l K m11_town d [.ref 0, .int (nI 2)] (hp I L R dy) (α := wI × wL × wR) (fun x => (x.2.2 = R ∨ x.2.2 = uR R 21 1 o) ∧ FK [22, 23, 25, 26, 28, 30, 31, 36, 39, 40, 41, 51, 52] [22, 24, 27, 30, 32, 33, 34, 35, 37, 38, 39, 42, 43, 51, 53, 54] I L x.1 x.2.1) (fun _ => .long (lN ((tb (fun q => (tv g (lfO lc) coin per s0 wage n cF cT (q / 100) (q % 100))) 400).2 / 100))) (fun x => hp x.1 x.2.1 x.2.2 dy) := by
  refine CC.of ok11_town (Nat.le_of_ble_eq_true rfl) ?_
  refine g_iload_n d11_town_0 rfl ?_
  refine g_iz_lt (2) 9 (by decide) d11_town_1 rfl (fun c1 => absurd c1 (by decide)) (fun _ => ?_)
  refine g_iload_n d11_town_4 rfl ?_
  refine g_iconstv (nI 3) d11_town_5 rfl ?_
  refine g_ic_le (2) (3) 13 (by decide) (by decide) d11_town_6 rfl (fun _ => ?_) (fun c6 => absurd c6 (by decide))
  refine g_iload_n d11_town_13 rfl ?_
  refine g_iz_ne (2) 65 (by decide) d11_town_14 rfl (fun _ => ?_) (fun c14 => absurd c14 (by decide))
  refine g_aload_n d11_town_65 rfl ?_
  refine g_WV0 vm11_reckonMost ml11_294 c_0 (r11_most g hg s0 h34 hs1 hs2 o lc hO coin per fine wage n cF cT cS cL hCS hT h36 hwg (Nat.le_refl 6)) (by omega) (Nat.le_of_ble_eq_true rfl) d11_town_66 (fun x hx => ?_)
  obtain ⟨I3, L3, R3⟩ := x
  obtain ⟨r1, f1, k0, k1, k2⟩ := hx
  dsimp only at r1 f1 k0 k1 k2 ⊢
  refine g_aload_n d11_town_69 rfl ?_
  refine g_get fl11_90 d11_town_70 f_0_12 ?_
  refine g_iload_n d11_town_73 rfl ?_
  refine g_iconstv (nI 1) d11_town_74 rfl ?_
  refine g_isubN (by decide) d11_town_75 ?_
  refine g_laldN ((2 - 1)) d11_town_76 a_54 (rfl) (by decide) (by decide) ?_
  refine g_topL (lN ((tb (fun q => (tv g (lfO lc) coin per s0 wage n cF cT (q / 100) (q % 100))) 400).2 / 100)) (k1) ?_
  exact g_lret rfl d11_town_77 (⟨(I3, L3, R3), ⟨r1, f1⟩, rfl, rfl⟩)
set_option maxHeartbeats 400000 in
theorem r11_town_3 {l : Launch} {K : cK} {d : Nat} {I : wI} {L : wL} {R : wR} {dy : cH} (g : Nat → Int32) (hg : g 9 = I 3 3 ∧ g 13 = I 3 7) (s0 : Nat) (h34 : I 3 4 = nI s0) (hs1 : 1 ≤ s0) (hs2 : s0 ≤ 12) (o : Option Nat) (lc : Option (List Cl)) (hO : CLF I R dy (I 1 5) o lc) (coin per fine wage n : Nat) (cF cT cS cL : Nat → Nat) (hCS : CSC I n cF cT cS cL) (hT : CT I coin per fine) (h36 : I 3 6 = nI wage) (hwg : wage ≤ 99) (hd : 7 ≤ d) : CX l K m11_town d [.ref 0, .int (nI 3)] (hp I L R dy) (α := wI × wL × wR) (fun x => (x.2.2 = R ∨ x.2.2 = uR R 21 1 o) ∧ FK [22, 23, 25, 26, 28, 30, 31, 36, 39, 40, 41, 51, 52] [22, 24, 27, 30, 32, 33, 34, 35, 37, 38, 39, 42, 43, 51, 53, 54] I L x.1 x.2.1) (fun _ => .long (lN ((tb (fun q => (tv g (lfO lc) coin per s0 wage n cF cT (q / 100) (q % 100))) 400).2 % 100))) (fun x => hp x.1 x.2.1 x.2.2 dy) := by
  refine CC.of ok11_town (Nat.le_of_ble_eq_true rfl) ?_
  refine g_iload_n d11_town_0 rfl ?_
  refine g_iz_lt (3) 9 (by decide) d11_town_1 rfl (fun c1 => absurd c1 (by decide)) (fun _ => ?_)
  refine g_iload_n d11_town_4 rfl ?_
  refine g_iconstv (nI 3) d11_town_5 rfl ?_
  refine g_ic_le (3) (3) 13 (by decide) (by decide) d11_town_6 rfl (fun _ => ?_) (fun c6 => absurd c6 (by decide))
  refine g_iload_n d11_town_13 rfl ?_
  refine g_iz_ne (3) 65 (by decide) d11_town_14 rfl (fun _ => ?_) (fun c14 => absurd c14 (by decide))
  refine g_aload_n d11_town_65 rfl ?_
  refine g_WV0 vm11_reckonMost ml11_294 c_0 (r11_most g hg s0 h34 hs1 hs2 o lc hO coin per fine wage n cF cT cS cL hCS hT h36 hwg (Nat.le_refl 6)) (by omega) (Nat.le_of_ble_eq_true rfl) d11_town_66 (fun x hx => ?_)
  obtain ⟨I3, L3, R3⟩ := x
  obtain ⟨r1, f1, k0, k1, k2⟩ := hx
  dsimp only at r1 f1 k0 k1 k2 ⊢
  refine g_aload_n d11_town_69 rfl ?_
  refine g_get fl11_90 d11_town_70 f_0_12 ?_
  refine g_iload_n d11_town_73 rfl ?_
  refine g_iconstv (nI 1) d11_town_74 rfl ?_
  refine g_isubN (by decide) d11_town_75 ?_
  refine g_laldN ((3 - 1)) d11_town_76 a_54 (rfl) (by decide) (by decide) ?_
  refine g_topL (lN ((tb (fun q => (tv g (lfO lc) coin per s0 wage n cF cT (q / 100) (q % 100))) 400).2 % 100)) (k2) ?_
  exact g_lret rfl d11_town_77 (⟨(I3, L3, R3), ⟨r1, f1⟩, rfl, rfl⟩)
