def lI (z : Int) : Int64 := Int64.ofInt z
theorem lI_ti {z : Int} (h1 : -9000000000000000000 ≤ z) (h2 : z ≤ 9000000000000000000) : (lI z).toInt = z := Int64.toInt_ofInt_of_le (by omega) (by omega)
theorem lI_add (z : Int) (b : Nat) : lI z + lN b = lI (z + b) := by unfold lI lN; rw [Int64.ofInt_add, Int64.ofInt_eq_ofNat]
theorem lI_base (a b : Nat) : (-1000000000000 : Int64) * lN a * lN b = lI (-(1000000000000 * (a : Int) * b)) := by
  rw [show (-(1000000000000 * (a : Int) * b)) = (-1000000000000) * (a : Int) * (b : Int) by rw [Int.neg_mul, Int.neg_mul]]
  unfold lI lN
  rw [Int64.ofInt_mul, Int64.ofInt_mul, Int64.ofInt_eq_ofNat, Int64.ofInt_eq_ofNat]
  rfl
def su (f : Nat → Nat) : Nat → Nat
  | 0 => 0
  | c + 1 => su f c + f c
theorem su_le (f : Nat → Nat) (B : Nat) : ∀ n, (∀ c, c < n → f c ≤ B) → su f n ≤ n * B
  | 0, _ => Nat.zero_le _
  | n + 1, h => by have := su_le f B n (fun c hc => h c (by omega)); have := h n (by omega); show su f n + f n ≤ _; rw [Nat.succ_mul]; omega
/-- the cars -/
def CS (I : wI) (n : Nat) (cF cT cS cL : Nat → Nat) : Prop := I 76 0 = nI n ∧ n ≤ 6 ∧ ∀ c, c < n → CF I c (cF c) (cT c) (cS c) (cL c)
theorem CS.of {I I2 : wI} {n : Nat} {cF cT cS cL : Nat → Nat} (h : I2 76 = I 76) (hC : CS I n cF cT cS cL) : CS I2 n cF cT cS cL := by
  unfold CS; rw [h]; exact ⟨hC.1, hC.2.1, fun c hc => (hC.2.2 c hc).of h⟩
def tl (g : Nat → Int32) (wa : Int32) (lf : lawF) (coin per s0 : Nat) (cF cT : Nat → Nat) (f c : Nat) : Nat := (fa (co1 coin per (cF c) (cT c) (fun s => mfv (cmR g wa lf) s0 (fnR g wa lf c (cF c) f) s 12)) 12).1
def tv (g : Nat → Int32) (lf : lawF) (coin per s0 wage n : Nat) (cF cT : Nat → Nat) (wa f : Nat) : Int := -(1000000000000 * (wage : Int) * wa) + (su (tl g (nI wa) lf coin per s0 cF cT f) n : Nat)
theorem tl_le {g : Nat → Int32} {wa : Int32} {lf : lawF} {coin per s0 : Nat} {cF cT : Nat → Nat} {f c : Nat} (hc : coin ≤ 9) (hf : f ≤ 99) (ht : cT c ≤ 11) : tl g wa lf coin per s0 cF cT f c ≤ 4000000000000000 :=
  Nat.le_of_lt (Nat.lt_of_le_of_lt (fa_le _ 12).1 (co1_le coin per (cF c) (cT c) hc ht _ (fun s => mfv_le _ s0 _ (cmR_le _ _ lf) (fun a b => fnR_le _ _ lf c (cF c) a b hf) s) (Nat.zero_le _)))
theorem wg_le {wage wa : Nat} (h1 : wage ≤ 99) (h2 : wa ≤ 3) : 1000000000000 * (wage : Int) * wa ≤ 297000000000000 ∧ 0 ≤ 1000000000000 * (wage : Int) * wa := by
  have h : wage * wa ≤ 99 * 3 := Nat.mul_le_mul h1 h2
  have e : 1000000000000 * (wage : Int) * wa = 1000000000000 * ((wage * wa : Nat) : Int) := by rw [Int.mul_assoc]; rfl
  rw [e]; omega
set_option maxHeartbeats 800000 in
theorem r12_toL {l : Launch} {K : cK} {d : Nat} {I : wI} {L : wL} {R : wR} {dy : cH} {Q : Option Value → cH → Prop} (lf : lawF) (ha : askd I lf) (ho : I 74 15 = 0) (coin per s0 wage wa n : Nat) (cF cT cS cL : Nat → Nat) (hco : I 76 6 = nI coin) (hc9 : coin ≤ 9) (hpe : I 76 7 = nI per) (hp4 : per ≤ 4) (hwg : I 76 12 = nI wage) (hw99 : wage ≤ 99) (hwa : I 74 36 = nI wa) (hw3 : wa ≤ 3) (hCS : CS I n cF cT cS cL) (hLC : LC I L (cmR (I 76) (nI wa) lf) s0) (f : Nat) (hf9 : f ≤ 99) (hd : 6 ≤ d)
    (kk : ∀ (I3 : wI) (L3 : wL), (FR [92, 93] [28, 32, 43, 44] [87, 88, 89, 94] [33, 34, 42] I L I3 L3) → GL l K m12_townOf d 0 0 58 [(0, .ref 74), (1, .int (nI (f))), (2, .long (lI (-(1000000000000 * (wage : Int) * wa) + (su (tl (I 76) (nI wa) lf coin per s0 cF cT f) (n) : Nat))))] [] (hp I3 L3 R dy) Q) :
    ∀ (zn c : Nat) (I2 : wI) (L2 : wL), c + zn = n → (FR [92, 93] [28, 32, 43, 44] [87, 88, 89, 94] [33, 34, 42] I L I2 L2) → GL l K m12_townOf d 0 0 21 [(0, .ref 74), (1, .int (nI (f))), (2, .long (lI (-(1000000000000 * (wage : Int) * wa) + (su (tl (I 76) (nI wa) lf coin per s0 cF cT f) (c) : Nat)))), (4, .int (nI (c)))] [] (hp I2 L2 R dy) Q := by
  obtain ⟨hn, hn6, hCs⟩ := id hCS
  intro zn
  induction zn with
  | zero =>
    intro c I2 L2 hin hF
    obtain rfl : n = c := by omega
    refine g_iload d12_townOf_21 rfl ?_
    refine g_aload_n d12_townOf_23 rfl ?_
    refine g_get fl12_13 d12_townOf_24 f_74_3 ?_
    refine g_iconstv (nI 0) d12_townOf_27 rfl ?_
    refine g_ialdN (0) d12_townOf_28 a_76 (rfl) (by omega) (by decide) ?_
    refine g_topI (nI (n)) ((congrFun (hF.1 76 (by decide) (by decide)) 0).trans hn) ?_
    refine g_ic_ge ((n : Nat) : Int) ((n : Nat) : Int) 58 (nI_ti (by omega)) (nI_ti (by omega)) d12_townOf_29 rfl (fun _ => ?_) (fun c29 => absurd c29 (by omega))
    refine g_lo [(0, .ref 74), (1, .int (nI (f))), (2, .long (lI (-(1000000000000 * (wage : Int) * wa) + (su (tl (I 76) (nI wa) lf coin per s0 cF cT f) (n) : Nat))))] ⟨rfl, rfl, rfl, trivial⟩ ?_
    exact kk I2 L2 hF
  | succ zn ih =>
    intro c I2 L2 hin hF
    have e76 : I2 76 = I 76 := hF.1 76 (by decide) (by decide)
    have hC := hCs c (by omega)
    have hc6 := hC.1
    refine g_iload d12_townOf_21 rfl ?_
    refine g_aload_n d12_townOf_23 rfl ?_
    refine g_get fl12_13 d12_townOf_24 f_74_3 ?_
    refine g_iconstv (nI 0) d12_townOf_27 rfl ?_
    refine g_ialdN (0) d12_townOf_28 a_76 (rfl) (by omega) (by decide) ?_
    refine g_topI (nI (n)) ((congrFun (hF.1 76 (by decide) (by decide)) 0).trans hn) ?_
    refine g_ic_ge ((c : Nat) : Int) ((n : Nat) : Int) 58 (nI_ti (by omega)) (nI_ti (by omega)) d12_townOf_29 rfl (fun c29 => absurd c29 (by omega)) (fun _ => ?_)
    refine g_aload_n d12_townOf_32 rfl ?_
    refine g_iload d12_townOf_33 rfl ?_
    refine g_iload_n d12_townOf_35 rfl ?_
    refine g_WV2 vm12_layCar ml12_430 c_74 (r12_layCar (I := I2) (L := L2) lf (ha.of e76 (hF.2.1 35 (by decide))) ((hF.2.1 15 (by decide)).trans ho) c (cF c) (cT c) (cS c) (cL c) (hC.of e76) f hf9 (cmR (I 76) (nI wa) lf) s0 (by unfold LC; rw [hF.1 90 (by decide) (by decide), hF.2.2.1 91 (by decide) (by decide)]; exact hLC) (cmR_le _ _ lf) (Nat.le_refl 5)) (by omega) (Nat.le_of_ble_eq_true rfl) d12_townOf_36 (fun x hx => ?_)
    obtain ⟨I3, L3⟩ := x
    obtain ⟨hF3, hR3⟩ := hx
    dsimp only at hF3 hR3 ⊢
    have e36 : I2 74 36 = nI wa := (hF.2.1 36 (by decide)).trans hwa
    have hb : fnv I2 lf c (cF c) f = fnR (I 76) (nI wa) lf c (cF c) f := by funext s k; unfold fnv fnR cEn ceR; rw [e76, e36]
    rw [hb] at hR3
    have e763 : I3 76 = I 76 := (hF3.1 76 (by decide) (by decide)).trans e76
    refine g_aload_n d12_townOf_39 rfl ?_
    refine g_iload d12_townOf_40 rfl ?_
    refine g_WV1 vm12_findAtFirst ml12_451 c_74 (r12_findAtFirst (I := I3) (L := L3) coin per c (cF c) (cT c) (cS c) (cL c) (hC.of e763) (by rw [e763]; exact hco) hc9 (by rw [e763]; exact hpe) hp4 (fun s => mfv (cmR (I 76) (nI wa) lf) s0 (fnR (I 76) (nI wa) lf c (cF c) f) s 12) (fun s a b => (hR3 s a b).2) (fun q hq => Nat.lt_trans (co1_le coin per (cF c) (cT c) hc9 hC.2.2.2.2.2.2.1 _ (fun s => mfv_le _ s0 _ (cmR_le _ _ lf) (fun a b => fnR_le _ _ lf c (cF c) a b hf9) s) hq) (by decide)) (Nat.le_refl 3)) (by omega) (Nat.le_of_ble_eq_true rfl) d12_townOf_42 (fun y hy => ?_)
    obtain ⟨I4, L4⟩ := y
    obtain ⟨hF4, -, -, h42⟩ := hy
    dsimp only at hF4 h42 ⊢
    refine g_lload_n d12_townOf_45 rfl ?_
    refine g_aload_n d12_townOf_46 rfl ?_
    refine g_get fl12_442 d12_townOf_47 f_74_42 ?_
    refine g_topL (lN ((tl (I 76) (nI wa) lf coin per s0 cF cT f) c)) (h42) ?_
    refine g_ladd d12_townOf_50 ?_
    refine g_topL (lI (-(1000000000000 * (wage : Int) * wa) + (su (tl (I 76) (nI wa) lf coin per s0 cF cT f) (c + 1) : Nat))) (by rw [lI_add]; congr 1; show _ = _ + ((su (tl (I 76) (nI wa) lf coin per s0 cF cT f) c + (tl (I 76) (nI wa) lf coin per s0 cF cT f) c : Nat) : Int); omega) ?_
    refine g_lstore_n d12_townOf_51 (by decide) ?_
    refine g_iincN d12_townOf_52 rfl (by decide) ?_
    refine g_goto 21 d12_townOf_55 rfl ?_
    refine g_lo [(0, .ref 74), (1, .int (nI (f))), (2, .long (lI (-(1000000000000 * (wage : Int) * wa) + (su (tl (I 76) (nI wa) lf coin per s0 cF cT f) (c + 1) : Nat)))), (4, .int (nI (c + 1)))] ⟨rfl, rfl, rfl, rfl, trivial⟩ ?_
    exact ih (c + 1) I4 L4 (by omega) ((hF.tr (hF3.up (by decide) (by decide) (by decide) (by decide))).tr (hF4.up (by decide) (by decide) (by decide) (by decide)))
set_option maxHeartbeats 400000 in
theorem r12_townOf {l : Launch} {K : cK} {d : Nat} {I : wI} {L : wL} {R : wR} {dy : cH} (lf : lawF) (ha : askd I lf) (ho : I 74 15 = 0) (coin per s0 wage wa n : Nat) (cF cT cS cL : Nat → Nat) (hco : I 76 6 = nI coin) (hc9 : coin ≤ 9) (hpe : I 76 7 = nI per) (hp4 : per ≤ 4) (hwg : I 76 12 = nI wage) (hw99 : wage ≤ 99) (hwa : I 74 36 = nI wa) (hw3 : wa ≤ 3) (hCS : CS I n cF cT cS cL) (hLC : LC I L (cmR (I 76) (nI wa) lf) s0) (f : Nat) (hf9 : f ≤ 99) (hd : 6 ≤ d) : CX l K m12_townOf d [.ref 74, .int (nI f)] (hp I L R dy) (α := wI × wL) (fun x => FR [92, 93] [28, 32, 43, 44] [87, 88, 89, 94] [33, 34, 42] I L x.1 x.2) (fun _ => .long (lI (tv (I 76) lf coin per s0 wage n cF cT wa f))) (fun x => hp x.1 x.2 R dy) := by
  refine CC.of ok12_townOf (Nat.le_of_ble_eq_true rfl) ?_
  refine g_ldc2 d12_townOf_0 kl12_529 ?_
  refine g_aload_n d12_townOf_3 rfl ?_
  refine g_bipushv (nI 6) d12_townOf_4 rfl ?_
  refine g_EV1 vm12_term ml12_378 c_74 (r12_term (6) (by omega) (Nat.le_refl 0)) (by omega) (Nat.le_of_ble_eq_true rfl) d12_townOf_6 ?_
  refine g_topI (nI (wage)) (hwg) ?_
  refine g_i2lN (by omega) d12_townOf_9 ?_
  refine g_lmul d12_townOf_10 ?_
  refine g_aload_n d12_townOf_11 rfl ?_
  refine g_get fl12_381 d12_townOf_12 f_74_36 ?_
  refine g_topI (nI (wa)) (hwa) ?_
  refine g_i2lN (by omega) d12_townOf_15 ?_
  refine g_lmul d12_townOf_16 ?_
  refine g_topL (lI (-(1000000000000 * (wage : Int) * wa) + (su (tl (I 76) (nI wa) lf coin per s0 cF cT f) (0) : Nat))) ((lI_base wage wa).trans (by congr 1; show _ = _ + ((0 : Nat) : Int); omega)) ?_
  refine g_lstore_n d12_townOf_17 (by decide) ?_
  refine g_iconstv (nI 0) d12_townOf_18 rfl ?_
  refine g_istore d12_townOf_19 (by decide) ?_
  refine g_lo [(0, .ref 74), (1, .int (nI (f))), (2, .long (lI (-(1000000000000 * (wage : Int) * wa) + (su (tl (I 76) (nI wa) lf coin per s0 cF cT f) (0) : Nat)))), (4, .int (nI (0)))] ⟨rfl, rfl, rfl, rfl, trivial⟩ ?_
  refine r12_toL lf ha ho coin per s0 wage wa n cF cT cS cL hco hc9 hpe hp4 hwg hw99 hwa hw3 hCS hLC f hf9 hd (fun I3 L3 hF3 => ?_) n 0 I L (by omega) FR.rf
  refine g_lload_n d12_townOf_58 rfl ?_
  exact g_lret rfl d12_townOf_59 (⟨(I3, L3), hF3, rfl, rfl⟩)
/-- the most that is taken, looked for in order -/
def tb (v : Nat → Int) : Nat → Int × Nat
  | 0 => (-4000000000000000000, 0)
  | q + 1 => if (tb v q).1 < v q then (v q, q) else tb v q
theorem tb_s (v : Nat → Int) (q : Nat) : tb v (q + 1) = if (tb v q).1 < v q then (v q, q) else tb v q := rfl
theorem tb_le (v : Nat → Int) (B : Int) (hB : -4000000000000000000 ≤ B) : ∀ q, (∀ j, j < q → -4000000000000000000 ≤ v j ∧ v j ≤ B) → -4000000000000000000 ≤ (tb v q).1 ∧ (tb v q).1 ≤ B ∧ (tb v q).2 ≤ q
  | 0, _ => ⟨Int.le_refl _, hB, Nat.le_refl _⟩
  | q + 1, h => by
    obtain ⟨a, b, c⟩ := tb_le v B hB q (fun j hj => h j (by omega))
    have := h q (by omega)
    show _ ≤ (if _ then _ else _ : Int × Nat).1 ∧ (if _ then _ else _ : Int × Nat).1 ≤ _ ∧ (if _ then _ else _ : Int × Nat).2 ≤ _
    split
    · exact ⟨this.1, this.2, Nat.le_succ q⟩
    · exact ⟨a, b, Nat.le_succ_of_le c⟩
theorem tv_le {g : Nat → Int32} {lf : lawF} {coin per s0 wage n : Nat} {cF cT : Nat → Nat} {wa f : Nat} (hc : coin ≤ 9) (hf : f ≤ 99) (hw : wage ≤ 99) (hw3 : wa ≤ 3) (hn : n ≤ 6) (ht : ∀ c, c < n → cT c ≤ 11) : -300000000000000 ≤ tv g lf coin per s0 wage n cF cT wa f ∧ tv g lf coin per s0 wage n cF cT wa f ≤ 24000000000000000 := by
  have h1 := wg_le hw hw3
  have h2 := su_le (tl g (nI wa) lf coin per s0 cF cT f) 4000000000000000 n (fun c h => tl_le hc hf (ht c h))
  have h3 : n * 4000000000000000 ≤ 6 * 4000000000000000 := Nat.mul_le_mul_right _ hn
  unfold tv
  omega
set_option maxHeartbeats 800000 in
theorem r12_tnL {l : Launch} {K : cK} {d : Nat} {I : wI} {L : wL} {R : wR} {dy : cH} {Q : Option Value → cH → Prop} (lf : lawF) (ha : askd I lf) (ho : I 74 15 = 0) (coin per s0 wage wa n : Nat) (cF cT cS cL : Nat → Nat) (hco : I 76 6 = nI coin) (hc9 : coin ≤ 9) (hpe : I 76 7 = nI per) (hp4 : per ≤ 4) (hwg : I 76 12 = nI wage) (hw99 : wage ≤ 99) (hwa : I 74 36 = nI wa) (hw3 : wa ≤ 3) (hCS : CS I n cF cT cS cL) (hLC : LC I L (cmR (I 76) (nI wa) lf) s0) (w : Int32) (hd : 7 ≤ d)
    (kk : ∀ (I3 : wI) (L3 : wL), (FR [92, 93] [28, 32, 43, 44] [87, 88, 89, 94] [33, 34, 42] I L I3 L3) → GL l K m12_town d 0 0 129 [(0, .ref 74), (1, .int w), (2, .long (lI (tb (fun q => tv (I 76) lf coin per s0 wage n cF cT (q / 100) (q % 100)) (100 * wa + 100)).1)), (4, .int (nI ((tb (fun q => tv (I 76) lf coin per s0 wage n cF cT (q / 100) (q % 100)) (100 * wa + 100)).2)))] [] (hp I3 L3 R dy) Q) :
    ∀ (zn f : Nat) (I2 : wI) (L2 : wL), f + zn = 100 → (FR [92, 93] [28, 32, 43, 44] [87, 88, 89, 94] [33, 34, 42] I L I2 L2) → GL l K m12_town d 0 0 70 [(0, .ref 74), (1, .int w), (2, .long (lI (tb (fun q => tv (I 76) lf coin per s0 wage n cF cT (q / 100) (q % 100)) (100 * wa + f)).1)), (4, .int (nI ((tb (fun q => tv (I 76) lf coin per s0 wage n cF cT (q / 100) (q % 100)) (100 * wa + f)).2))), (5, .int (nI (f)))] [] (hp I2 L2 R dy) Q := by
  obtain ⟨hn, hn6, hCs⟩ := id hCS
  intro zn
  induction zn with
  | zero =>
    intro f I2 L2 hin hF
    obtain rfl : 100 = f := by omega
    refine g_iload d12_town_70 rfl ?_
    refine g_bipushv (nI 100) d12_town_72 rfl ?_
    refine g_ic_ge ((100 : Nat) : Int) (100) 129 (nI_ti (by omega)) (by decide) d12_town_74 rfl (fun _ => ?_) (fun c74 => absurd c74 (by decide))
    refine g_lo [(0, .ref 74), (1, .int w), (2, .long (lI (tb (fun q => tv (I 76) lf coin per s0 wage n cF cT (q / 100) (q % 100)) (100 * wa + 100)).1)), (4, .int (nI ((tb (fun q => tv (I 76) lf coin per s0 wage n cF cT (q / 100) (q % 100)) (100 * wa + 100)).2)))] ⟨rfl, rfl, rfl, rfl, trivial⟩ ?_
    exact kk I2 L2 hF
  | succ zn ih =>
    intro f I2 L2 hin hF
    obtain ⟨b1, b2, b3⟩ := tb_le (fun q => tv (I 76) lf coin per s0 wage n cF cT (q / 100) (q % 100)) 24000000000000000 (by decide) (100 * wa + f) (fun j hj => by have := tv_le (g := I 76) (lf := lf) (per := per) (s0 := s0) (cF := cF) (wa := j / 100) (f := j % 100) hc9 (by omega) hw99 (by omega) hn6 (fun c h => (hCs c h).2.2.2.2.2.2.1); exact ⟨by omega, this.2⟩)
    have b4 := tv_le (g := I 76) (lf := lf) (per := per) (s0 := s0) (cF := cF) (wa := wa) (f := f) hc9 (by omega) hw99 hw3 hn6 (fun c h => (hCs c h).2.2.2.2.2.2.1)
    have e1 : (100 * wa + f) / 100 = wa := by omega
    have e2 : (100 * wa + f) % 100 = f := by omega
    have hV : (fun q => tv (I 76) lf coin per s0 wage n cF cT (q / 100) (q % 100)) (100 * wa + f) = tv (I 76) lf coin per s0 wage n cF cT wa f := by show tv _ _ _ _ _ _ _ _ _ _ _ = _; rw [e1, e2]
    by_cases hv : (tb (fun q => tv (I 76) lf coin per s0 wage n cF cT (q / 100) (q % 100)) (100 * wa + f)).1 < tv (I 76) lf coin per s0 wage n cF cT wa f
    · have ht : tb (fun q => tv (I 76) lf coin per s0 wage n cF cT (q / 100) (q % 100)) (100 * wa + f + 1) = (tv (I 76) lf coin per s0 wage n cF cT wa f, 100 * wa + f) := by rw [tb_s, e1, e2, if_pos hv]
      refine g_iload d12_town_70 rfl ?_
      refine g_bipushv (nI 100) d12_town_72 rfl ?_
      refine g_ic_ge ((f : Nat) : Int) (100) 129 (nI_ti (by omega)) (by decide) d12_town_74 rfl (fun c74 => absurd c74 (by omega)) (fun _ => ?_)
      refine g_aload_n d12_town_77 rfl ?_
      refine g_iload d12_town_78 rfl ?_
      refine g_XV1 vm12_townOf ml12_531 c_74 (r12_townOf (I := I2) (L := L2) lf (ha.of (hF.1 76 (by decide) (by decide)) (hF.2.1 35 (by decide))) ((hF.2.1 15 (by decide)).trans ho) coin per s0 wage wa n cF cT cS cL (by rw [(hF.1 76 (by decide) (by decide))]; exact hco) hc9 (by rw [(hF.1 76 (by decide) (by decide))]; exact hpe) hp4 (by rw [(hF.1 76 (by decide) (by decide))]; exact hwg) hw99 ((hF.2.1 36 (by decide)).trans hwa) hw3 (hCS.of (hF.1 76 (by decide) (by decide))) (by unfold LC; rw [(hF.1 76 (by decide) (by decide)), hF.1 90 (by decide) (by decide), hF.2.2.1 91 (by decide) (by decide)]; exact hLC) f (by omega) (Nat.le_refl 6)) (by omega) (Nat.le_of_ble_eq_true rfl) d12_town_80 (fun x hx => ?_)
      refine g_topL (lI (tv (I 76) lf coin per s0 wage n cF cT wa f)) (by rw [(hF.1 76 (by decide) (by decide))]) ?_
      obtain ⟨I3, L3⟩ := x
      dsimp only at hx ⊢
      have e36 : I3 74 36 = nI wa := (hx.2.1 36 (by decide)).trans ((hF.2.1 36 (by decide)).trans hwa)
      refine g_lstore d12_town_83 (by decide) ?_
      refine g_lload d12_town_85 rfl ?_
      refine g_lload_n d12_town_87 rfl ?_
      refine g_lx_le (tv (I 76) lf coin per s0 wage n cF cT wa f) (tb (fun q => tv (I 76) lf coin per s0 wage n cF cT (q / 100) (q % 100)) (100 * wa + f)).1 105 (lI_ti (by omega) (by omega)) (lI_ti (by omega) (by omega)) d12_town_88 d12_town_89 rfl (fun c88 => absurd c88 (by omega)) (fun _ => ?_)
      refine g_bipushv (nI 100) d12_town_92 rfl ?_
      refine g_aload_n d12_town_94 rfl ?_
      refine g_get fl12_381 d12_town_95 f_74_36 ?_
      refine g_topI (nI (wa)) (e36) ?_
      refine g_imulN d12_town_98 ?_
      refine g_iload d12_town_99 rfl ?_
      refine g_iaddN d12_town_101 ?_
      refine g_goto 107 d12_town_102 rfl ?_
      refine g_istore d12_town_107 (by decide) ?_
      refine g_lload d12_town_109 rfl ?_
      refine g_lload_n d12_town_111 rfl ?_
      refine g_lx_le (tv (I 76) lf coin per s0 wage n cF cT wa f) (tb (fun q => tv (I 76) lf coin per s0 wage n cF cT (q / 100) (q % 100)) (100 * wa + f)).1 121 (lI_ti (by omega) (by omega)) (lI_ti (by omega) (by omega)) d12_town_112 d12_town_113 rfl (fun c112 => absurd c112 (by omega)) (fun _ => ?_)
      refine g_lload d12_town_116 rfl ?_
      refine g_goto 122 d12_town_118 rfl ?_
      refine g_lstore_n d12_town_122 (by decide) ?_
      refine g_iincN d12_town_123 rfl (by decide) ?_
      refine g_goto 70 d12_town_126 rfl ?_
      refine g_lo [(0, .ref 74), (1, .int w), (2, .long (lI (tb (fun q => tv (I 76) lf coin per s0 wage n cF cT (q / 100) (q % 100)) (100 * wa + f + 1)).1)), (4, .int (nI ((tb (fun q => tv (I 76) lf coin per s0 wage n cF cT (q / 100) (q % 100)) (100 * wa + f + 1)).2))), (5, .int (nI (f + 1)))] ⟨rfl, rfl, by rw [ht]; rfl, by rw [ht]; rfl, rfl, trivial⟩ ?_
      exact ih (f + 1) I3 L3 (by omega) (hF.tr hx)
    · have ht : tb (fun q => tv (I 76) lf coin per s0 wage n cF cT (q / 100) (q % 100)) (100 * wa + f + 1) = tb (fun q => tv (I 76) lf coin per s0 wage n cF cT (q / 100) (q % 100)) (100 * wa + f) := by rw [tb_s, e1, e2, if_neg hv]
      refine g_iload d12_town_70 rfl ?_
      refine g_bipushv (nI 100) d12_town_72 rfl ?_
      refine g_ic_ge ((f : Nat) : Int) (100) 129 (nI_ti (by omega)) (by decide) d12_town_74 rfl (fun c74 => absurd c74 (by omega)) (fun _ => ?_)
      refine g_aload_n d12_town_77 rfl ?_
      refine g_iload d12_town_78 rfl ?_
      refine g_XV1 vm12_townOf ml12_531 c_74 (r12_townOf (I := I2) (L := L2) lf (ha.of (hF.1 76 (by decide) (by decide)) (hF.2.1 35 (by decide))) ((hF.2.1 15 (by decide)).trans ho) coin per s0 wage wa n cF cT cS cL (by rw [(hF.1 76 (by decide) (by decide))]; exact hco) hc9 (by rw [(hF.1 76 (by decide) (by decide))]; exact hpe) hp4 (by rw [(hF.1 76 (by decide) (by decide))]; exact hwg) hw99 ((hF.2.1 36 (by decide)).trans hwa) hw3 (hCS.of (hF.1 76 (by decide) (by decide))) (by unfold LC; rw [(hF.1 76 (by decide) (by decide)), hF.1 90 (by decide) (by decide), hF.2.2.1 91 (by decide) (by decide)]; exact hLC) f (by omega) (Nat.le_refl 6)) (by omega) (Nat.le_of_ble_eq_true rfl) d12_town_80 (fun x hx => ?_)
      refine g_topL (lI (tv (I 76) lf coin per s0 wage n cF cT wa f)) (by rw [(hF.1 76 (by decide) (by decide))]) ?_
      obtain ⟨I3, L3⟩ := x
      dsimp only at hx ⊢
      have e36 : I3 74 36 = nI wa := (hx.2.1 36 (by decide)).trans ((hF.2.1 36 (by decide)).trans hwa)
      refine g_lstore d12_town_83 (by decide) ?_
      refine g_lload d12_town_85 rfl ?_
      refine g_lload_n d12_town_87 rfl ?_
      refine g_lx_le (tv (I 76) lf coin per s0 wage n cF cT wa f) (tb (fun q => tv (I 76) lf coin per s0 wage n cF cT (q / 100) (q % 100)) (100 * wa + f)).1 105 (lI_ti (by omega) (by omega)) (lI_ti (by omega) (by omega)) d12_town_88 d12_town_89 rfl (fun _ => ?_) (fun c88 => absurd c88 (by omega))
      refine g_iload d12_town_105 rfl ?_
      refine g_istore d12_town_107 (by decide) ?_
      refine g_lload d12_town_109 rfl ?_
      refine g_lload_n d12_town_111 rfl ?_
      refine g_lx_le (tv (I 76) lf coin per s0 wage n cF cT wa f) (tb (fun q => tv (I 76) lf coin per s0 wage n cF cT (q / 100) (q % 100)) (100 * wa + f)).1 121 (lI_ti (by omega) (by omega)) (lI_ti (by omega) (by omega)) d12_town_112 d12_town_113 rfl (fun _ => ?_) (fun c112 => absurd c112 (by omega))
      refine g_lload_n d12_town_121 rfl ?_
      refine g_lstore_n d12_town_122 (by decide) ?_
      refine g_iincN d12_town_123 rfl (by decide) ?_
      refine g_goto 70 d12_town_126 rfl ?_
      refine g_lo [(0, .ref 74), (1, .int w), (2, .long (lI (tb (fun q => tv (I 76) lf coin per s0 wage n cF cT (q / 100) (q % 100)) (100 * wa + f + 1)).1)), (4, .int (nI ((tb (fun q => tv (I 76) lf coin per s0 wage n cF cT (q / 100) (q % 100)) (100 * wa + f + 1)).2))), (5, .int (nI (f + 1)))] ⟨rfl, rfl, by rw [ht]; rfl, by rw [ht]; rfl, rfl, trivial⟩ ?_
      exact ih (f + 1) I3 L3 (by omega) (hF.tr hx)
set_option maxHeartbeats 800000 in
theorem r12_tnO {l : Launch} {K : cK} {d : Nat} {I : wI} {L : wL} {R : wR} {dy : cH} {Q : Option Value → cH → Prop} (lf : lawF) (ha : askd I lf) (ho : I 74 15 = 0) (coin per s0 wage n : Nat) (cF cT cS cL : Nat → Nat) (hco : I 76 6 = nI coin) (hc9 : coin ≤ 9) (hpe : I 76 7 = nI per) (hp4 : per ≤ 4) (hwg : I 76 12 = nI wage) (hw99 : wage ≤ 99) (hs0 : I 76 10 = nI s0) (hs1 : 1 ≤ s0) (hs2 : s0 ≤ 12) (hCS : CS I n cF cT cS cL) (w : Int32) (hd : 7 ≤ d)
    (kk : ∀ (I3 : wI) (L3 : wL), FR [90, 92, 93] [28, 32, 36, 43, 44] [87, 88, 89, 91, 94] [33, 34, 42] I L I3 L3 → GL l K m12_town d 0 0 142 [(0, .ref 74), (1, .int w), (2, .long (lI (tb (fun q => tv (I 76) lf coin per s0 wage n cF cT (q / 100) (q % 100)) (400)).1)), (4, .int (nI ((tb (fun q => tv (I 76) lf coin per s0 wage n cF cT (q / 100) (q % 100)) (400)).2)))] [] (hp I3 L3 R dy) Q) :
    ∀ (zn wa : Nat) (I2 : wI) (L2 : wL), wa + zn = 4 → FR [90, 92, 93] [28, 32, 36, 43, 44] [87, 88, 89, 91, 94] [33, 34, 42] I L I2 L2 → I2 74 36 = nI wa → GL l K m12_town d 0 0 55 [(0, .ref 74), (1, .int w), (2, .long (lI (tb (fun q => tv (I 76) lf coin per s0 wage n cF cT (q / 100) (q % 100)) (100 * wa)).1)), (4, .int (nI ((tb (fun q => tv (I 76) lf coin per s0 wage n cF cT (q / 100) (q % 100)) (100 * wa)).2)))] [] (hp I2 L2 R dy) Q := by
  intro zn
  induction zn with
  | zero =>
    intro wa I2 L2 hin hF h36
    obtain rfl : 4 = wa := by omega
    refine g_aload_n d12_town_55 rfl ?_
    refine g_get fl12_381 d12_town_56 f_74_36 ?_
    refine g_topI (nI (4)) (h36) ?_
    refine g_iconstv (nI 4) d12_town_59 rfl ?_
    refine g_ic_ge ((4 : Nat) : Int) (4) 142 (nI_ti (by omega)) (by decide) d12_town_60 rfl (fun _ => ?_) (fun c60 => absurd c60 (by decide))
    refine g_lo [(0, .ref 74), (1, .int w), (2, .long (lI (tb (fun q => tv (I 76) lf coin per s0 wage n cF cT (q / 100) (q % 100)) (400)).1)), (4, .int (nI ((tb (fun q => tv (I 76) lf coin per s0 wage n cF cT (q / 100) (q % 100)) (400)).2)))] ⟨rfl, rfl, rfl, rfl, trivial⟩ ?_
    exact kk I2 L2 hF
  | succ zn ih =>
    intro wa I2 L2 hin hF h36
    refine g_aload_n d12_town_55 rfl ?_
    refine g_get fl12_381 d12_town_56 f_74_36 ?_
    refine g_topI (nI (wa)) (h36) ?_
    refine g_iconstv (nI 4) d12_town_59 rfl ?_
    refine g_ic_ge ((wa : Nat) : Int) (4) 142 (nI_ti (by omega)) (by decide) d12_town_60 rfl (fun c60 => absurd c60 (by omega)) (fun _ => ?_)
    refine g_aload_n d12_town_63 rfl ?_
    refine g_WV0 vm12_layComes ml12_421 c_74 (r12_layComes (I := I2) (L := L2) lf (ha.of (hF.1 76 (by decide) (by decide)) (hF.2.1 35 (by decide))) ((hF.2.1 15 (by decide)).trans ho) s0 (by rw [(hF.1 76 (by decide) (by decide))]; exact hs0) hs1 hs2 (Nat.le_refl 5)) (by omega) (Nat.le_of_ble_eq_true rfl) d12_town_64 (fun x hx => ?_)
    obtain ⟨I3, L3⟩ := x
    obtain ⟨hF3, hLC⟩ := hx
    dsimp only at hF3 hLC ⊢
    have e763 : I3 76 = I 76 := (hF3.1 76 (by decide) (by decide)).trans (hF.1 76 (by decide) (by decide))
    have hcv : cmv I2 lf = cmR (I 76) (nI wa) lf := by funext s k; unfold cmv cmR; rw [(hF.1 76 (by decide) (by decide)), h36]
    rw [hcv] at hLC
    refine g_iconstv (nI 0) d12_town_67 rfl ?_
    refine g_istore d12_town_68 (by decide) ?_
    refine g_lo [(0, .ref 74), (1, .int w), (2, .long (lI (tb (fun q => tv (I3 76) lf coin per s0 wage n cF cT (q / 100) (q % 100)) (100 * wa + 0)).1)), (4, .int (nI ((tb (fun q => tv (I3 76) lf coin per s0 wage n cF cT (q / 100) (q % 100)) (100 * wa + 0)).2))), (5, .int (nI (0)))] ⟨rfl, rfl, by rw [e763]; rfl, by rw [e763]; rfl, rfl, trivial⟩ ?_
    refine r12_tnL (I := I3) (L := L3) lf (ha.of e763 ((hF3.2.1 35 (by decide)).trans (hF.2.1 35 (by decide)))) ((hF3.2.1 15 (by decide)).trans ((hF.2.1 15 (by decide)).trans ho)) coin per s0 wage wa n cF cT cS cL (by rw [e763]; exact hco) hc9 (by rw [e763]; exact hpe) hp4 (by rw [e763]; exact hwg) hw99 ((hF3.2.1 36 (by decide)).trans h36) (by omega) (hCS.of e763) (by rw [e763]; exact hLC) w hd (fun I4 L4 hF4 => ?_) 100 0 I3 L3 (by omega) FR.rf
    have f36 : I4 74 36 = nI wa := (hF4.2.1 36 (by decide)).trans ((hF3.2.1 36 (by decide)).trans h36)
    have hF5 : FR [90, 92, 93] [28, 32, 36, 43, 44] [87, 88, 89, 91, 94] [33, 34, 42] I L I4 L4 := (hF.tr (hF3.up (by decide) (by decide) (by decide) (by decide))).tr (hF4.up (by decide) (by decide) (by decide) (by decide))
    refine g_aload_n d12_town_129 rfl ?_
    refine g_dup d12_town_130 rfl ?_
    refine g_get fl12_381 d12_town_131 f_74_36 ?_
    refine g_topI (nI (wa)) (f36) ?_
    refine g_iconstv (nI 1) d12_town_134 rfl ?_
    refine g_iaddN d12_town_135 ?_
    refine g_putIh _ fl12_381 d12_town_136 f_74_36 s_74_36 ?_
    refine g_goto 55 d12_town_139 rfl ?_
    refine g_lo [(0, .ref 74), (1, .int w), (2, .long (lI (tb (fun q => tv (I 76) lf coin per s0 wage n cF cT (q / 100) (q % 100)) (100 * (wa + 1))).1)), (4, .int (nI ((tb (fun q => tv (I 76) lf coin per s0 wage n cF cT (q / 100) (q % 100)) (100 * (wa + 1))).2)))] ⟨rfl, rfl, by rw [e763]; rfl, by rw [e763]; rfl, trivial⟩ ?_
    exact ih (wa + 1) _ L4 (by omega) (hF5.uf (by decide)) uI_ss
set_option maxHeartbeats 200000 in
theorem r12_town_no {l : Launch} {K : cK} {d : Nat} {I : wI} {L : wL} {R : wR} {dy : cH} (w : Int32) (hbad : ¬ (0 ≤ w.toInt ∧ w.toInt ≤ 3)) (hd : 1 ≤ d) : CE l K m12_town d [.ref 74, .int w] (hp I L R dy) (.long (-1)) (hp (uI I 74 0 0) L R dy) := by
  refine CC.of ok12_town (Nat.le_of_ble_eq_true rfl) ?_
  refine g_aload_n d12_town_0 rfl ?_
  refine g_iconstv (nI 0) d12_town_1 rfl ?_
  refine g_putIh _ fl12_128 d12_town_2 f_74_0 s_74_0 ?_
  refine g_iload_n d12_town_5 rfl ?_
  refine g_i2l d12_town_6 ?_
  refine g_lconstv (0) d12_town_7 rfl ?_
  refine g_ldc2 d12_town_8 kl12_165 ?_
  refine g_ES3 sm12_in ml12_134 (r12_inI (ai := (0)) (bi := (3)) (i2l_int _) (by decide) (by decide) (Nat.le_refl 0)) (by omega) (Nat.le_of_ble_eq_true rfl) d12_town_11 ?_
  refine g_bnz 21 d12_town_14 rfl (fun c14 => ?_) (fun c14 => ?_)
  · exact absurd c14 hbad
  · refine g_ldc2 d12_town_17 kl12_219 ?_
    exact g_lret rfl d12_town_20 (⟨rfl, rfl⟩)
set_option maxHeartbeats 400000 in
theorem r12_town_0 {l : Launch} {K : cK} {d : Nat} {I : wI} {L : wL} {R : wR} {dy : cH} (lf : lawF) (ha : inF I lf) (coin per fine s0 : Nat) (hT : RT I coin per fine s0) (wage n wa : Nat) (hwg : I 76 12 = nI wage) (hw99 : wage ≤ 99) (hwa : I 76 11 = nI wa) (hw3 : wa ≤ 3) (cF cT cS cL : Nat → Nat) (hCS : CS I n cF cT cS cL) (hd : 7 ≤ d) : CX l K m12_town d [.ref 74, .int (nI 0)] (hp I L R dy) (α := wI × wL) (fun x => FR [90, 92, 93, 96, 98] [0, 28, 32, 35, 36, 43, 44] [87, 88, 89, 91, 94, 95, 97, 99, 100] [33, 34, 42] I L x.1 x.2) (fun _ => .long (lI (tv (I 76) lf coin per s0 wage n cF cT wa fine))) (fun x => hp x.1 x.2 R dy) := by
  obtain ⟨t1, t2, t3, t4, t5, t6, t7, t8, t9, t10, t11, t12⟩ := id hT
  refine CC.of ok12_town (Nat.le_of_ble_eq_true rfl) ?_
  refine g_aload_n d12_town_0 rfl ?_
  refine g_iconstv (nI 0) d12_town_1 rfl ?_
  refine g_putIh _ fl12_128 d12_town_2 f_74_0 s_74_0 ?_
  refine g_iload_n d12_town_5 rfl ?_
  refine g_i2lN (by omega) d12_town_6 ?_
  refine g_lconstv (0) d12_town_7 rfl ?_
  refine g_ldc2 d12_town_8 kl12_165 ?_
  refine g_ES3 sm12_in ml12_134 (r12_inI (vi := ((0 : Nat) : Int)) (ai := (0)) (bi := (3)) (pk_lT (by omega)) (by decide) (by decide) (Nat.le_refl 0)) (by omega) (Nat.le_of_ble_eq_true rfl) d12_town_11 ?_
  refine g_bnz 21 d12_town_14 rfl (fun _ => ?_) (fun c14 => absurd c14 (fun q => q (by omega)))
  refine g_aload_n d12_town_21 rfl ?_
  refine g_VV0 vm12_askNow ml12_403 c_74 (r12_askNow (Nat.le_refl 1)) (by omega) (Nat.le_of_ble_eq_true rfl) d12_town_22 ?_
  refine g_iload_n d12_town_25 rfl ?_
  refine g_iz_ne (0) 43 (by decide) d12_town_26 rfl (fun c26 => absurd c26 (by decide)) (fun _ => ?_)
  refine g_aload_n d12_town_29 rfl ?_
  refine g_WV0 vm12_layComes ml12_421 c_74 (r12_layComes (I := (uI (uI (uI I 74 0 0) 74 35 (I 76 5)) 74 36 (I 76 11))) lf (by exact ha) (by exact t12) s0 (by exact t9) t10 t11 (Nat.le_refl 5)) (by omega) (Nat.le_of_ble_eq_true rfl) d12_town_30 (fun x hx => ?_)
  obtain ⟨I2, L2⟩ := x
  obtain ⟨hF, hLC⟩ := hx
  dsimp only at hF hLC ⊢
  have e76 : I2 76 = I 76 := hF.1 76 (by decide) (by decide)
  have e36 : I2 74 36 = nI wa := (hF.2.1 36 (by decide)).trans hwa
  have e35 : I2 74 35 = I 76 5 := hF.2.1 35 (by decide)
  have hcv : cmv (uI (uI (uI I 74 0 0) 74 35 (I 76 5)) 74 36 (I 76 11)) lf = cmR (I 76) (nI wa) lf := by rw [← hwa]; rfl
  rw [hcv] at hLC
  have hF9 : FR [90, 92, 93, 96, 98] [0, 28, 32, 35, 36, 43, 44] [87, 88, 89, 91, 94, 95, 97, 99, 100] [33, 34, 42] I L I2 L2 := (((FR.rf.uf (j := 0) (by decide)).uf (j := 35) (by decide)).uf (j := 36) (by decide)).tr (hF.up (by decide) (by decide) (by decide) (by decide))
  refine g_aload_n d12_town_33 rfl ?_
  refine g_aload_n d12_town_34 rfl ?_
  refine g_iconstv (nI 2) d12_town_35 rfl ?_
  refine g_EV1 vm12_term ml12_378 c_74 (r12_term (2) (by omega) (Nat.le_refl 0)) (by omega) (Nat.le_of_ble_eq_true rfl) d12_town_36 ?_
  refine g_topI (nI (fine)) ((congrFun e76 8).trans t7) ?_
  refine g_XV1 vm12_townOf ml12_531 c_74 (r12_townOf (I := I2) (L := L2) lf (by unfold askd; rw [e35, e76]; exact ha) ((hF.2.1 15 (by decide)).trans t12) coin per s0 wage wa n cF cT cS cL (by rw [e76]; exact t1) t3 (by rw [e76]; exact t4) t6 (by rw [e76]; exact hwg) hw99 e36 hw3 (hCS.of e76) (by rw [e76]; exact hLC) fine t8 (Nat.le_refl 6)) (by omega) (Nat.le_of_ble_eq_true rfl) d12_town_39 (fun y hy => ?_)
  obtain ⟨I3, L3⟩ := y
  dsimp only at hy ⊢
  exact g_lret rfl d12_town_42 (⟨(I3, L3), hF9.tr (hy.up (by decide) (by decide) (by decide) (by decide)), by rw [e76], rfl⟩)
set_option maxHeartbeats 400000 in
theorem r12_town_1 {l : Launch} {K : cK} {d : Nat} {I : wI} {L : wL} {R : wR} {dy : cH} (lf : lawF) (ha : inF I lf) (coin per fine s0 : Nat) (hT : RT I coin per fine s0) (wage n wa : Nat) (hwg : I 76 12 = nI wage) (hw99 : wage ≤ 99) (hwa : I 76 11 = nI wa) (hw3 : wa ≤ 3) (cF cT cS cL : Nat → Nat) (hCS : CS I n cF cT cS cL) (hd : 8 ≤ d) : CX l K m12_town d [.ref 74, .int (nI 1)] (hp I L R dy) (α := wI × wL) (fun x => FR [90, 92, 93, 96, 98] [0, 28, 32, 35, 36, 43, 44] [87, 88, 89, 91, 94, 95, 97, 99, 100] [33, 34, 42] I L x.1 x.2) (fun _ => .long (lI (tb (fun q => tv (I 76) lf coin per s0 wage n cF cT (q / 100) (q % 100)) 400).1)) (fun x => hp x.1 x.2 R dy) := by
  obtain ⟨t1, t2, t3, t4, t5, t6, t7, t8, t9, t10, t11, t12⟩ := id hT
  obtain ⟨hn, hn6, hCs⟩ := id hCS
  refine CC.of ok12_town (Nat.le_of_ble_eq_true rfl) ?_
  refine g_aload_n d12_town_0 rfl ?_
  refine g_iconstv (nI 0) d12_town_1 rfl ?_
  refine g_putIh _ fl12_128 d12_town_2 f_74_0 s_74_0 ?_
  refine g_iload_n d12_town_5 rfl ?_
  refine g_i2lN (by omega) d12_town_6 ?_
  refine g_lconstv (0) d12_town_7 rfl ?_
  refine g_ldc2 d12_town_8 kl12_165 ?_
  refine g_ES3 sm12_in ml12_134 (r12_inI (vi := ((1 : Nat) : Int)) (ai := (0)) (bi := (3)) (pk_lT (by omega)) (by decide) (by decide) (Nat.le_refl 0)) (by omega) (Nat.le_of_ble_eq_true rfl) d12_town_11 ?_
  refine g_bnz 21 d12_town_14 rfl (fun _ => ?_) (fun c14 => absurd c14 (fun q => q (by omega)))
  refine g_aload_n d12_town_21 rfl ?_
  refine g_VV0 vm12_askNow ml12_403 c_74 (r12_askNow (Nat.le_refl 1)) (by omega) (Nat.le_of_ble_eq_true rfl) d12_town_22 ?_
  refine g_iload_n d12_town_25 rfl ?_
  refine g_iz_ne (1) 43 (by decide) d12_town_26 rfl (fun _ => ?_) (fun c26 => absurd c26 (by decide))
  refine g_ldc2 d12_town_43 kl12_534 ?_
  refine g_lstore_n d12_town_46 (by decide) ?_
  refine g_iconstv (nI 0) d12_town_47 rfl ?_
  refine g_istore d12_town_48 (by decide) ?_
  refine g_aload_n d12_town_50 rfl ?_
  refine g_iconstv (nI 0) d12_town_51 rfl ?_
  refine g_putIh _ fl12_381 d12_town_52 f_74_36 s_74_36 ?_
  refine g_lo [(0, .ref 74), (1, .int (nI 1)), (2, .long (lI (tb (fun q => tv (I 76) lf coin per s0 wage n cF cT (q / 100) (q % 100)) (100 * 0)).1)), (4, .int (nI ((tb (fun q => tv (I 76) lf coin per s0 wage n cF cT (q / 100) (q % 100)) (100 * 0)).2)))] ⟨rfl, rfl, rfl, rfl, trivial⟩ ?_
  refine r12_tnO (I := (uI (uI (uI I 74 0 0) 74 35 (I 76 5)) 74 36 (I 76 11))) lf (by exact ha) (by exact t12) coin per s0 wage n cF cT cS cL (by exact t1) t3 (by exact t4) t6 (by exact hwg) hw99 (by exact t9) t10 t11 (by exact hCS) (nI 1) (by omega) (fun I3 L3 hF3 => ?_) 4 0 _ L (by omega) (FR.rf.uf (j := 36) (by decide)) uI_ss
  obtain ⟨b1, b2, b3⟩ := tb_le (fun q => tv (I 76) lf coin per s0 wage n cF cT (q / 100) (q % 100)) 24000000000000000 (by decide) 400 (fun j hj => by have := tv_le (g := I 76) (lf := lf) (per := per) (s0 := s0) (cF := cF) (wa := j / 100) (f := j % 100) t3 (by omega) hw99 (by omega) hn6 (fun c h => (hCs c h).2.2.2.2.2.2.1); exact ⟨by omega, this.2⟩)
  have hF9 : FR [90, 92, 93, 96, 98] [0, 28, 32, 35, 36, 43, 44] [87, 88, 89, 91, 94, 95, 97, 99, 100] [33, 34, 42] I L I3 L3 := (((FR.rf.uf (j := 0) (by decide)).uf (j := 35) (by decide)).uf (j := 36) (by decide)).tr (hF3.up (by decide) (by decide) (by decide) (by decide))
  refine g_lo [(0, .ref 74), (1, .int (nI 1)), (2, .long (lI (tb (fun q => tv (I 76) lf coin per s0 wage n cF cT (q / 100) (q % 100)) (400)).1)), (4, .int (nI ((tb (fun q => tv (I 76) lf coin per s0 wage n cF cT (q / 100) (q % 100)) (400)).2)))] ⟨rfl, rfl, rfl, rfl, trivial⟩ ?_
  refine g_iload_n d12_town_142 rfl ?_
  refine g_iconstv (nI 1) d12_town_143 rfl ?_
  refine g_ic_ne (1) (1) 151 (by decide) (by decide) d12_town_144 rfl (fun c144 => absurd c144 (by decide)) (fun _ => ?_)
  refine g_lload_n d12_town_147 rfl ?_
  refine g_goto 171 d12_town_148 rfl ?_
  exact g_lret rfl d12_town_171 (⟨(I3, L3), hF9, rfl, rfl⟩)
set_option maxHeartbeats 400000 in
theorem r12_town_2 {l : Launch} {K : cK} {d : Nat} {I : wI} {L : wL} {R : wR} {dy : cH} (lf : lawF) (ha : inF I lf) (coin per fine s0 : Nat) (hT : RT I coin per fine s0) (wage n wa : Nat) (hwg : I 76 12 = nI wage) (hw99 : wage ≤ 99) (hwa : I 76 11 = nI wa) (hw3 : wa ≤ 3) (cF cT cS cL : Nat → Nat) (hCS : CS I n cF cT cS cL) (hd : 8 ≤ d) : CX l K m12_town d [.ref 74, .int (nI 2)] (hp I L R dy) (α := wI × wL) (fun x => FR [90, 92, 93, 96, 98] [0, 28, 32, 35, 36, 43, 44] [87, 88, 89, 91, 94, 95, 97, 99, 100] [33, 34, 42] I L x.1 x.2) (fun _ => .long (lN ((tb (fun q => tv (I 76) lf coin per s0 wage n cF cT (q / 100) (q % 100)) 400).2 / 100))) (fun x => hp x.1 x.2 R dy) := by
  obtain ⟨t1, t2, t3, t4, t5, t6, t7, t8, t9, t10, t11, t12⟩ := id hT
  obtain ⟨hn, hn6, hCs⟩ := id hCS
  refine CC.of ok12_town (Nat.le_of_ble_eq_true rfl) ?_
  refine g_aload_n d12_town_0 rfl ?_
  refine g_iconstv (nI 0) d12_town_1 rfl ?_
  refine g_putIh _ fl12_128 d12_town_2 f_74_0 s_74_0 ?_
  refine g_iload_n d12_town_5 rfl ?_
  refine g_i2lN (by omega) d12_town_6 ?_
  refine g_lconstv (0) d12_town_7 rfl ?_
  refine g_ldc2 d12_town_8 kl12_165 ?_
  refine g_ES3 sm12_in ml12_134 (r12_inI (vi := ((2 : Nat) : Int)) (ai := (0)) (bi := (3)) (pk_lT (by omega)) (by decide) (by decide) (Nat.le_refl 0)) (by omega) (Nat.le_of_ble_eq_true rfl) d12_town_11 ?_
  refine g_bnz 21 d12_town_14 rfl (fun _ => ?_) (fun c14 => absurd c14 (fun q => q (by omega)))
  refine g_aload_n d12_town_21 rfl ?_
  refine g_VV0 vm12_askNow ml12_403 c_74 (r12_askNow (Nat.le_refl 1)) (by omega) (Nat.le_of_ble_eq_true rfl) d12_town_22 ?_
  refine g_iload_n d12_town_25 rfl ?_
  refine g_iz_ne (2) 43 (by decide) d12_town_26 rfl (fun _ => ?_) (fun c26 => absurd c26 (by decide))
  refine g_ldc2 d12_town_43 kl12_534 ?_
  refine g_lstore_n d12_town_46 (by decide) ?_
  refine g_iconstv (nI 0) d12_town_47 rfl ?_
  refine g_istore d12_town_48 (by decide) ?_
  refine g_aload_n d12_town_50 rfl ?_
  refine g_iconstv (nI 0) d12_town_51 rfl ?_
  refine g_putIh _ fl12_381 d12_town_52 f_74_36 s_74_36 ?_
  refine g_lo [(0, .ref 74), (1, .int (nI 2)), (2, .long (lI (tb (fun q => tv (I 76) lf coin per s0 wage n cF cT (q / 100) (q % 100)) (100 * 0)).1)), (4, .int (nI ((tb (fun q => tv (I 76) lf coin per s0 wage n cF cT (q / 100) (q % 100)) (100 * 0)).2)))] ⟨rfl, rfl, rfl, rfl, trivial⟩ ?_
  refine r12_tnO (I := (uI (uI (uI I 74 0 0) 74 35 (I 76 5)) 74 36 (I 76 11))) lf (by exact ha) (by exact t12) coin per s0 wage n cF cT cS cL (by exact t1) t3 (by exact t4) t6 (by exact hwg) hw99 (by exact t9) t10 t11 (by exact hCS) (nI 2) (by omega) (fun I3 L3 hF3 => ?_) 4 0 _ L (by omega) (FR.rf.uf (j := 36) (by decide)) uI_ss
  obtain ⟨b1, b2, b3⟩ := tb_le (fun q => tv (I 76) lf coin per s0 wage n cF cT (q / 100) (q % 100)) 24000000000000000 (by decide) 400 (fun j hj => by have := tv_le (g := I 76) (lf := lf) (per := per) (s0 := s0) (cF := cF) (wa := j / 100) (f := j % 100) t3 (by omega) hw99 (by omega) hn6 (fun c h => (hCs c h).2.2.2.2.2.2.1); exact ⟨by omega, this.2⟩)
  have hF9 : FR [90, 92, 93, 96, 98] [0, 28, 32, 35, 36, 43, 44] [87, 88, 89, 91, 94, 95, 97, 99, 100] [33, 34, 42] I L I3 L3 := (((FR.rf.uf (j := 0) (by decide)).uf (j := 35) (by decide)).uf (j := 36) (by decide)).tr (hF3.up (by decide) (by decide) (by decide) (by decide))
  refine g_lo [(0, .ref 74), (1, .int (nI 2)), (2, .long (lI (tb (fun q => tv (I 76) lf coin per s0 wage n cF cT (q / 100) (q % 100)) (400)).1)), (4, .int (nI ((tb (fun q => tv (I 76) lf coin per s0 wage n cF cT (q / 100) (q % 100)) (400)).2)))] ⟨rfl, rfl, rfl, rfl, trivial⟩ ?_
  refine g_iload_n d12_town_142 rfl ?_
  refine g_iconstv (nI 1) d12_town_143 rfl ?_
  refine g_ic_ne (2) (1) 151 (by decide) (by decide) d12_town_144 rfl (fun _ => ?_) (fun c144 => absurd c144 (by decide))
  refine g_iload_n d12_town_151 rfl ?_
  refine g_iconstv (nI 2) d12_town_152 rfl ?_
  refine g_ic_ne (2) (2) 165 (by decide) (by decide) d12_town_153 rfl (fun c153 => absurd c153 (by decide)) (fun _ => ?_)
  refine g_iload d12_town_156 rfl ?_
  refine g_bipushv (nI 100) d12_town_158 rfl ?_
  refine g_idiv d12_town_160 (by decide) ?_
  refine g_topI (nI ((tb (fun q => tv (I 76) lf coin per s0 wage n cF cT (q / 100) (q % 100)) 400).2 / 100)) (pk_div (d := 100) (by omega) (by omega) (by omega)) ?_
  refine g_i2lN (by omega) d12_town_161 ?_
  refine g_goto 171 d12_town_162 rfl ?_
  exact g_lret rfl d12_town_171 (⟨(I3, L3), hF9, rfl, rfl⟩)
set_option maxHeartbeats 400000 in
theorem r12_town_3 {l : Launch} {K : cK} {d : Nat} {I : wI} {L : wL} {R : wR} {dy : cH} (lf : lawF) (ha : inF I lf) (coin per fine s0 : Nat) (hT : RT I coin per fine s0) (wage n wa : Nat) (hwg : I 76 12 = nI wage) (hw99 : wage ≤ 99) (hwa : I 76 11 = nI wa) (hw3 : wa ≤ 3) (cF cT cS cL : Nat → Nat) (hCS : CS I n cF cT cS cL) (hd : 8 ≤ d) : CX l K m12_town d [.ref 74, .int (nI 3)] (hp I L R dy) (α := wI × wL) (fun x => FR [90, 92, 93, 96, 98] [0, 28, 32, 35, 36, 43, 44] [87, 88, 89, 91, 94, 95, 97, 99, 100] [33, 34, 42] I L x.1 x.2) (fun _ => .long (lN ((tb (fun q => tv (I 76) lf coin per s0 wage n cF cT (q / 100) (q % 100)) 400).2 % 100))) (fun x => hp x.1 x.2 R dy) := by
  obtain ⟨t1, t2, t3, t4, t5, t6, t7, t8, t9, t10, t11, t12⟩ := id hT
  obtain ⟨hn, hn6, hCs⟩ := id hCS
  refine CC.of ok12_town (Nat.le_of_ble_eq_true rfl) ?_
  refine g_aload_n d12_town_0 rfl ?_
  refine g_iconstv (nI 0) d12_town_1 rfl ?_
  refine g_putIh _ fl12_128 d12_town_2 f_74_0 s_74_0 ?_
  refine g_iload_n d12_town_5 rfl ?_
  refine g_i2lN (by omega) d12_town_6 ?_
  refine g_lconstv (0) d12_town_7 rfl ?_
  refine g_ldc2 d12_town_8 kl12_165 ?_
  refine g_ES3 sm12_in ml12_134 (r12_inI (vi := ((3 : Nat) : Int)) (ai := (0)) (bi := (3)) (pk_lT (by omega)) (by decide) (by decide) (Nat.le_refl 0)) (by omega) (Nat.le_of_ble_eq_true rfl) d12_town_11 ?_
  refine g_bnz 21 d12_town_14 rfl (fun _ => ?_) (fun c14 => absurd c14 (fun q => q (by omega)))
  refine g_aload_n d12_town_21 rfl ?_
  refine g_VV0 vm12_askNow ml12_403 c_74 (r12_askNow (Nat.le_refl 1)) (by omega) (Nat.le_of_ble_eq_true rfl) d12_town_22 ?_
  refine g_iload_n d12_town_25 rfl ?_
  refine g_iz_ne (3) 43 (by decide) d12_town_26 rfl (fun _ => ?_) (fun c26 => absurd c26 (by decide))
  refine g_ldc2 d12_town_43 kl12_534 ?_
  refine g_lstore_n d12_town_46 (by decide) ?_
  refine g_iconstv (nI 0) d12_town_47 rfl ?_
  refine g_istore d12_town_48 (by decide) ?_
  refine g_aload_n d12_town_50 rfl ?_
  refine g_iconstv (nI 0) d12_town_51 rfl ?_
  refine g_putIh _ fl12_381 d12_town_52 f_74_36 s_74_36 ?_
  refine g_lo [(0, .ref 74), (1, .int (nI 3)), (2, .long (lI (tb (fun q => tv (I 76) lf coin per s0 wage n cF cT (q / 100) (q % 100)) (100 * 0)).1)), (4, .int (nI ((tb (fun q => tv (I 76) lf coin per s0 wage n cF cT (q / 100) (q % 100)) (100 * 0)).2)))] ⟨rfl, rfl, rfl, rfl, trivial⟩ ?_
  refine r12_tnO (I := (uI (uI (uI I 74 0 0) 74 35 (I 76 5)) 74 36 (I 76 11))) lf (by exact ha) (by exact t12) coin per s0 wage n cF cT cS cL (by exact t1) t3 (by exact t4) t6 (by exact hwg) hw99 (by exact t9) t10 t11 (by exact hCS) (nI 3) (by omega) (fun I3 L3 hF3 => ?_) 4 0 _ L (by omega) (FR.rf.uf (j := 36) (by decide)) uI_ss
  obtain ⟨b1, b2, b3⟩ := tb_le (fun q => tv (I 76) lf coin per s0 wage n cF cT (q / 100) (q % 100)) 24000000000000000 (by decide) 400 (fun j hj => by have := tv_le (g := I 76) (lf := lf) (per := per) (s0 := s0) (cF := cF) (wa := j / 100) (f := j % 100) t3 (by omega) hw99 (by omega) hn6 (fun c h => (hCs c h).2.2.2.2.2.2.1); exact ⟨by omega, this.2⟩)
  have hF9 : FR [90, 92, 93, 96, 98] [0, 28, 32, 35, 36, 43, 44] [87, 88, 89, 91, 94, 95, 97, 99, 100] [33, 34, 42] I L I3 L3 := (((FR.rf.uf (j := 0) (by decide)).uf (j := 35) (by decide)).uf (j := 36) (by decide)).tr (hF3.up (by decide) (by decide) (by decide) (by decide))
  refine g_lo [(0, .ref 74), (1, .int (nI 3)), (2, .long (lI (tb (fun q => tv (I 76) lf coin per s0 wage n cF cT (q / 100) (q % 100)) (400)).1)), (4, .int (nI ((tb (fun q => tv (I 76) lf coin per s0 wage n cF cT (q / 100) (q % 100)) (400)).2)))] ⟨rfl, rfl, rfl, rfl, trivial⟩ ?_
  refine g_iload_n d12_town_142 rfl ?_
  refine g_iconstv (nI 1) d12_town_143 rfl ?_
  refine g_ic_ne (3) (1) 151 (by decide) (by decide) d12_town_144 rfl (fun _ => ?_) (fun c144 => absurd c144 (by decide))
  refine g_iload_n d12_town_151 rfl ?_
  refine g_iconstv (nI 2) d12_town_152 rfl ?_
  refine g_ic_ne (3) (2) 165 (by decide) (by decide) d12_town_153 rfl (fun _ => ?_) (fun c153 => absurd c153 (by decide))
  refine g_iload d12_town_165 rfl ?_
  refine g_bipushv (nI 100) d12_town_167 rfl ?_
  refine g_irem d12_town_169 (by decide) ?_
  refine g_topI (nI ((tb (fun q => tv (I 76) lf coin per s0 wage n cF cT (q / 100) (q % 100)) 400).2 % 100)) (pk_rem (d := 100) (by omega) (by omega) (by omega)) ?_
  refine g_i2lN (by omega) d12_town_170 ?_
  exact g_lret rfl d12_town_171 (⟨(I3, L3), hF9, rfl, rfl⟩)
