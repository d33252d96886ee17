set_option maxHeartbeats 200000 in
theorem r12_habits_no {l : Launch} {K : cK} {d : Nat} {I : wI} {L : wL} {R : wR} {dy : cH} (n : Nat) (hn : I 76 0 = nI n) (hn6 : n ≤ 6) (nh : Nat) (hnh : I 76 2 = nI nh) (hnh6 : nh ≤ 6) (x w : Int32) (hbad : ¬ ((0 ≤ x.toInt ∧ x.toInt < n) ∧ 0 ≤ w.toInt ∧ w.toInt < nh)) (hd : 2 ≤ d) : CE l K m12_habits d [.ref 74, .int x, .int w] (hp I L R dy) (.long (-1)) (hp (uI I 74 0 0) L R dy) := by
  refine CC.of ok12_habits (Nat.le_of_ble_eq_true rfl) ?_
  refine g_aload_n d12_habits_0 rfl ?_
  refine g_iconstv (nI 0) d12_habits_1 rfl ?_
  refine g_putIh _ fl12_128 d12_habits_2 f_74_0 s_74_0 ?_
  refine g_aload_n d12_habits_5 rfl ?_
  refine g_iload_n d12_habits_6 rfl ?_
  refine g_EV1 vm12_isCar ml12_158 c_74 (r12_isCarI  n (by exact hn) hn6 (rfl) (Nat.le_refl 1)) (by omega) (Nat.le_of_ble_eq_true rfl) d12_habits_7 ?_
  refine g_bz 21 d12_habits_10 rfl (fun c10 => ?_) (fun c10 => ?_)
  · refine g_ldc2 d12_habits_21 kl12_219 ?_
    exact g_lret rfl d12_habits_24 (⟨rfl, rfl⟩)
  · refine g_aload_n d12_habits_13 rfl ?_
    refine g_iload_n d12_habits_14 rfl ?_
    refine g_EV1 vm12_isHabit ml12_484 c_74 (r12_isHabitI  nh (by exact hnh) hnh6 (rfl) (Nat.le_refl 1)) (by omega) (Nat.le_of_ble_eq_true rfl) d12_habits_15 ?_
    refine g_bnz 25 d12_habits_18 rfl (fun c18 => ?_) (fun c18 => ?_)
    · exact absurd ⟨c10, c18⟩ hbad
    · refine g_ldc2 d12_habits_21 kl12_219 ?_
      exact g_lret rfl d12_habits_24 (⟨rfl, rfl⟩)
set_option maxHeartbeats 400000 in
theorem r12_habits_ok {l : Launch} {K : cK} {d : Nat} {I : wI} {L : wL} {R : wR} {dy : cH} (lf : lawF) (ha : inF I lf) (coin per fine s0 : Nat) (hT : RT I coin per fine s0) (n : Nat) (hn : I 76 0 = nI n) (hn6 : n ≤ 6) (c fr ti se fl : Nat) (hC : CF I c fr ti se fl) (hcn : c < n) (nh : Nat) (hnh : I 76 2 = nI nh) (hnh6 : nh ≤ 6) (h : Nat) (hh : h < nh) (F : hbF) (hB : HB (I 76) h F) (hd : 7 ≤ d) : CX l K m12_habits d [.ref 74, .int (nI c), .int (nI h)] (hp I L R dy) (α := wI × wL) (fun x => FR [90, 92, 93, 96, 98] [0, 28, 32, 35, 36, 43, 44] [87, 88, 89, 91, 94, 95, 97, 99, 100] [33, 34, 42] I L x.1 x.2) (fun _ => .long (lN (hV coin per fr fl (cmR (I 76) (I 76 11) lf) (fnR (I 76) (I 76 11) lf c fr fine) (thr F coin per fr ti se) (pt fr2 (cmR (I 76) (I 76 11) lf) s0 fr) (ti + 1 - fr)))) (fun x => hp x.1 x.2 R dy) := by
  obtain ⟨hc6, q0, q1, q2, q3, hft, ht11, hse, hfl⟩ := id hC
  refine CC.of ok12_habits (Nat.le_of_ble_eq_true rfl) ?_
  refine g_aload_n d12_habits_0 rfl ?_
  refine g_iconstv (nI 0) d12_habits_1 rfl ?_
  refine g_putIh _ fl12_128 d12_habits_2 f_74_0 s_74_0 ?_
  refine g_aload_n d12_habits_5 rfl ?_
  refine g_iload_n d12_habits_6 rfl ?_
  refine g_EV1 vm12_isCar ml12_158 c_74 (r12_isCarI (xi := ((c : Nat) : Int)) n (by exact hn) hn6 (nI_ti (by omega)) (Nat.le_refl 1)) (by omega) (Nat.le_of_ble_eq_true rfl) d12_habits_7 ?_
  refine g_bz 21 d12_habits_10 rfl (fun c10 => absurd c10 (fun q => q (by omega))) (fun _ => ?_)
  refine g_aload_n d12_habits_13 rfl ?_
  refine g_iload_n d12_habits_14 rfl ?_
  refine g_EV1 vm12_isHabit ml12_484 c_74 (r12_isHabitI (xi := ((h : Nat) : Int)) nh (by exact hnh) hnh6 (nI_ti (by omega)) (Nat.le_refl 1)) (by omega) (Nat.le_of_ble_eq_true rfl) d12_habits_15 ?_
  refine g_bnz 25 d12_habits_18 rfl (fun _ => ?_) (fun c18 => absurd c18 (fun q => q (by omega)))
  refine g_aload_n d12_habits_25 rfl ?_
  refine g_iload_n d12_habits_26 rfl ?_
  refine g_WV1 vm12_layAll ml12_433 c_74 (r12_layAll (I := uI I 74 0 0) lf (by exact ha) coin per fine s0 (by exact hT) c fr ti se fl (hC.of rfl) (Nat.le_refl 6)) (by omega) (Nat.le_of_ble_eq_true rfl) d12_habits_27 (fun x hx => ?_)
  obtain ⟨I2, L2⟩ := x
  obtain ⟨hF, hLC, hR⟩ := hx
  dsimp only at hF hLC hR ⊢
  obtain ⟨t1, t2, t3, t4, t5, t6, t7, t8, t9, t10, t11, t12⟩ := id hT
  have e76 : I2 76 = I 76 := hF.1 76 (by decide) (by decide)
  have hF0 : FR [90, 92, 93, 96, 98] [0, 28, 32, 35, 36, 43, 44] [87, 88, 89, 91, 94, 95, 97, 99, 100] [33, 34, 42] I L I2 L2 := (FR.rf.uf (j := 0) (by decide)).tr (hF.up (by decide) (by decide) (by decide) (by decide))
  refine g_aload_n d12_habits_30 rfl ?_
  refine g_iload_n d12_habits_31 rfl ?_
  refine g_iload_n d12_habits_32 rfl ?_
  refine g_XV2 vm12_habitCost ml12_487 c_74 (r12_habitCost (I := I2) (L := L2) h F (by rw [e76]; exact hB) coin per c fr ti se fl (hC.of e76) (by rw [e76]; exact t1) t3 (by rw [e76]; exact t4) t6 (by exact (hF.2.1 15 (by decide)).trans t12) (cmR (I 76) (I 76 11) lf) (fnR (I 76) (I 76 11) lf c fr fine) (cmR_le _ _ lf) (fun a b => fnR_le _ _ lf c fr a b t8) (fun s a b k k1 k2 => ⟨hLC.1 s (by omega) k k1 k2, ((hR s a b).1 k k1 k2).1⟩) (pt fr2 (cmR (I 76) (I 76 11) lf) s0 fr) (pt_sum fr2 _ s0 (cmR_le _ _ lf) fr) (fun k a b => hLC.2 fr (by omega) k b) (Nat.le_refl 5)) (by omega) (Nat.le_of_ble_eq_true rfl) d12_habits_33 (fun y hy => ?_)
  obtain ⟨I3, L3⟩ := y
  dsimp only at hy ⊢
  exact g_lret rfl d12_habits_36 (⟨(I3, L3), hF0.tr (hy.up (by decide) (by decide) (by decide) (by decide)), rfl, rfl⟩)
def av (v : Nat → Nat) : Nat → Nat × Int32
  | 0 => (4000000000000000000, -1)
  | j + 1 => if v j < (av v j).1 then (v j, nI j) else av v j
theorem av_le (v : Nat → Nat) : ∀ j, (av v j).1 ≤ 4000000000000000000
  | 0 => Nat.le_refl _
  | j + 1 => by
    show (if _ then _ else _ : Nat × Int32).1 ≤ _
    have := av_le v j
    split
    · next h => exact Nat.le_of_lt (Nat.lt_of_lt_of_le h this)
    · exact this
set_option maxHeartbeats 800000 in
theorem r12_advL {l : Launch} {K : cK} {d : Nat} {I : wI} {L : wL} {R : wR} {dy : cH} {Q : Option Value → cH → Prop} (lf : lawF) (coin per fine s0 : Nat) (hT : RT I coin per fine s0) (c fr ti se fl : Nat) (hC : CF I c fr ti se fl) (nh : Nat) (hnh : I 76 2 = nI nh) (hnh6 : nh ≤ 6) (Fh : Nat → hbF) (hB : ∀ h, h < nh → HB (I 76) h (Fh h)) (I0 : wI) (L0 : wL) (e76 : I0 76 = I 76) (e15 : I0 74 15 = 0) (hd : 6 ≤ d)
    (kk : ∀ (I3 : wI) (L3 : wL), (FR [] [28, 32] [88, 89, 99, 100] [33, 34] I0 L0 I3 L3) → (∀ s, fr ≤ s → s < ti + 1 → ∀ k, 1 ≤ k → k ≤ 12 → I3 90 (13 * s + k) = nI ((cmR (I 76) (I 76 11) lf) s k) ∧ I3 92 (13 * s + k) = nI ((fnR (I 76) (I 76 11) lf c fr fine) s k)) → (∀ k, 1 ≤ k → k ≤ 12 → L3 91 (13 * fr + k) = lN (pt fr2 (cmR (I 76) (I 76 11) lf) s0 fr k)) → GL l K m12_advice d 0 0 86 [(0, .ref 74), (1, .int (nI (c))), (2, .long (lN (av (fun h => (hV coin per fr fl (cmR (I 76) (I 76 11) lf) (fnR (I 76) (I 76 11) lf c fr fine) (thr (Fh h) coin per fr ti se) (pt fr2 (cmR (I 76) (I 76 11) lf) s0 fr) (ti + 1 - fr))) (nh)).1)), (4, .int (av (fun h => (hV coin per fr fl (cmR (I 76) (I 76 11) lf) (fnR (I 76) (I 76 11) lf c fr fine) (thr (Fh h) coin per fr ti se) (pt fr2 (cmR (I 76) (I 76 11) lf) s0 fr) (ti + 1 - fr))) (nh)).2)] [] (hp I3 L3 R dy) Q) :
    ∀ (n j : Nat) (I2 : wI) (L2 : wL), j + n = nh → (FR [] [28, 32] [88, 89, 99, 100] [33, 34] I0 L0 I2 L2) → (∀ s, fr ≤ s → s < ti + 1 → ∀ k, 1 ≤ k → k ≤ 12 → I2 90 (13 * s + k) = nI ((cmR (I 76) (I 76 11) lf) s k) ∧ I2 92 (13 * s + k) = nI ((fnR (I 76) (I 76 11) lf c fr fine) s k)) → (∀ k, 1 ≤ k → k ≤ 12 → L2 91 (13 * fr + k) = lN (pt fr2 (cmR (I 76) (I 76 11) lf) s0 fr k)) → GL l K m12_advice d 0 0 30 [(0, .ref 74), (1, .int (nI (c))), (2, .long (lN (av (fun h => (hV coin per fr fl (cmR (I 76) (I 76 11) lf) (fnR (I 76) (I 76 11) lf c fr fine) (thr (Fh h) coin per fr ti se) (pt fr2 (cmR (I 76) (I 76 11) lf) s0 fr) (ti + 1 - fr))) (j)).1)), (4, .int (av (fun h => (hV coin per fr fl (cmR (I 76) (I 76 11) lf) (fnR (I 76) (I 76 11) lf c fr fine) (thr (Fh h) coin per fr ti se) (pt fr2 (cmR (I 76) (I 76 11) lf) s0 fr) (ti + 1 - fr))) (j)).2), (5, .int (nI (j)))] [] (hp I2 L2 R dy) Q := by
  obtain ⟨hc6, q0, q1, q2, q3, hft, ht11, hse, hfl⟩ := id hC
  obtain ⟨t1, t2, t3, t4, t5, t6, t7, t8, t9, t10, t11, t12⟩ := id hT
  intro n
  induction n with
  | zero =>
    intro j I2 L2 hin hF hcs hP
    obtain rfl : nh = j := by omega
    refine g_iload d12_advice_30 rfl ?_
    refine g_aload_n d12_advice_32 rfl ?_
    refine g_get fl12_13 d12_advice_33 f_74_3 ?_
    refine g_iconstv (nI 2) d12_advice_36 rfl ?_
    refine g_ialdN (2) d12_advice_37 a_76 (rfl) (by omega) (by decide) ?_
    refine g_topI (nI (nh)) ((congrFun ((hF.1 76 (by decide) (by decide)).trans e76) 2).trans hnh) ?_
    refine g_ic_ge ((nh : Nat) : Int) ((nh : Nat) : Int) 86 (nI_ti (by omega)) (nI_ti (by omega)) d12_advice_38 rfl (fun _ => ?_) (fun c38 => absurd c38 (by omega))
    refine g_lo [(0, .ref 74), (1, .int (nI (c))), (2, .long (lN (av (fun h => (hV coin per fr fl (cmR (I 76) (I 76 11) lf) (fnR (I 76) (I 76 11) lf c fr fine) (thr (Fh h) coin per fr ti se) (pt fr2 (cmR (I 76) (I 76 11) lf) s0 fr) (ti + 1 - fr))) (nh)).1)), (4, .int (av (fun h => (hV coin per fr fl (cmR (I 76) (I 76 11) lf) (fnR (I 76) (I 76 11) lf c fr fine) (thr (Fh h) coin per fr ti se) (pt fr2 (cmR (I 76) (I 76 11) lf) s0 fr) (ti + 1 - fr))) (nh)).2)] ⟨rfl, rfl, rfl, rfl, trivial⟩ ?_
    exact kk I2 L2 hF hcs hP
  | succ n ih =>
    intro j I2 L2 hin hF hcs hP
    have hb1 := av_le (fun h => (hV coin per fr fl (cmR (I 76) (I 76 11) lf) (fnR (I 76) (I 76 11) lf c fr fine) (thr (Fh h) coin per fr ti se) (pt fr2 (cmR (I 76) (I 76 11) lf) s0 fr) (ti + 1 - fr))) j
    have hb2 := hV_le coin per fr fl (cmR (I 76) (I 76 11) lf) (fnR (I 76) (I 76 11) lf c fr fine) (thr (Fh j) coin per fr ti se) (pt fr2 (cmR (I 76) (I 76 11) lf) s0 fr) (cmR_le _ _ lf) (fun a b => fnR_le _ _ lf c fr a b t8) t3 hfl (fun a b c => thr_le _ _ _ _ _ _ _ _ _) (pt_sum fr2 _ s0 (cmR_le _ _ lf) fr) (ti + 1 - fr)
    have hb3 : (ti + 1 - fr) * 216000000000000 ≤ 12 * 216000000000000 := Nat.mul_le_mul_right _ (by omega)
    by_cases hv : (hV coin per fr fl (cmR (I 76) (I 76 11) lf) (fnR (I 76) (I 76 11) lf c fr fine) (thr (Fh j) coin per fr ti se) (pt fr2 (cmR (I 76) (I 76 11) lf) s0 fr) (ti + 1 - fr)) < (av (fun h => (hV coin per fr fl (cmR (I 76) (I 76 11) lf) (fnR (I 76) (I 76 11) lf c fr fine) (thr (Fh h) coin per fr ti se) (pt fr2 (cmR (I 76) (I 76 11) lf) s0 fr) (ti + 1 - fr))) j).1
    · have hav : av (fun h => (hV coin per fr fl (cmR (I 76) (I 76 11) lf) (fnR (I 76) (I 76 11) lf c fr fine) (thr (Fh h) coin per fr ti se) (pt fr2 (cmR (I 76) (I 76 11) lf) s0 fr) (ti + 1 - fr))) (j + 1) = ((hV coin per fr fl (cmR (I 76) (I 76 11) lf) (fnR (I 76) (I 76 11) lf c fr fine) (thr (Fh j) coin per fr ti se) (pt fr2 (cmR (I 76) (I 76 11) lf) s0 fr) (ti + 1 - fr)), nI j) := if_pos hv
      refine g_iload d12_advice_30 rfl ?_
      refine g_aload_n d12_advice_32 rfl ?_
      refine g_get fl12_13 d12_advice_33 f_74_3 ?_
      refine g_iconstv (nI 2) d12_advice_36 rfl ?_
      refine g_ialdN (2) d12_advice_37 a_76 (rfl) (by omega) (by decide) ?_
      refine g_topI (nI (nh)) ((congrFun ((hF.1 76 (by decide) (by decide)).trans e76) 2).trans hnh) ?_
      refine g_ic_ge ((j : Nat) : Int) ((nh : Nat) : Int) 86 (nI_ti (by omega)) (nI_ti (by omega)) d12_advice_38 rfl (fun c38 => absurd c38 (by omega)) (fun _ => ?_)
      refine g_aload_n d12_advice_41 rfl ?_
      refine g_iload_n d12_advice_42 rfl ?_
      refine g_iload d12_advice_43 rfl ?_
      refine g_XV2 vm12_habitCost ml12_487 c_74 (r12_habitCost (I := I2) (L := L2) j (Fh j) (by rw [(hF.1 76 (by decide) (by decide)).trans e76]; exact hB j (by omega)) coin per c fr ti se fl (hC.of ((hF.1 76 (by decide) (by decide)).trans e76)) (by rw [(hF.1 76 (by decide) (by decide)).trans e76]; exact t1) t3 (by rw [(hF.1 76 (by decide) (by decide)).trans e76]; exact t4) t6 (by exact (hF.2.1 15 (by decide)).trans e15) (cmR (I 76) (I 76 11) lf) (fnR (I 76) (I 76 11) lf c fr fine) (cmR_le _ _ lf) (fun a b => fnR_le _ _ lf c fr a b t8) hcs (pt fr2 (cmR (I 76) (I 76 11) lf) s0 fr) (pt_sum fr2 _ s0 (cmR_le _ _ lf) fr) hP (Nat.le_refl 5)) (by omega) (Nat.le_of_ble_eq_true rfl) d12_advice_45 (fun y hy => ?_)
      obtain ⟨I3, L3⟩ := y
      dsimp only at hy ⊢
      refine g_lstore d12_advice_48 (by decide) ?_
      refine g_lload d12_advice_50 rfl ?_
      refine g_lload_n d12_advice_52 rfl ?_
      refine g_lx_ge (((hV coin per fr fl (cmR (I 76) (I 76 11) lf) (fnR (I 76) (I 76 11) lf c fr fine) (thr (Fh j) coin per fr ti se) (pt fr2 (cmR (I 76) (I 76 11) lf) s0 fr) (ti + 1 - fr)) : Nat) : Int) (((av (fun h => (hV coin per fr fl (cmR (I 76) (I 76 11) lf) (fnR (I 76) (I 76 11) lf c fr fine) (thr (Fh h) coin per fr ti se) (pt fr2 (cmR (I 76) (I 76 11) lf) s0 fr) (ti + 1 - fr))) (j)).1 : Nat) : Int) 62 (pk_lT (by omega)) (pk_lT (by omega)) d12_advice_53 d12_advice_54 rfl (fun c53 => absurd c53 (by omega)) (fun _ => ?_)
      refine g_iload d12_advice_57 rfl ?_
      refine g_goto 64 d12_advice_59 rfl ?_
      refine g_istore d12_advice_64 (by decide) ?_
      refine g_lload d12_advice_66 rfl ?_
      refine g_lload_n d12_advice_68 rfl ?_
      refine g_lx_ge (((hV coin per fr fl (cmR (I 76) (I 76 11) lf) (fnR (I 76) (I 76 11) lf c fr fine) (thr (Fh j) coin per fr ti se) (pt fr2 (cmR (I 76) (I 76 11) lf) s0 fr) (ti + 1 - fr)) : Nat) : Int) (((av (fun h => (hV coin per fr fl (cmR (I 76) (I 76 11) lf) (fnR (I 76) (I 76 11) lf c fr fine) (thr (Fh h) coin per fr ti se) (pt fr2 (cmR (I 76) (I 76 11) lf) s0 fr) (ti + 1 - fr))) (j)).1 : Nat) : Int) 78 (pk_lT (by omega)) (pk_lT (by omega)) d12_advice_69 d12_advice_70 rfl (fun c69 => absurd c69 (by omega)) (fun _ => ?_)
      refine g_lload d12_advice_73 rfl ?_
      refine g_goto 79 d12_advice_75 rfl ?_
      refine g_lstore_n d12_advice_79 (by decide) ?_
      refine g_iincN d12_advice_80 rfl (by decide) ?_
      refine g_goto 30 d12_advice_83 rfl ?_
      refine g_lo [(0, .ref 74), (1, .int (nI (c))), (2, .long (lN (av (fun h => (hV coin per fr fl (cmR (I 76) (I 76 11) lf) (fnR (I 76) (I 76 11) lf c fr fine) (thr (Fh h) coin per fr ti se) (pt fr2 (cmR (I 76) (I 76 11) lf) s0 fr) (ti + 1 - fr))) (j + 1)).1)), (4, .int (av (fun h => (hV coin per fr fl (cmR (I 76) (I 76 11) lf) (fnR (I 76) (I 76 11) lf c fr fine) (thr (Fh h) coin per fr ti se) (pt fr2 (cmR (I 76) (I 76 11) lf) s0 fr) (ti + 1 - fr))) (j + 1)).2), (5, .int (nI (j + 1)))] ⟨rfl, rfl, by rw [hav]; rfl, by rw [hav]; rfl, rfl, trivial⟩ ?_
      refine ih (j + 1) I3 L3 (by omega) (hF.tr (hy.up (by decide) (by decide) (by decide) (by decide))) (fun s a b k k1 k2 => ?_) (fun k a b => ?_)
      · rw [hy.1 90 (by decide) (by decide), hy.1 92 (by decide) (by decide)]; exact hcs s a b k k1 k2
      · rw [hy.2.2.1 91 (by decide) (by decide)]; exact hP k a b
    · have hav : av (fun h => (hV coin per fr fl (cmR (I 76) (I 76 11) lf) (fnR (I 76) (I 76 11) lf c fr fine) (thr (Fh h) coin per fr ti se) (pt fr2 (cmR (I 76) (I 76 11) lf) s0 fr) (ti + 1 - fr))) (j + 1) = av (fun h => (hV coin per fr fl (cmR (I 76) (I 76 11) lf) (fnR (I 76) (I 76 11) lf c fr fine) (thr (Fh h) coin per fr ti se) (pt fr2 (cmR (I 76) (I 76 11) lf) s0 fr) (ti + 1 - fr))) j := if_neg hv
      refine g_iload d12_advice_30 rfl ?_
      refine g_aload_n d12_advice_32 rfl ?_
      refine g_get fl12_13 d12_advice_33 f_74_3 ?_
      refine g_iconstv (nI 2) d12_advice_36 rfl ?_
      refine g_ialdN (2) d12_advice_37 a_76 (rfl) (by omega) (by decide) ?_
      refine g_topI (nI (nh)) ((congrFun ((hF.1 76 (by decide) (by decide)).trans e76) 2).trans hnh) ?_
      refine g_ic_ge ((j : Nat) : Int) ((nh : Nat) : Int) 86 (nI_ti (by omega)) (nI_ti (by omega)) d12_advice_38 rfl (fun c38 => absurd c38 (by omega)) (fun _ => ?_)
      refine g_aload_n d12_advice_41 rfl ?_
      refine g_iload_n d12_advice_42 rfl ?_
      refine g_iload d12_advice_43 rfl ?_
      refine g_XV2 vm12_habitCost ml12_487 c_74 (r12_habitCost (I := I2) (L := L2) j (Fh j) (by rw [(hF.1 76 (by decide) (by decide)).trans e76]; exact hB j (by omega)) coin per c fr ti se fl (hC.of ((hF.1 76 (by decide) (by decide)).trans e76)) (by rw [(hF.1 76 (by decide) (by decide)).trans e76]; exact t1) t3 (by rw [(hF.1 76 (by decide) (by decide)).trans e76]; exact t4) t6 (by exact (hF.2.1 15 (by decide)).trans e15) (cmR (I 76) (I 76 11) lf) (fnR (I 76) (I 76 11) lf c fr fine) (cmR_le _ _ lf) (fun a b => fnR_le _ _ lf c fr a b t8) hcs (pt fr2 (cmR (I 76) (I 76 11) lf) s0 fr) (pt_sum fr2 _ s0 (cmR_le _ _ lf) fr) hP (Nat.le_refl 5)) (by omega) (Nat.le_of_ble_eq_true rfl) d12_advice_45 (fun y hy => ?_)
      obtain ⟨I3, L3⟩ := y
      dsimp only at hy ⊢
      refine g_lstore d12_advice_48 (by decide) ?_
      refine g_lload d12_advice_50 rfl ?_
      refine g_lload_n d12_advice_52 rfl ?_
      refine g_lx_ge (((hV coin per fr fl (cmR (I 76) (I 76 11) lf) (fnR (I 76) (I 76 11) lf c fr fine) (thr (Fh j) coin per fr ti se) (pt fr2 (cmR (I 76) (I 76 11) lf) s0 fr) (ti + 1 - fr)) : Nat) : Int) (((av (fun h => (hV coin per fr fl (cmR (I 76) (I 76 11) lf) (fnR (I 76) (I 76 11) lf c fr fine) (thr (Fh h) coin per fr ti se) (pt fr2 (cmR (I 76) (I 76 11) lf) s0 fr) (ti + 1 - fr))) (j)).1 : Nat) : Int) 62 (pk_lT (by omega)) (pk_lT (by omega)) d12_advice_53 d12_advice_54 rfl (fun _ => ?_) (fun c53 => absurd c53 (by omega))
      refine g_iload d12_advice_62 rfl ?_
      refine g_istore d12_advice_64 (by decide) ?_
      refine g_lload d12_advice_66 rfl ?_
      refine g_lload_n d12_advice_68 rfl ?_
      refine g_lx_ge (((hV coin per fr fl (cmR (I 76) (I 76 11) lf) (fnR (I 76) (I 76 11) lf c fr fine) (thr (Fh j) coin per fr ti se) (pt fr2 (cmR (I 76) (I 76 11) lf) s0 fr) (ti + 1 - fr)) : Nat) : Int) (((av (fun h => (hV coin per fr fl (cmR (I 76) (I 76 11) lf) (fnR (I 76) (I 76 11) lf c fr fine) (thr (Fh h) coin per fr ti se) (pt fr2 (cmR (I 76) (I 76 11) lf) s0 fr) (ti + 1 - fr))) (j)).1 : Nat) : Int) 78 (pk_lT (by omega)) (pk_lT (by omega)) d12_advice_69 d12_advice_70 rfl (fun _ => ?_) (fun c69 => absurd c69 (by omega))
      refine g_lload_n d12_advice_78 rfl ?_
      refine g_lstore_n d12_advice_79 (by decide) ?_
      refine g_iincN d12_advice_80 rfl (by decide) ?_
      refine g_goto 30 d12_advice_83 rfl ?_
      refine g_lo [(0, .ref 74), (1, .int (nI (c))), (2, .long (lN (av (fun h => (hV coin per fr fl (cmR (I 76) (I 76 11) lf) (fnR (I 76) (I 76 11) lf c fr fine) (thr (Fh h) coin per fr ti se) (pt fr2 (cmR (I 76) (I 76 11) lf) s0 fr) (ti + 1 - fr))) (j + 1)).1)), (4, .int (av (fun h => (hV coin per fr fl (cmR (I 76) (I 76 11) lf) (fnR (I 76) (I 76 11) lf c fr fine) (thr (Fh h) coin per fr ti se) (pt fr2 (cmR (I 76) (I 76 11) lf) s0 fr) (ti + 1 - fr))) (j + 1)).2), (5, .int (nI (j + 1)))] ⟨rfl, rfl, by rw [hav]; rfl, by rw [hav]; rfl, rfl, trivial⟩ ?_
      refine ih (j + 1) I3 L3 (by omega) (hF.tr (hy.up (by decide) (by decide) (by decide) (by decide))) (fun s a b k k1 k2 => ?_) (fun k a b => ?_)
      · rw [hy.1 90 (by decide) (by decide), hy.1 92 (by decide) (by decide)]; exact hcs s a b k k1 k2
      · rw [hy.2.2.1 91 (by decide) (by decide)]; exact hP k a b
set_option maxHeartbeats 200000 in
theorem r12_advice_no {l : Launch} {K : cK} {d : Nat} {I : wI} {L : wL} {R : wR} {dy : cH} (n : Nat) (hn : I 76 0 = nI n) (hn6 : n ≤ 6) (x : Int32) (hbad : ¬ (0 ≤ x.toInt ∧ x.toInt < n)) (hd : 2 ≤ d) : CE l K m12_advice d [.ref 74, .int x] (hp I L R dy) (.int (-1)) (hp (uI I 74 0 0) L R dy) := by
  refine CC.of ok12_advice (Nat.le_of_ble_eq_true rfl) ?_
  refine g_aload_n d12_advice_0 rfl ?_
  refine g_iconstv (nI 0) d12_advice_1 rfl ?_
  refine g_putIh _ fl12_128 d12_advice_2 f_74_0 s_74_0 ?_
  refine g_aload_n d12_advice_5 rfl ?_
  refine g_iload_n d12_advice_6 rfl ?_
  refine g_EV1 vm12_isCar ml12_158 c_74 (r12_isCarI  n (by exact hn) hn6 (rfl) (Nat.le_refl 1)) (by omega) (Nat.le_of_ble_eq_true rfl) d12_advice_7 ?_
  refine g_bnz 15 d12_advice_10 rfl (fun c10 => ?_) (fun c10 => ?_)
  · exact absurd c10 hbad
  · refine g_iconstv ((-1 : Int32)) d12_advice_13 rfl ?_
    exact g_iret rfl d12_advice_14 (⟨rfl, rfl⟩)
set_option maxHeartbeats 400000 in
theorem r12_advice_ok {l : Launch} {K : cK} {d : Nat} {I : wI} {L : wL} {R : wR} {dy : cH} (lf : lawF) (ha : inF I lf) (coin per fine s0 : Nat) (hT : RT I coin per fine s0) (n : Nat) (hn : I 76 0 = nI n) (hn6 : n ≤ 6) (c fr ti se fl : Nat) (hC : CF I c fr ti se fl) (hcn : c < n) (nh : Nat) (hnh : I 76 2 = nI nh) (hnh6 : nh ≤ 6) (Fh : Nat → hbF) (hB : ∀ h, h < nh → HB (I 76) h (Fh h)) (hd : 7 ≤ d) : CX l K m12_advice d [.ref 74, .int (nI c)] (hp I L R dy) (α := wI × wL) (fun x => FR [90, 92, 93, 96, 98] [0, 28, 32, 35, 36, 43, 44] [87, 88, 89, 91, 94, 95, 97, 99, 100] [33, 34, 42] I L x.1 x.2) (fun _ => .int (av (fun h => (hV coin per fr fl (cmR (I 76) (I 76 11) lf) (fnR (I 76) (I 76 11) lf c fr fine) (thr (Fh h) coin per fr ti se) (pt fr2 (cmR (I 76) (I 76 11) lf) s0 fr) (ti + 1 - fr))) nh).2) (fun x => hp x.1 x.2 R dy) := by
  obtain ⟨hc6, q0, q1, q2, q3, hft, ht11, hse, hfl⟩ := id hC
  refine CC.of ok12_advice (Nat.le_of_ble_eq_true rfl) ?_
  refine g_aload_n d12_advice_0 rfl ?_
  refine g_iconstv (nI 0) d12_advice_1 rfl ?_
  refine g_putIh _ fl12_128 d12_advice_2 f_74_0 s_74_0 ?_
  refine g_aload_n d12_advice_5 rfl ?_
  refine g_iload_n d12_advice_6 rfl ?_
  refine g_EV1 vm12_isCar ml12_158 c_74 (r12_isCarI (xi := ((c : Nat) : Int)) n (by exact hn) hn6 (nI_ti (by omega)) (Nat.le_refl 1)) (by omega) (Nat.le_of_ble_eq_true rfl) d12_advice_7 ?_
  refine g_bnz 15 d12_advice_10 rfl (fun _ => ?_) (fun c10 => absurd c10 (fun q => q (by omega)))
  refine g_aload_n d12_advice_15 rfl ?_
  refine g_iload_n d12_advice_16 rfl ?_
  refine g_WV1 vm12_layAll ml12_433 c_74 (r12_layAll (I := uI I 74 0 0) lf (by exact ha) coin per fine s0 (by exact hT) c fr ti se fl (hC.of rfl) (Nat.le_refl 6)) (by omega) (Nat.le_of_ble_eq_true rfl) d12_advice_17 (fun x hx => ?_)
  obtain ⟨I2, L2⟩ := x
  obtain ⟨hF, hLC, hR⟩ := hx
  dsimp only at hF hLC hR ⊢
  obtain ⟨t1, t2, t3, t4, t5, t6, t7, t8, t9, t10, t11, t12⟩ := id hT
  have e76 : I2 76 = I 76 := hF.1 76 (by decide) (by decide)
  have hF0 : FR [90, 92, 93, 96, 98] [0, 28, 32, 35, 36, 43, 44] [87, 88, 89, 91, 94, 95, 97, 99, 100] [33, 34, 42] I L I2 L2 := (FR.rf.uf (j := 0) (by decide)).tr (hF.up (by decide) (by decide) (by decide) (by decide))
  refine g_ldc2 d12_advice_20 kl12_440 ?_
  refine g_lstore_n d12_advice_23 (by decide) ?_
  refine g_iconstv ((-1 : Int32)) d12_advice_24 rfl ?_
  refine g_istore d12_advice_25 (by decide) ?_
  refine g_iconstv (nI 0) d12_advice_27 rfl ?_
  refine g_istore d12_advice_28 (by decide) ?_
  refine g_lo [(0, .ref 74), (1, .int (nI (c))), (2, .long (lN (av (fun h => (hV coin per fr fl (cmR (I 76) (I 76 11) lf) (fnR (I 76) (I 76 11) lf c fr fine) (thr (Fh h) coin per fr ti se) (pt fr2 (cmR (I 76) (I 76 11) lf) s0 fr) (ti + 1 - fr))) 0).1)), (4, .int (av (fun h => (hV coin per fr fl (cmR (I 76) (I 76 11) lf) (fnR (I 76) (I 76 11) lf c fr fine) (thr (Fh h) coin per fr ti se) (pt fr2 (cmR (I 76) (I 76 11) lf) s0 fr) (ti + 1 - fr))) 0).2), (5, .int (nI (0)))] ⟨rfl, rfl, rfl, rfl, rfl, trivial⟩ ?_
  refine r12_advL (I := I) (L := L) lf coin per fine s0 hT c fr ti se fl hC nh hnh hnh6 Fh hB I2 L2 e76 ((hF.2.1 15 (by decide)).trans t12) (by omega) (fun I3 L3 hF3 _ _ => ?_) nh 0 I2 L2 (by omega) FR.rf (fun s a b k k1 k2 => ⟨hLC.1 s (by omega) k k1 k2, ((hR s a b).1 k k1 k2).1⟩) (fun k a b => hLC.2 fr (by omega) k b)
  refine g_iload d12_advice_86 rfl ?_
  exact g_iret rfl d12_advice_88 (⟨(I3, L3), hF0.tr (hF3.up (by decide) (by decide) (by decide) (by decide)), rfl, rfl⟩)
