theorem mkI_inc (j : Nat) : mkI j + Int32.ofInt 1 = mkI (j + 1) := by
  cases j with
  | zero => decide
  | succ j => rw [mkI_s, mkI_s, nI_inc]
def lwF (Fl : Nat → hbF) : Nat → lawF
  | 0 => none
  | j + 1 => some (Fl j)
def wb (v : Nat → Nat) : Nat → Int × Nat
  | 0 => (-1, 0)
  | j + 1 => if (wb v j).1 < v j then ((v j : Int), j) else wb v j
theorem wb_s (v : Nat → Nat) (j : Nat) : wb v (j + 1) = if (wb v j).1 < v j then ((v j : Int), j) else wb v j := rfl
theorem wb_le (v : Nat → Nat) (B : Nat) : ∀ n, (∀ j, v j ≤ B) → -1 ≤ (wb v n).1 ∧ (wb v n).1 ≤ B ∧ (wb v n).2 ≤ n
  | 0, _ => ⟨Int.le_refl _, by show (-1 : Int) ≤ B; omega, Nat.le_refl _⟩
  | j + 1, h => by
    obtain ⟨a, b, c⟩ := wb_le v B j h
    have := h j
    rw [wb_s]
    split
    · exact ⟨by show (-1 : Int) ≤ (v j : Nat); omega, by show ((v j : Nat) : Int) ≤ B; omega, Nat.le_succ j⟩
    · exact ⟨a, b, Nat.le_succ_of_le c⟩
def wv (g : Nat → Int32) (Fl : Nat → hbF) (ss sc : Nat → Nat) (n s0 j : Nat) : Nat := sm (pq (fun s => decide (sO ss sc s n 0 ≠ 1)) (fun s => decide (sO ss sc s n 0 ≠ 2 ∧ ¬ (s : Int) = (-1 : Int32).toInt)) (cmR g (g 11) (lwF Fl j)) s0 12) 12
def LAWS (g : Nat → Int32) (nl : Nat) (Fl : Nat → hbF) : Prop := ∀ a, a < nl → TMF g (80 + 900 * a) (Fl a)
theorem lI_nat (n : Nat) : lI (n : Int) = lN n := by unfold lI lN; rw [Int64.ofInt_eq_ofNat]
set_option maxHeartbeats 800000 in
theorem r12_whL {l : Launch} {K : cK} {d : Nat} {I : wI} {L : wL} {R : wR} {dy : cH} {Q : Option Value → cH → Prop} (coin per fine s0 : Nat) (hT : RT I coin per fine s0) (n : Nat) (ss sc : Nat → Nat) (hSL : SLP I n ss sc) (nl : Nat) (hnl : I 76 1 = nI nl) (hnl6 : nl ≤ 6) (Fl : Nat → hbF) (hFl : LAWS (I 76) nl Fl) (I0 : wI) (L0 : wL) (e76 : I0 76 = I 76) (e15 : I0 74 15 = 0) (e36 : I0 74 36 = I 76 11) (hd : 6 ≤ d)
    (kk : ∀ (I3 : wI) (L3 : wL), FR [] [28, 32, 35] [87, 88, 89, 99, 100] [33, 34] I0 L0 I3 L3 → GL l K m12_which d 0 0 76 [(3, .int (mkI (wb (wv (I 76) Fl ss sc n s0) (nl + 1)).2))] [] (hp I3 L3 R dy) Q) :
    ∀ (zn j : Nat) (I2 : wI) (L2 : wL), j + zn = nl + 1 → FR [] [28, 32, 35] [87, 88, 89, 99, 100] [33, 34] I0 L0 I2 L2 → GL l K m12_which d 0 0 18 [(0, .ref 74), (1, .long (lI (wb (wv (I 76) Fl ss sc n s0) j).1)), (3, .int (mkI (wb (wv (I 76) Fl ss sc n s0) j).2)), (4, .int (mkI j))] [] (hp I2 L2 R dy) Q := by
  obtain ⟨t1, t2, t3, t4, t5, t6, t7, t8, t9, t10, t11, t12⟩ := id hT
  intro zn
  induction zn with
  | zero =>
    intro j I2 L2 hin hF
    obtain rfl : nl + 1 = j := by omega
    refine g_iload d12_which_18 rfl ?_
    refine g_aload_n d12_which_20 rfl ?_
    refine g_get fl12_13 d12_which_21 f_74_3 ?_
    refine g_iconstv (nI 1) d12_which_24 rfl ?_
    refine g_ialdN (1) d12_which_25 a_76 (rfl) (by omega) (by decide) ?_
    refine g_topI (nI (nl)) ((congrFun ((hF.1 76 (by decide) (by decide)).trans e76) 1).trans hnl) ?_
    refine g_ic_ge (((nl + 1 : Nat) : Int) - 1) ((nl : Nat) : Int) 76 (mkI_ti (by omega)) (nI_ti (by omega)) d12_which_26 rfl (fun _ => ?_) (fun c26 => absurd c26 (by omega))
    refine g_lo [(3, .int (mkI (wb (wv (I 76) Fl ss sc n s0) (nl + 1)).2))] ⟨rfl, trivial⟩ ?_
    exact kk I2 L2 hF
  | succ zn ih =>
    intro j I2 L2 hin hF
    have f76 : I2 76 = I 76 := (hF.1 76 (by decide) (by decide)).trans e76
    obtain ⟨b1, b2, b3⟩ := wb_le (wv (I 76) Fl ss sc n s0) 1000000000000 j (fun j => pq_sum _ _ _ s0 (cmR_le _ _ _) 12)
    have b4 : (wv (I 76) Fl ss sc n s0) j ≤ 1000000000000 := pq_sum _ _ _ s0 (cmR_le _ _ _) 12
    have hask : askd (uI I2 74 35 (mkI j)) (lwF Fl j) := by
      cases j with
      | zero => exact Or.inl ⟨rfl, uI_ss⟩
      | succ a => exact Or.inr ⟨a, Fl a, rfl, by omega, by rw [uI_ss, mkI_s], by show TMF (I2 76) _ _; rw [f76]; exact hFl a (by omega)⟩
    have hcv : cmv (uI I2 74 35 (mkI j)) (lwF Fl j) = cmR (I 76) (I 76 11) (lwF Fl j) := by
      funext s k; show cmF _ (lE _ _ (I2 76 9).toInt64 (I2 74 36).toInt64 _ _ (I2 76 13).toInt64) = _; rw [f76, (hF.2.1 36 (by decide)).trans e36]; rfl
    by_cases hv : (wb (wv (I 76) Fl ss sc n s0) j).1 < (wv (I 76) Fl ss sc n s0) j
    · have hw : wb (wv (I 76) Fl ss sc n s0) (j + 1) = ((((wv (I 76) Fl ss sc n s0) j : Nat) : Int), j) := by rw [wb_s, if_pos hv]
      refine g_iload d12_which_18 rfl ?_
      refine g_aload_n d12_which_20 rfl ?_
      refine g_get fl12_13 d12_which_21 f_74_3 ?_
      refine g_iconstv (nI 1) d12_which_24 rfl ?_
      refine g_ialdN (1) d12_which_25 a_76 (rfl) (by omega) (by decide) ?_
      refine g_topI (nI (nl)) ((congrFun ((hF.1 76 (by decide) (by decide)).trans e76) 1).trans hnl) ?_
      refine g_ic_ge (((j : Nat) : Int) - 1) ((nl : Nat) : Int) 76 (mkI_ti (by omega)) (nI_ti (by omega)) d12_which_26 rfl (fun c26 => absurd c26 (by omega)) (fun _ => ?_)
      refine g_aload_n d12_which_29 rfl ?_
      refine g_iload d12_which_30 rfl ?_
      refine g_putIh _ fl12_384 d12_which_32 f_74_35 s_74_35 ?_
      refine g_aload_n d12_which_35 rfl ?_
      refine g_iconstv ((-1 : Int32)) d12_which_36 rfl ?_
      refine g_XV1 vm12_fitsBy ml12_539 c_74 (r12_fitsBy (I := uI I2 74 35 (mkI j)) (L := L2) (lwF Fl j) hask ((hF.2.1 15 (by decide)).trans e15) (cmR (I 76) (I 76 11) (lwF Fl j)) hcv n ss sc (hSL.of f76) s0 (by show I2 76 10 = _; rw [f76]; exact t9) t11 (-1) (Nat.le_refl 5)) (by omega) (Nat.le_of_ble_eq_true rfl) d12_which_37 (fun y hy => ?_)
      refine g_topL (lN ((wv (I 76) Fl ss sc n s0) j)) (rfl) ?_
      obtain ⟨I3, L3⟩ := y
      dsimp only at hy ⊢
      refine g_lstore d12_which_40 (by decide) ?_
      refine g_lload d12_which_42 rfl ?_
      refine g_lload_n d12_which_44 rfl ?_
      refine g_lx_le (((wv (I 76) Fl ss sc n s0) j : Nat) : Int) (wb (wv (I 76) Fl ss sc n s0) j).1 54 (pk_lT (by omega)) (lI_ti (by omega) (by omega)) d12_which_45 d12_which_46 rfl (fun c45 => absurd c45 (by omega)) (fun _ => ?_)
      refine g_iload d12_which_49 rfl ?_
      refine g_goto 55 d12_which_51 rfl ?_
      refine g_istore_n d12_which_55 (by decide) ?_
      refine g_lload d12_which_56 rfl ?_
      refine g_lload_n d12_which_58 rfl ?_
      refine g_lx_le (((wv (I 76) Fl ss sc n s0) j : Nat) : Int) (wb (wv (I 76) Fl ss sc n s0) j).1 68 (pk_lT (by omega)) (lI_ti (by omega) (by omega)) d12_which_59 d12_which_60 rfl (fun c59 => absurd c59 (by omega)) (fun _ => ?_)
      refine g_lload d12_which_63 rfl ?_
      refine g_goto 69 d12_which_65 rfl ?_
      refine g_lstore_n d12_which_69 (by decide) ?_
      refine g_iinc (mkI (j + 1)) d12_which_70 rfl (mkI_inc j) (by decide) ?_
      refine g_goto 18 d12_which_73 rfl ?_
      refine g_lo [(0, .ref 74), (1, .long (lI (wb (wv (I 76) Fl ss sc n s0) (j + 1)).1)), (3, .int (mkI (wb (wv (I 76) Fl ss sc n s0) (j + 1)).2)), (4, .int (mkI (j + 1)))] ⟨rfl, by rw [hw]; exact congrArg (fun z => some (Value.long z)) (lI_nat _).symm, by rw [hw]; rfl, rfl, trivial⟩ ?_
      exact ih (j + 1) I3 L3 (by omega) ((hF.uf (by decide)).tr (hy.up (by decide) (by decide) (by decide) (by decide)))
    · have hw : wb (wv (I 76) Fl ss sc n s0) (j + 1) = wb (wv (I 76) Fl ss sc n s0) j := by rw [wb_s, if_neg hv]
      refine g_iload d12_which_18 rfl ?_
      refine g_aload_n d12_which_20 rfl ?_
      refine g_get fl12_13 d12_which_21 f_74_3 ?_
      refine g_iconstv (nI 1) d12_which_24 rfl ?_
      refine g_ialdN (1) d12_which_25 a_76 (rfl) (by omega) (by decide) ?_
      refine g_topI (nI (nl)) ((congrFun ((hF.1 76 (by decide) (by decide)).trans e76) 1).trans hnl) ?_
      refine g_ic_ge (((j : Nat) : Int) - 1) ((nl : Nat) : Int) 76 (mkI_ti (by omega)) (nI_ti (by omega)) d12_which_26 rfl (fun c26 => absurd c26 (by omega)) (fun _ => ?_)
      refine g_aload_n d12_which_29 rfl ?_
      refine g_iload d12_which_30 rfl ?_
      refine g_putIh _ fl12_384 d12_which_32 f_74_35 s_74_35 ?_
      refine g_aload_n d12_which_35 rfl ?_
      refine g_iconstv ((-1 : Int32)) d12_which_36 rfl ?_
      refine g_XV1 vm12_fitsBy ml12_539 c_74 (r12_fitsBy (I := uI I2 74 35 (mkI j)) (L := L2) (lwF Fl j) hask ((hF.2.1 15 (by decide)).trans e15) (cmR (I 76) (I 76 11) (lwF Fl j)) hcv n ss sc (hSL.of f76) s0 (by show I2 76 10 = _; rw [f76]; exact t9) t11 (-1) (Nat.le_refl 5)) (by omega) (Nat.le_of_ble_eq_true rfl) d12_which_37 (fun y hy => ?_)
      refine g_topL (lN ((wv (I 76) Fl ss sc n s0) j)) (rfl) ?_
      obtain ⟨I3, L3⟩ := y
      dsimp only at hy ⊢
      refine g_lstore d12_which_40 (by decide) ?_
      refine g_lload d12_which_42 rfl ?_
      refine g_lload_n d12_which_44 rfl ?_
      refine g_lx_le (((wv (I 76) Fl ss sc n s0) j : Nat) : Int) (wb (wv (I 76) Fl ss sc n s0) j).1 54 (pk_lT (by omega)) (lI_ti (by omega) (by omega)) d12_which_45 d12_which_46 rfl (fun _ => ?_) (fun c45 => absurd c45 (by omega))
      refine g_iload_n d12_which_54 rfl ?_
      refine g_istore_n d12_which_55 (by decide) ?_
      refine g_lload d12_which_56 rfl ?_
      refine g_lload_n d12_which_58 rfl ?_
      refine g_lx_le (((wv (I 76) Fl ss sc n s0) j : Nat) : Int) (wb (wv (I 76) Fl ss sc n s0) j).1 68 (pk_lT (by omega)) (lI_ti (by omega) (by omega)) d12_which_59 d12_which_60 rfl (fun _ => ?_) (fun c59 => absurd c59 (by omega))
      refine g_lload_n d12_which_68 rfl ?_
      refine g_lstore_n d12_which_69 (by decide) ?_
      refine g_iinc (mkI (j + 1)) d12_which_70 rfl (mkI_inc j) (by decide) ?_
      refine g_goto 18 d12_which_73 rfl ?_
      refine g_lo [(0, .ref 74), (1, .long (lI (wb (wv (I 76) Fl ss sc n s0) (j + 1)).1)), (3, .int (mkI (wb (wv (I 76) Fl ss sc n s0) (j + 1)).2)), (4, .int (mkI (j + 1)))] ⟨rfl, by rw [hw]; rfl, by rw [hw]; rfl, rfl, trivial⟩ ?_
      exact ih (j + 1) I3 L3 (by omega) ((hF.uf (by decide)).tr (hy.up (by decide) (by decide) (by decide) (by decide)))
set_option maxHeartbeats 400000 in
theorem r12_which {l : Launch} {K : cK} {d : Nat} {I : wI} {L : wL} {R : wR} {dy : cH} (coin per fine s0 : Nat) (hT : RT I coin per fine s0) (n : Nat) (ss sc : Nat → Nat) (hSL : SLP I n ss sc) (nl : Nat) (hnl : I 76 1 = nI nl) (hnl6 : nl ≤ 6) (Fl : Nat → hbF) (hFl : LAWS (I 76) nl Fl) (hd : 7 ≤ d) : CX l K m12_which d [.ref 74] (hp I L R dy) (α := wI × wL) (fun x => FR [90, 92, 93, 96, 98] [0, 28, 32, 35, 36, 43, 44] [87, 88, 89, 91, 94, 95, 97, 99, 100] [33, 34, 42] I L x.1 x.2) (fun _ => .int (mkI (wb (wv (I 76) Fl ss sc n s0) (nl + 1)).2)) (fun x => hp x.1 x.2 R dy) := by
  obtain ⟨t1, t2, t3, t4, t5, t6, t7, t8, t9, t10, t11, t12⟩ := id hT
  refine CC.of ok12_which (Nat.le_of_ble_eq_true rfl) ?_
  refine g_aload_n d12_which_0 rfl ?_
  refine g_iconstv (nI 0) d12_which_1 rfl ?_
  refine g_putIh _ fl12_128 d12_which_2 f_74_0 s_74_0 ?_
  refine g_aload_n d12_which_5 rfl ?_
  refine g_VV0 vm12_askNow ml12_403 c_74 (r12_askNow (Nat.le_refl 1)) (by omega) (Nat.le_of_ble_eq_true rfl) d12_which_6 ?_
  refine g_ldc2 d12_which_9 kl12_219 ?_
  refine g_lstore_n d12_which_12 (by decide) ?_
  refine g_iconstv ((-1 : Int32)) d12_which_13 rfl ?_
  refine g_istore_n d12_which_14 (by decide) ?_
  refine g_iconstv ((-1 : Int32)) d12_which_15 rfl ?_
  refine g_istore d12_which_16 (by decide) ?_
  refine g_lo [(0, .ref 74), (1, .long (lI (wb (wv (I 76) Fl ss sc n s0) 0).1)), (3, .int (mkI (wb (wv (I 76) Fl ss sc n s0) 0).2)), (4, .int (mkI 0))] ⟨rfl, congrArg (fun z => some (Value.long z)) (show (-1 : Int64) = lI (-1) by decide), rfl, rfl, trivial⟩ ?_
  refine r12_whL (I := I) (L := L) coin per fine s0 hT n ss sc hSL nl hnl hnl6 Fl hFl (uI (uI (uI I 74 0 0) 74 35 (I 76 5)) 74 36 (I 76 11)) L rfl (by exact t12) rfl (by omega) (fun I3 L3 hF3 => ?_) (nl + 1) 0 _ _ (by omega) FR.rf
  refine g_iload_n d12_which_76 rfl ?_
  exact g_iret rfl d12_which_77 (⟨(I3, L3), (((FR.rf.uf (j := 0) (by decide)).uf (j := 35) (by decide)).uf (j := 36) (by decide)).tr (hF3.up (by decide) (by decide) (by decide) (by decide)), rfl, rfl⟩)
/-- a row copied: places from a on, m of them -/
def cpr (f g : Nat → Int32) (a b : Nat) (m : Nat) : Nat → Int32 := fun q => if a ≤ q ∧ q < a + m then g (b + (q - a)) else f q
set_option maxHeartbeats 200000 in
theorem r12_image_no {l : Launch} {K : cK} {d : Nat} {I : wI} {L : wL} {R : wR} {dy : cH} (x : Int32) (hbad : ¬ (0 ≤ x.toInt ∧ x.toInt ≤ 1)) (hd : 1 ≤ d) : CE l K m12_image d [.ref 74, .int x] (hp I L R dy) (.int (-1)) (hp (uI (uI (uI I 74 0 0) 74 1 (-1)) 75 1 (I 75 1 + 1)) L R dy) := by
  refine CC.of ok12_image (Nat.le_of_ble_eq_true rfl) ?_
  refine g_aload_n d12_image_0 rfl ?_
  refine g_iconstv (nI 0) d12_image_1 rfl ?_
  refine g_putIh _ fl12_128 d12_image_2 f_74_0 s_74_0 ?_
  refine g_iload_n d12_image_5 rfl ?_
  refine g_i2l d12_image_6 ?_
  refine g_lconstv (0) d12_image_7 rfl ?_
  refine g_lconstv (1) d12_image_8 rfl ?_
  refine g_ES3 sm12_in ml12_134 (r12_inI (ai := (0)) (bi := (1)) (i2l_int _) (by decide) (by decide) (Nat.le_refl 0)) (by omega) (Nat.le_of_ble_eq_true rfl) d12_image_9 ?_
  refine g_bnz 21 d12_image_12 rfl (fun c12 => ?_) (fun c12 => ?_)
  · exact absurd c12 hbad
  · refine g_aload_n d12_image_15 rfl ?_
    refine g_iconstv ((-1 : Int32)) d12_image_16 rfl ?_
    refine g_EV1 vm12_tell ml12_138 c_74 (r12_tell_no 1 (by decide) (by decide) (by decide) (by decide) (Nat.le_refl 0)) (by omega) (Nat.le_of_ble_eq_true rfl) d12_image_17 ?_
    exact g_iret rfl d12_image_20 (⟨rfl, rfl⟩)
set_option maxHeartbeats 400000 in
theorem r12_imL {l : Launch} {K : cK} {d : Nat} {I : wI} {L : wL} {R : wR} {dy : cH} {Q : Option Value → cH → Prop} (k : Nat) (hk : k ≤ 1)
    (kk : ∀ (I3 : wI), (∀ q, q ≠ 77 → I3 q = I q) → (∀ q, q < 10880 → I3 77 (10880 * k + q) = I 76 q) → (∀ q, (q < 10880 * k ∨ 10880 * k + 10880 ≤ q) → I3 77 q = I 77 q) → GL l K m12_image d 0 0 54 [(0, .ref 74), (1, .int (nI (k)))] [] (hp I3 L R dy) Q) :
    ∀ (zn j : Nat) (I2 : wI), j + zn = 10880 → (∀ q, q ≠ 77 → I2 q = I q) → (∀ q, q < j → I2 77 (10880 * k + q) = I 76 q) → (∀ q, (q < 10880 * k ∨ 10880 * k + 10880 ≤ q) → I2 77 q = I 77 q) → GL l K m12_image d 0 0 23 [(0, .ref 74), (1, .int (nI (k))), (2, .int (nI (j)))] [] (hp I2 L R dy) Q := by
  intro zn
  induction zn with
  | zero =>
    intro j I2 hin hI hz hz2
    obtain rfl : 10880 = j := by omega
    refine g_iload_n d12_image_23 rfl ?_
    refine g_sipushv (nI 10880) d12_image_24 rfl ?_
    refine g_ic_ge ((10880 : Nat) : Int) (10880) 54 (nI_ti (by omega)) (by decide) d12_image_27 rfl (fun _ => ?_) (fun c27 => absurd c27 (by decide))
    refine g_lo [(0, .ref 74), (1, .int (nI (k)))] ⟨rfl, rfl, trivial⟩ ?_
    exact kk I2 hI hz hz2
  | succ zn ih =>
    intro j I2 hin hI hz hz2
    refine g_iload_n d12_image_23 rfl ?_
    refine g_sipushv (nI 10880) d12_image_24 rfl ?_
    refine g_ic_ge ((j : Nat) : Int) (10880) 54 (nI_ti (by omega)) (by decide) d12_image_27 rfl (fun c27 => absurd c27 (by omega)) (fun _ => ?_)
    refine g_aload_n d12_image_30 rfl ?_
    refine g_get fl12_16 d12_image_31 f_74_4 ?_
    refine g_sipushv (nI 10880) d12_image_34 rfl ?_
    refine g_iload_n d12_image_37 rfl ?_
    refine g_imulN d12_image_38 ?_
    refine g_iload_n d12_image_39 rfl ?_
    refine g_iaddN d12_image_40 ?_
    refine g_aload_n d12_image_41 rfl ?_
    refine g_get fl12_13 d12_image_42 f_74_3 ?_
    refine g_iload_n d12_image_45 rfl ?_
    refine g_ialdN (j) d12_image_46 a_76 (rfl) (by omega) (by decide) ?_
    refine g_topI (I 76 j) (congrFun (hI 76 (by decide)) j) ?_
    refine g_iastN (((10880 * k) + j)) _ d12_image_47 a_77 (rfl) (by omega) (by decide) t_77 ?_
    refine g_iincN d12_image_48 rfl (by decide) ?_
    refine g_goto 23 d12_image_51 rfl ?_
    refine g_lo [(0, .ref 74), (1, .int (nI (k))), (2, .int (nI (j + 1)))] ⟨rfl, rfl, rfl, trivial⟩ ?_
    refine ih (j + 1) _ (by omega) (fun q hq => (uI_n hq).trans (hI q hq)) (fun q hq => ?_) (fun q hq => ?_)
    · by_cases e : q = j
      · subst e; exact uI_ss
      · rw [uI_sn (by omega)]; exact hz q (by omega)
    · rw [uI_sn (by omega)]; exact hz2 q hq
set_option maxHeartbeats 400000 in
theorem r12_image_ok {l : Launch} {K : cK} {d : Nat} {I : wI} {L : wL} {R : wR} {dy : cH} (k : Nat) (hk : k ≤ 1) (hd : 1 ≤ d) : CX l K m12_image d [.ref 74, .int (nI k)] (hp I L R dy) (α := wI) (fun x => (∀ q, q ≠ 77 → q ≠ 78 → q ≠ 74 → x q = I q) ∧ (∀ j, j ≠ 0 → j ≠ 1 → x 74 j = I 74 j) ∧ x 74 1 = 0 ∧ (∀ q, q < 10880 → x 77 (10880 * k + q) = I 76 q) ∧ (∀ q, (q < 10880 * k ∨ 10880 * k + 10880 ≤ q) → x 77 q = I 77 q) ∧ x 78 k = 1 ∧ ∀ q, q ≠ k → x 78 q = I 78 q) (fun _ => .int 0) (fun x => hp x L R dy) := by
  refine CC.of ok12_image (Nat.le_of_ble_eq_true rfl) ?_
  refine g_aload_n d12_image_0 rfl ?_
  refine g_iconstv (nI 0) d12_image_1 rfl ?_
  refine g_putIh _ fl12_128 d12_image_2 f_74_0 s_74_0 ?_
  refine g_iload_n d12_image_5 rfl ?_
  refine g_i2lN (by omega) d12_image_6 ?_
  refine g_lconstv (0) d12_image_7 rfl ?_
  refine g_lconstv (1) d12_image_8 rfl ?_
  refine g_ES3 sm12_in ml12_134 (r12_inI (vi := ((k : Nat) : Int)) (ai := (0)) (bi := (1)) (pk_lT (by omega)) (by decide) (by decide) (Nat.le_refl 0)) (by omega) (Nat.le_of_ble_eq_true rfl) d12_image_9 ?_
  refine g_bnz 21 d12_image_12 rfl (fun _ => ?_) (fun c12 => absurd c12 (fun q => q (by omega)))
  refine g_iconstv (nI 0) d12_image_21 rfl ?_
  refine g_istore_n d12_image_22 (by decide) ?_
  refine g_lo [(0, .ref 74), (1, .int (nI (k))), (2, .int (nI (0)))] ⟨rfl, rfl, rfl, trivial⟩ ?_
  refine r12_imL (I := uI I 74 0 0) k hk (fun I3 hI3 hz3 hz4 => ?_) 10880 0 _ (by omega) (fun q _ => rfl) (fun q hq => by omega) (fun q hq => rfl)
  refine g_aload_n d12_image_54 rfl ?_
  refine g_get fl12_19 d12_image_55 f_74_5 ?_
  refine g_iload_n d12_image_58 rfl ?_
  refine g_iconstv (nI 1) d12_image_59 rfl ?_
  refine g_zastN (k) _ d12_image_60 a_78 (rfl) (by omega) (by decide) (by decide) t_78 ?_
  refine g_aload_n d12_image_61 rfl ?_
  refine g_iconstv (nI 0) d12_image_62 rfl ?_
  refine g_EV1 vm12_tell ml12_138 c_74 (r12_tell_ok (by decide) (Nat.le_refl 0)) (by omega) (Nat.le_of_ble_eq_true rfl) d12_image_63 ?_
  exact g_iret rfl d12_image_66 (⟨_, ⟨fun q h1 h2 h3 => by rw [uI_n h3, uI_n h2, hI3 q h1, uI_n h3], fun j h1 h2 => by rw [uI_fn h2, uI_n (by decide), hI3 74 (by decide), uI_fn h1], uI_ss, fun q hq => by rw [uI_n (by decide), uI_n (by decide)]; exact hz3 q hq, fun q hq => by rw [uI_n (by decide), uI_n (by decide)]; exact hz4 q hq, by rw [uI_n (by decide)]; exact uI_ss, fun q hq => by rw [uI_n (by decide), uI_sn hq, hI3 78 (by decide)]; rfl⟩, rfl, rfl⟩)
set_option maxHeartbeats 200000 in
theorem r12_back_no1 {l : Launch} {K : cK} {d : Nat} {I : wI} {L : wL} {R : wR} {dy : cH} (x : Int32) (hbad : ¬ (0 ≤ x.toInt ∧ x.toInt ≤ 1)) (hd : 1 ≤ d) : CE l K m12_back d [.ref 74, .int x] (hp I L R dy) (.int (-1)) (hp (uI (uI (uI I 74 0 0) 74 1 (-1)) 75 1 (I 75 1 + 1)) L R dy) := by
  refine CC.of ok12_back (Nat.le_of_ble_eq_true rfl) ?_
  refine g_aload_n d12_back_0 rfl ?_
  refine g_iconstv (nI 0) d12_back_1 rfl ?_
  refine g_putIh _ fl12_128 d12_back_2 f_74_0 s_74_0 ?_
  refine g_iload_n d12_back_5 rfl ?_
  refine g_i2l d12_back_6 ?_
  refine g_lconstv (0) d12_back_7 rfl ?_
  refine g_lconstv (1) d12_back_8 rfl ?_
  refine g_ES3 sm12_in ml12_134 (r12_inI (ai := (0)) (bi := (1)) (i2l_int _) (by decide) (by decide) (Nat.le_refl 0)) (by omega) (Nat.le_of_ble_eq_true rfl) d12_back_9 ?_
  refine g_bnz 21 d12_back_12 rfl (fun c12 => ?_) (fun c12 => ?_)
  · exact absurd c12 hbad
  · refine g_aload_n d12_back_15 rfl ?_
    refine g_iconstv ((-1 : Int32)) d12_back_16 rfl ?_
    refine g_EV1 vm12_tell ml12_138 c_74 (r12_tell_no 1 (by decide) (by decide) (by decide) (by decide) (Nat.le_refl 0)) (by omega) (Nat.le_of_ble_eq_true rfl) d12_back_17 ?_
    exact g_iret rfl d12_back_20 (⟨rfl, rfl⟩)
set_option maxHeartbeats 200000 in
theorem r12_back_no2 {l : Launch} {K : cK} {d : Nat} {I : wI} {L : wL} {R : wR} {dy : cH} (k : Nat) (hk : k ≤ 1) (h0 : I 78 k = 0) (hd : 1 ≤ d) : CE l K m12_back d [.ref 74, .int (nI k)] (hp I L R dy) (.int (-2)) (hp (uI (uI (uI I 74 0 0) 74 1 (-2)) 75 2 (I 75 2 + 1)) L R dy) := by
  refine CC.of ok12_back (Nat.le_of_ble_eq_true rfl) ?_
  refine g_aload_n d12_back_0 rfl ?_
  refine g_iconstv (nI 0) d12_back_1 rfl ?_
  refine g_putIh _ fl12_128 d12_back_2 f_74_0 s_74_0 ?_
  refine g_iload_n d12_back_5 rfl ?_
  refine g_i2lN (by omega) d12_back_6 ?_
  refine g_lconstv (0) d12_back_7 rfl ?_
  refine g_lconstv (1) d12_back_8 rfl ?_
  refine g_ES3 sm12_in ml12_134 (r12_inI (vi := ((k : Nat) : Int)) (ai := (0)) (bi := (1)) (pk_lT (by omega)) (by decide) (by decide) (Nat.le_refl 0)) (by omega) (Nat.le_of_ble_eq_true rfl) d12_back_9 ?_
  refine g_bnz 21 d12_back_12 rfl (fun _ => ?_) (fun c12 => absurd c12 (fun q => q (by omega)))
  refine g_aload_n d12_back_21 rfl ?_
  refine g_get fl12_19 d12_back_22 f_74_5 ?_
  refine g_iload_n d12_back_25 rfl ?_
  refine g_zaldN (k) d12_back_26 a_78 (rfl) (by omega) (by decide) ?_
  refine g_topI ((0 : Int32)) (h0) ?_
  refine g_iz_ne (0) 37 (by decide) d12_back_27 rfl (fun c27 => absurd c27 (by decide)) (fun _ => ?_)
  refine g_aload_n d12_back_30 rfl ?_
  refine g_bipushv ((-2 : Int32)) d12_back_31 rfl ?_
  refine g_EV1 vm12_tell ml12_138 c_74 (r12_tell_no 2 (by decide) (by decide) (by decide) (by decide) (Nat.le_refl 0)) (by omega) (Nat.le_of_ble_eq_true rfl) d12_back_33 ?_
  exact g_iret rfl d12_back_36 (⟨rfl, rfl⟩)
set_option maxHeartbeats 400000 in
theorem r12_baL {l : Launch} {K : cK} {d : Nat} {I : wI} {L : wL} {R : wR} {dy : cH} {Q : Option Value → cH → Prop} (k : Nat) (hk : k ≤ 1)
    (kk : ∀ (I3 : wI), (∀ q, q ≠ 76 → I3 q = I q) → (∀ q, q < 10880 → I3 76 q = I 77 (10880 * k + q)) → GL l K m12_back d 0 0 70 [(0, .ref 74), (1, .int (nI (k)))] [] (hp I3 L R dy) Q) :
    ∀ (zn j : Nat) (I2 : wI), j + zn = 10880 → (∀ q, q ≠ 76 → I2 q = I q) → (∀ q, q < j → I2 76 q = I 77 (10880 * k + q)) → GL l K m12_back d 0 0 39 [(0, .ref 74), (1, .int (nI (k))), (2, .int (nI (j)))] [] (hp I2 L R dy) Q := by
  intro zn
  induction zn with
  | zero =>
    intro j I2 hin hI hz
    obtain rfl : 10880 = j := by omega
    refine g_iload_n d12_back_39 rfl ?_
    refine g_sipushv (nI 10880) d12_back_40 rfl ?_
    refine g_ic_ge ((10880 : Nat) : Int) (10880) 70 (nI_ti (by omega)) (by decide) d12_back_43 rfl (fun _ => ?_) (fun c43 => absurd c43 (by decide))
    refine g_lo [(0, .ref 74), (1, .int (nI (k)))] ⟨rfl, rfl, trivial⟩ ?_
    exact kk I2 hI hz
  | succ zn ih =>
    intro j I2 hin hI hz
    refine g_iload_n d12_back_39 rfl ?_
    refine g_sipushv (nI 10880) d12_back_40 rfl ?_
    refine g_ic_ge ((j : Nat) : Int) (10880) 70 (nI_ti (by omega)) (by decide) d12_back_43 rfl (fun c43 => absurd c43 (by omega)) (fun _ => ?_)
    refine g_aload_n d12_back_46 rfl ?_
    refine g_get fl12_13 d12_back_47 f_74_3 ?_
    refine g_iload_n d12_back_50 rfl ?_
    refine g_aload_n d12_back_51 rfl ?_
    refine g_get fl12_16 d12_back_52 f_74_4 ?_
    refine g_sipushv (nI 10880) d12_back_55 rfl ?_
    refine g_iload_n d12_back_58 rfl ?_
    refine g_imulN d12_back_59 ?_
    refine g_iload_n d12_back_60 rfl ?_
    refine g_iaddN d12_back_61 ?_
    refine g_ialdN (((10880 * k) + j)) d12_back_62 a_77 (rfl) (by omega) (by decide) ?_
    refine g_topI (I 77 (10880 * k + j)) (congrFun (hI 77 (by decide)) _) ?_
    refine g_iastN (j) _ d12_back_63 a_76 (rfl) (by omega) (by decide) t_76 ?_
    refine g_iincN d12_back_64 rfl (by decide) ?_
    refine g_goto 39 d12_back_67 rfl ?_
    refine g_lo [(0, .ref 74), (1, .int (nI (k))), (2, .int (nI (j + 1)))] ⟨rfl, rfl, rfl, trivial⟩ ?_
    refine ih (j + 1) _ (by omega) (fun q hq => (uI_n hq).trans (hI q hq)) (fun q hq => ?_)
    by_cases e : q = j
    · subst e; exact uI_ss
    · rw [uI_sn (by omega)]; exact hz q (by omega)
set_option maxHeartbeats 400000 in
theorem r12_back_ok {l : Launch} {K : cK} {d : Nat} {I : wI} {L : wL} {R : wR} {dy : cH} (k : Nat) (hk : k ≤ 1) (h1 : I 78 k = 1) (hd : 1 ≤ d) : CX l K m12_back d [.ref 74, .int (nI k)] (hp I L R dy) (α := wI) (fun x => (∀ q, q ≠ 76 → q ≠ 74 → x q = I q) ∧ (∀ j, j ≠ 0 → j ≠ 1 → x 74 j = I 74 j) ∧ x 74 1 = 0 ∧ ∀ q, q < 10880 → x 76 q = I 77 (10880 * k + q)) (fun _ => .int 0) (fun x => hp x L R dy) := by
  refine CC.of ok12_back (Nat.le_of_ble_eq_true rfl) ?_
  refine g_aload_n d12_back_0 rfl ?_
  refine g_iconstv (nI 0) d12_back_1 rfl ?_
  refine g_putIh _ fl12_128 d12_back_2 f_74_0 s_74_0 ?_
  refine g_iload_n d12_back_5 rfl ?_
  refine g_i2lN (by omega) d12_back_6 ?_
  refine g_lconstv (0) d12_back_7 rfl ?_
  refine g_lconstv (1) d12_back_8 rfl ?_
  refine g_ES3 sm12_in ml12_134 (r12_inI (vi := ((k : Nat) : Int)) (ai := (0)) (bi := (1)) (pk_lT (by omega)) (by decide) (by decide) (Nat.le_refl 0)) (by omega) (Nat.le_of_ble_eq_true rfl) d12_back_9 ?_
  refine g_bnz 21 d12_back_12 rfl (fun _ => ?_) (fun c12 => absurd c12 (fun q => q (by omega)))
  refine g_aload_n d12_back_21 rfl ?_
  refine g_get fl12_19 d12_back_22 f_74_5 ?_
  refine g_iload_n d12_back_25 rfl ?_
  refine g_zaldN (k) d12_back_26 a_78 (rfl) (by omega) (by decide) ?_
  refine g_topI ((1 : Int32)) (h1) ?_
  refine g_iz_ne (1) 37 (by decide) d12_back_27 rfl (fun _ => ?_) (fun c27 => absurd c27 (by decide))
  refine g_iconstv (nI 0) d12_back_37 rfl ?_
  refine g_istore_n d12_back_38 (by decide) ?_
  refine g_lo [(0, .ref 74), (1, .int (nI (k))), (2, .int (nI (0)))] ⟨rfl, rfl, rfl, trivial⟩ ?_
  refine r12_baL (I := uI I 74 0 0) k hk (fun I3 hI3 hz3 => ?_) 10880 0 _ (by omega) (fun q _ => rfl) (fun q hq => by omega)
  refine g_aload_n d12_back_70 rfl ?_
  refine g_iconstv (nI 0) d12_back_71 rfl ?_
  refine g_EV1 vm12_tell ml12_138 c_74 (r12_tell_ok (by decide) (Nat.le_refl 0)) (by omega) (Nat.le_of_ble_eq_true rfl) d12_back_72 ?_
  exact g_iret rfl d12_back_75 (⟨_, ⟨fun q h1 h3 => by rw [uI_n h3, hI3 q h1, uI_n h3], fun j h1 h2 => by rw [uI_fn h2, hI3 74 (by decide), uI_fn h1], uI_ss, fun q hq => by rw [uI_n (by decide)]; exact hz3 q hq⟩, rfl, rfl⟩)
set_option maxHeartbeats 200000 in
theorem r12_feed_no {l : Launch} {K : cK} {d : Nat} {I : wI} {L : wL} {R : wR} {dy : cH} (t : Nat) (ht : I 74 8 = nI t) (ht4 : t ≤ 400) (hno : 400 < t + 20) (a b c e f : Int32) (hd : 1 ≤ d) : CE l K m12_feed d [.ref 74, .int a, .int b, .int c, .int e, .int f] (hp I L R dy) (.int (-1)) (hp (uI I 74 0 0) L R dy) := by
  refine CC.of ok12_feed (Nat.le_of_ble_eq_true rfl) ?_
  refine g_aload_n d12_feed_0 rfl ?_
  refine g_iconstv (nI 0) d12_feed_1 rfl ?_
  refine g_putIh _ fl12_128 d12_feed_2 f_74_0 s_74_0 ?_
  refine g_aload_n d12_feed_5 rfl ?_
  refine g_get fl12_179 d12_feed_6 f_74_8 ?_
  refine g_topI (nI (t)) (ht) ?_
  refine g_bipushv (nI 20) d12_feed_9 rfl ?_
  refine g_iaddN d12_feed_11 ?_
  refine g_sipushv (nI 400) d12_feed_12 rfl ?_
  refine g_ic_le (((t + 20) : Nat) : Int) (400) 20 (nI_ti (by omega)) (by decide) d12_feed_15 rfl (fun c15 => absurd c15 (by omega)) (fun _ => ?_)
  refine g_iconstv ((-1 : Int32)) d12_feed_18 rfl ?_
  exact g_iret rfl d12_feed_19 (⟨rfl, rfl⟩)
set_option maxHeartbeats 200000 in
theorem r12_feed_ok {l : Launch} {K : cK} {d : Nat} {I : wI} {L : wL} {R : wR} {dy : cH} (t : Nat) (ht : I 74 8 = nI t) (hok : t + 20 ≤ 400) (a b c e f : Int32) (hd : 1 ≤ d) : CE l K m12_feed d [.ref 74, .int a, .int b, .int c, .int e, .int f] (hp I L R dy) (.int (nI (t + 20))) (hp (fo (fo (fo (fo (fo (uI I 74 0 0) 79 74 8 (t + 0) a) 79 74 8 (t + 4) b) 79 74 8 (t + 8) c) 79 74 8 (t + 12) e) 79 74 8 (t + 16) f) L R dy) := by
  refine CC.of ok12_feed (Nat.le_of_ble_eq_true rfl) ?_
  refine g_aload_n d12_feed_0 rfl ?_
  refine g_iconstv (nI 0) d12_feed_1 rfl ?_
  refine g_putIh _ fl12_128 d12_feed_2 f_74_0 s_74_0 ?_
  refine g_aload_n d12_feed_5 rfl ?_
  refine g_get fl12_179 d12_feed_6 f_74_8 ?_
  refine g_topI (nI (t)) (ht) ?_
  refine g_bipushv (nI 20) d12_feed_9 rfl ?_
  refine g_iaddN d12_feed_11 ?_
  refine g_sipushv (nI 400) d12_feed_12 rfl ?_
  refine g_ic_le (((t + 20) : Nat) : Int) (400) 20 (nI_ti (by omega)) (by decide) d12_feed_15 rfl (fun _ => ?_) (fun c15 => absurd c15 (by omega))
  refine g_aload_n d12_feed_20 rfl ?_
  refine g_iload_n d12_feed_21 rfl ?_
  refine g_VV1 vm12_four ml12_185 c_74 (r12_four (I := uI I 74 0 0) (t + 0) (by exact ht) (by omega) a (Nat.le_refl 0)) (by omega) (Nat.le_of_ble_eq_true rfl) d12_feed_22 ?_
  refine g_aload_n d12_feed_25 rfl ?_
  refine g_iload_n d12_feed_26 rfl ?_
  refine g_VV1 vm12_four ml12_185 c_74 (r12_four (I := fo (uI I 74 0 0) 79 74 8 (t + 0) a) (t + 4) (by unfold fo; exact uI_ss) (by omega) b (Nat.le_refl 0)) (by omega) (Nat.le_of_ble_eq_true rfl) d12_feed_27 ?_
  refine g_aload_n d12_feed_30 rfl ?_
  refine g_iload_n d12_feed_31 rfl ?_
  refine g_VV1 vm12_four ml12_185 c_74 (r12_four (I := fo (fo (uI I 74 0 0) 79 74 8 (t + 0) a) 79 74 8 (t + 4) b) (t + 8) (by unfold fo; exact uI_ss) (by omega) c (Nat.le_refl 0)) (by omega) (Nat.le_of_ble_eq_true rfl) d12_feed_32 ?_
  refine g_aload_n d12_feed_35 rfl ?_
  refine g_iload d12_feed_36 rfl ?_
  refine g_VV1 vm12_four ml12_185 c_74 (r12_four (I := fo (fo (fo (uI I 74 0 0) 79 74 8 (t + 0) a) 79 74 8 (t + 4) b) 79 74 8 (t + 8) c) (t + 12) (by unfold fo; exact uI_ss) (by omega) e (Nat.le_refl 0)) (by omega) (Nat.le_of_ble_eq_true rfl) d12_feed_38 ?_
  refine g_aload_n d12_feed_41 rfl ?_
  refine g_iload d12_feed_42 rfl ?_
  refine g_VV1 vm12_four ml12_185 c_74 (r12_four (I := fo (fo (fo (fo (uI I 74 0 0) 79 74 8 (t + 0) a) 79 74 8 (t + 4) b) 79 74 8 (t + 8) c) 79 74 8 (t + 12) e) (t + 16) (by unfold fo; exact uI_ss) (by omega) f (Nat.le_refl 0)) (by omega) (Nat.le_of_ble_eq_true rfl) d12_feed_44 ?_
  refine g_aload_n d12_feed_47 rfl ?_
  refine g_get fl12_179 d12_feed_48 f_74_8 ?_
  refine g_topI (nI (t + 20)) (by unfold fo; exact uI_ss) ?_
  exact g_iret rfl d12_feed_51 (⟨rfl, rfl⟩)
