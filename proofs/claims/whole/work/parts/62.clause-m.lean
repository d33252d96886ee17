/-- a state of reading between expressions -/
def PS0 (I : wI) (L : wL) (tp : Nat → Nat) (t : Nat) (lw : Bool) (b pa f : Nat) : Prop := TPm I tp t ∧ TKm I L tp t f ∧ WN I L b ∧ I 74 14 = 0 ∧ I 74 15 = (if lw = true then 0 else 1) ∧ I 74 18 = nI b ∧ I 74 21 = nI pa
theorem PSt.p0 {I : wI} {L : wL} {tp : Nat → Nat} {t : Nat} {lw : Bool} {X : List (Nat × Nat)} {b pa br f : Nat} (h : PSt I L tp t lw X b pa br f) : PS0 I L tp t lw b pa f := ⟨h.1, h.2.1, h.2.2.1, h.2.2.2.1, h.2.2.2.2.1, h.2.2.2.2.2.1, h.2.2.2.2.2.2.1⟩
theorem PS0.st {I : wI} {L : wL} {tp : Nat → Nat} {t : Nat} {lw : Bool} {b pa f : Nat} (h : PS0 I L tp t lw b pa f) : PSt (uI (uI I 74 24 (nI 0)) 74 25 (nI 0)) L tp t lw [] b pa 0 f := ⟨h.1, h.2.1, h.2.2.1, h.2.2.2.1, h.2.2.2.2.1, h.2.2.2.2.2.1, h.2.2.2.2.2.2, rfl, rfl, trivial⟩
theorem PS0.nx {I I2 : wI} {L L2 : wL} {tp : Nat → Nat} {t : Nat} {lw : Bool} {b pa f f2 : Nat} (h : PS0 I L tp t lw b pa f) (hF : FR [] [9, 10, 11] [] [12] I L I2 L2) (hK : TKm I2 L2 tp t f2) : PS0 I2 L2 tp t lw b pa f2 := by
  obtain ⟨h1, h2, h3, h4, h5, h6, h7⟩ := h
  obtain ⟨a, b0, c, e⟩ := hF
  refine ⟨⟨h1.1, (b0 8 (by decide)).trans h1.2.1, ?_, h1.2.2.2⟩, hK, ?_, (b0 14 (by decide)).trans h4, (b0 15 (by decide)).trans h5, (b0 18 (by decide)).trans h6, (b0 21 (by decide)).trans h7⟩
  · rw [a 79 (by decide) (by decide)]; exact h1.2.2.1
  · refine ⟨?_, h3.2.1.cg (a 81 (by decide) (by decide)) (a 82 (by decide) (by decide)), (b0 13 (by decide)).trans h3.2.2⟩
    rw [c 85 (by decide) (by decide), c 86 (by decide) (by decide)]; exact h3.1
/-- nothing that reading needs has changed -/
theorem PS0.cg {I I2 : wI} {L : wL} {tp : Nat → Nat} {t : Nat} {lw : Bool} {b pa f : Nat} (h : PS0 I L tp t lw b pa f) (h79 : I2 79 = I 79) (h81 : I2 81 = I 81) (h82 : I2 82 = I 82) (hj : ∀ j, j ≠ 16 → I2 74 j = I 74 j) : PS0 I2 L tp t lw b pa f := by
  obtain ⟨h1, h2, h3, h4, h5, h6, h7⟩ := h
  refine ⟨⟨h1.1, (hj 8 (by decide)).trans h1.2.1, by rw [h79]; exact h1.2.2.1, h1.2.2.2⟩, ⟨h2.1, (hj 9 (by decide)).trans h2.2.1, (hj 10 (by decide)).trans h2.2.2.1, (hj 11 (by decide)).trans h2.2.2.2.1, h2.2.2.2.2⟩, ⟨h3.1, h3.2.1.cg h81 h82, (hj 13 (by decide)).trans h3.2.2⟩, (hj 14 (by decide)).trans h4, (hj 15 (by decide)).trans h5, (hj 18 (by decide)).trans h6, (hj 21 (by decide)).trans h7⟩
def d0 : Den := fun _ => none
def d1 : Den := fun _ => some 1
/-- an expression as it is read: a test or a sum -/
def pE (tp : Nat → Nat) (t : Nat) (lw te : Bool) (pa f : Nat) : Res := pz tp t lw 3300 (if te = true then 0 else 4) 0 pa f d0
theorem rx_end {l : Launch} {K : cK} {d : Nat} {R : wR} {dy : cH} {I : wI} {L : wL} {tp : Nat → Nat} {t : Nat} {lw : Bool} {b f : Nat} (hd : 2 ≤ d) {f1 p1 : Nat} {v1 : Den} (Q : Option Value → cH → Prop) (hQ : ∀ x : wI × wL × Nat, (fun x => PS0 x.1 x.2.1 tp t lw x.2.2 p1 f1 ∧ FP I L x.1 x.2.1 ∧ SG (opF x.1) (agF x.1) b x.2.2 v1 ∧ (∀ q, q < b → x.1 81 q = I 81 q ∧ x.1 82 q = I 82 q) ∧ x.2.2 + 1 ≤ f1 ∧ f < f1 ∧ p1 ≤ 50) x → Q none (hp x.1 x.2.1 R dy)) {I2 : wI} {L2 : wL} {Y : List (Nat × Nat)} {b1 br : Nat} (a1 : PSt I2 L2 tp t lw ([] ++ Y) b1 p1 br f1) (a2 : FP I L I2 L2) (a3 : ∀ q, q < b → I2 81 q = I 81 q ∧ I2 82 q = I 82 q) (a4 : PD (opF I2) (agF I2) Y b b1 v1) (a5 : BG 1 Y) (a6 : b1 + ([] : List (Nat × Nat)).length + Y.length + 1 ≤ f1) (a7 : f < f1) (a8 : p1 ≤ 50) :
    GL l K m12_readExpression d 0 0 76 [(0, .ref 74)] [] (hp I2 L2 R dy) Q := by
  have a6b : b1 + 0 + Y.length + 1 ≤ f1 := a6
  have hft := a1.2.1.1
  have ht4 := a1.1.1
  refine g_aload_n d12_readExpression_76 rfl ?_
  refine g_iconstv (nI 1) d12_readExpression_77 rfl ?_
  refine g_WV1 vm12_settle ml12_292 c_74 (r12_settle (I := I2) (R := R) [] Y 0 b 1 b1 (by decide) v1 (Or.inl rfl) (by have := a1.2.2.2.2.2.2.2.1; rw [this]; simp) a1.2.2.2.2.2.1 (by omega) a4 (PQ.pe Y a1.2.2.2.2.2.2.2.2.2 a5) a5 (Nat.le_refl 1)) (by omega) (Nat.le_of_ble_eq_true rfl) d12_readExpression_78 (fun y hy => ?_)
  exact g_vret rfl d12_readExpression_81 (hQ (y.1, L2, y.2) ⟨(PSt.st (X := []) a1 hy).p0, a2.tr (ST.fp hy), hy.2.2.2.2.2.2.1, fun q hq => ⟨(hy.2.2.2.2.2.2.2.1 q hq).1.trans (a3 q hq).1, (hy.2.2.2.2.2.2.2.1 q hq).2.trans (a3 q hq).2⟩, (by have := hy.2.2.2.2.2.1; show y.2 + 1 ≤ f1; omega), a7, a8⟩)
theorem rx_bad {l : Launch} {K : cK} {d : Nat} {R : wR} {dy : cH} {I : wI} {L : wL} (hd : 2 ≤ d) {e : Nat} (Q : Option Value → cH → Prop) (hQ : ∀ x : wI × wL, (x.1 74 14 = 1 ∧ x.1 74 13 = nI e ∧ FP I L x.1 x.2) → Q none (hp x.1 x.2 R dy)) {x : wI × wL} (hx : BSt I L e x) :
    GL l K m12_readExpression d 0 0 76 [(0, .ref 74)] [] (hp x.1 x.2 R dy) Q := by
  obtain ⟨h1, h2, h3, n, b, h4, h5, h6, h7⟩ := hx
  refine g_aload_n d12_readExpression_76 rfl ?_
  refine g_iconstv (nI 1) d12_readExpression_77 rfl ?_
  refine g_WV1 vm12_settle ml12_292 c_74 (r12_settleW (I := x.1) (R := R) n b 1 (by decide) h4 h5 h6 h7 (Nat.le_refl 1)) (by omega) (Nat.le_of_ble_eq_true rfl) d12_readExpression_78 (fun y hy => ?_)
  exact g_vret rfl d12_readExpression_81 (hQ (y, x.2) ⟨(hy.2 14 (by decide) (by decide)).trans h1, (hy.2 13 (by decide) (by decide)).trans h2, h3.tr ⟨fun k k1 k2 => hy.1 k (fun z => k1 (by subst z; decide)) (fun z => k1 (by subst z; decide)) k2, fun j j1 => hy.2 j (fun z => j1 (by subst z; decide)) (fun z => j1 (by subst z; decide)), fun _ _ _ => rfl, fun _ _ => rfl⟩⟩)
set_option maxHeartbeats 400000 in
theorem r12_rx_0y {l : Launch} {K : cK} {d : Nat} {I : wI} {L : wL} {R : wR} {dy : cH} (tp : Nat → Nat) (t : Nat) (lw : Bool) (b pa f : Nat) (hS : PS0 I L tp t lw b pa f) (hbf : b + 1 ≤ f) (hpa : pa ≤ 50) (f1 p1 : Nat) (v1 : Den) (hz : pE tp t lw false pa f = .inr (f1, p1, v1)) (hd : 6 ≤ d) : CW l K m12_readExpression d [.ref 74, .int (nI 0)] (hp I L R dy) (α := wI × wL × Nat) (fun x => PS0 x.1 x.2.1 tp t lw x.2.2 p1 f1 ∧ FP I L x.1 x.2.1 ∧ SG (opF x.1) (agF x.1) b x.2.2 v1 ∧ (∀ q, q < b → x.1 81 q = I 81 q ∧ x.1 82 q = I 82 q) ∧ x.2.2 + 1 ≤ f1 ∧ f < f1 ∧ p1 ≤ 50) (fun x => hp x.1 x.2.1 R dy) := by
  obtain ⟨g1, g2, g3, g4, g5, g6, g7⟩ := id hS
  have hnx := nxt_le (tp := tp) g2.1
  have ht4 := g1.1
  have hft := g2.1
  have hS2 := hS.st
  refine CC.of ok12_readExpression (Nat.le_of_ble_eq_true rfl) ?_
  refine g_aload_n d12_readExpression_0 rfl ?_
  refine g_iconstv (nI 0) d12_readExpression_1 rfl ?_
  refine g_putIh _ fl12_234 d12_readExpression_2 f_74_24 s_74_24 ?_
  refine g_aload_n d12_readExpression_5 rfl ?_
  refine g_iconstv (nI 0) d12_readExpression_6 rfl ?_
  refine g_putIh _ fl12_256 d12_readExpression_7 f_74_25 s_74_25 ?_
  refine g_iload_n d12_readExpression_10 rfl ?_
  refine g_iz_eq (0) 18 (by decide) d12_readExpression_11 rfl (fun _ => ?_) (fun c11 => absurd c11 (by decide))
  refine g_iconstv (nI 1) d12_readExpression_18 rfl ?_
  refine g_istore_n d12_readExpression_19 (by decide) ?_
  refine g_lo [(0, .ref 74), (1, .int (nI 0)), (2, .int (nI 1))] ⟨rfl, rfl, rfl, trivial⟩ ?_
  have hFP : FP I L (uI (uI I 74 24 (nI 0)) 74 25 (nI 0)) L := (FR.rf.uf (by decide)).uf (by decide)
  refine ((tS (te := nI 0) (tp := tp) (t := t) (lw := lw) (by omega) 3300).1) 0 pa f d0 _ L [] b 1 (by show 8 * (t - f) + 3 ≤ 3300; omega) hS2 (by show b + 0 + 1 ≤ f; omega) hpa (by decide) (Or.inl rfl) (Or.inl rfl) ?_
  have hz2 : pz tp t lw 3300 4 0 pa f d0 = _ := hz
  rw [hz2]
  intro I2 L2 Y b1 a1 a2 a3 a4 a5 a6 a7 a8 a9
  have hin : ibX ([] ++ Y) = 0 := ibX_BG [] Y.length Y rfl (a5.mono (by decide) Y)
  refine gx3e a1.2.2.2.1 (by omega) 4 (r12_bs_ov tp t lw [] Y b b1 p1 0 f1 v1 a1 1 a6 a9.1 a9.2 hin (Nat.le_refl 3)) (gxE a1.2.2.2.1 (rx_end (by omega) _ (fun x hx => ⟨x, hx, rfl, rfl⟩) a1 (hFP.tr a2) a3 a4 (a5.mono (by decide) Y) a6 a7 a8))
set_option maxHeartbeats 400000 in
theorem r12_rx_0n {l : Launch} {K : cK} {d : Nat} {I : wI} {L : wL} {R : wR} {dy : cH} (tp : Nat → Nat) (t : Nat) (lw : Bool) (b pa f : Nat) (hS : PS0 I L tp t lw b pa f) (hbf : b + 1 ≤ f) (hpa : pa ≤ 50) (e : Nat) (hz : pE tp t lw false pa f = .inl e) (hd : 6 ≤ d) : CW l K m12_readExpression d [.ref 74, .int (nI 0)] (hp I L R dy) (α := wI × wL) (fun x => x.1 74 14 = 1 ∧ x.1 74 13 = nI e ∧ FP I L x.1 x.2) (fun x => hp x.1 x.2 R dy) := by
  obtain ⟨g1, g2, g3, g4, g5, g6, g7⟩ := id hS
  have hnx := nxt_le (tp := tp) g2.1
  have ht4 := g1.1
  have hft := g2.1
  have hS2 := hS.st
  refine CC.of ok12_readExpression (Nat.le_of_ble_eq_true rfl) ?_
  refine g_aload_n d12_readExpression_0 rfl ?_
  refine g_iconstv (nI 0) d12_readExpression_1 rfl ?_
  refine g_putIh _ fl12_234 d12_readExpression_2 f_74_24 s_74_24 ?_
  refine g_aload_n d12_readExpression_5 rfl ?_
  refine g_iconstv (nI 0) d12_readExpression_6 rfl ?_
  refine g_putIh _ fl12_256 d12_readExpression_7 f_74_25 s_74_25 ?_
  refine g_iload_n d12_readExpression_10 rfl ?_
  refine g_iz_eq (0) 18 (by decide) d12_readExpression_11 rfl (fun _ => ?_) (fun c11 => absurd c11 (by decide))
  refine g_iconstv (nI 1) d12_readExpression_18 rfl ?_
  refine g_istore_n d12_readExpression_19 (by decide) ?_
  refine g_lo [(0, .ref 74), (1, .int (nI 0)), (2, .int (nI 1))] ⟨rfl, rfl, rfl, trivial⟩ ?_
  have hFP : FP I L (uI (uI I 74 24 (nI 0)) 74 25 (nI 0)) L := (FR.rf.uf (by decide)).uf (by decide)
  refine ((tS (te := nI 0) (tp := tp) (t := t) (lw := lw) (by omega) 3300).1) 0 pa f d0 _ L [] b 1 (by show 8 * (t - f) + 3 ≤ 3300; omega) hS2 (by show b + 0 + 1 ≤ f; omega) hpa (by decide) (Or.inl rfl) (Or.inl rfl) ?_
  have hz2 : pz tp t lw 3300 4 0 pa f d0 = _ := hz
  rw [hz2]
  exact fun x hx y => gxB hx.1 (rx_bad (by omega) _ (fun x hx => ⟨x, hx, rfl, rfl⟩) (hx.tr hFP))
set_option maxHeartbeats 400000 in
theorem r12_rx_1y {l : Launch} {K : cK} {d : Nat} {I : wI} {L : wL} {R : wR} {dy : cH} (tp : Nat → Nat) (t : Nat) (lw : Bool) (b pa f : Nat) (hS : PS0 I L tp t lw b pa f) (hbf : b + 1 ≤ f) (hpa : pa ≤ 50) (f1 p1 : Nat) (v1 : Den) (hz : pE tp t lw true pa f = .inr (f1, p1, v1)) (hd : 6 ≤ d) : CW l K m12_readExpression d [.ref 74, .int (nI 1)] (hp I L R dy) (α := wI × wL × Nat) (fun x => PS0 x.1 x.2.1 tp t lw x.2.2 p1 f1 ∧ FP I L x.1 x.2.1 ∧ SG (opF x.1) (agF x.1) b x.2.2 v1 ∧ (∀ q, q < b → x.1 81 q = I 81 q ∧ x.1 82 q = I 82 q) ∧ x.2.2 + 1 ≤ f1 ∧ f < f1 ∧ p1 ≤ 50) (fun x => hp x.1 x.2.1 R dy) := by
  obtain ⟨g1, g2, g3, g4, g5, g6, g7⟩ := id hS
  have hnx := nxt_le (tp := tp) g2.1
  have ht4 := g1.1
  have hft := g2.1
  have hS2 := hS.st
  refine CC.of ok12_readExpression (Nat.le_of_ble_eq_true rfl) ?_
  refine g_aload_n d12_readExpression_0 rfl ?_
  refine g_iconstv (nI 0) d12_readExpression_1 rfl ?_
  refine g_putIh _ fl12_234 d12_readExpression_2 f_74_24 s_74_24 ?_
  refine g_aload_n d12_readExpression_5 rfl ?_
  refine g_iconstv (nI 0) d12_readExpression_6 rfl ?_
  refine g_putIh _ fl12_256 d12_readExpression_7 f_74_25 s_74_25 ?_
  refine g_iload_n d12_readExpression_10 rfl ?_
  refine g_iz_eq (1) 18 (by decide) d12_readExpression_11 rfl (fun c11 => absurd c11 (by decide)) (fun _ => ?_)
  refine g_iconstv (nI 0) d12_readExpression_14 rfl ?_
  refine g_goto 19 d12_readExpression_15 rfl ?_
  refine g_istore_n d12_readExpression_19 (by decide) ?_
  refine g_lo [(0, .ref 74), (1, .int (nI 1)), (2, .int (nI 0))] ⟨rfl, rfl, rfl, trivial⟩ ?_
  have hFP : FP I L (uI (uI I 74 24 (nI 0)) 74 25 (nI 0)) L := (FR.rf.uf (by decide)).uf (by decide)
  refine ((tT (te := nI 1) (tp := tp) (t := t) (lw := lw) (by omega) rfl 3300).1) 0 pa f d0 _ L [] b 0 (by show 8 * (t - f) + 7 ≤ 3300; omega) hS2 (by show b + 0 + 1 ≤ f; omega) hpa (by decide) rfl (Or.inl rfl) (Or.inl rfl) ?_
  have hz2 : pz tp t lw 3300 0 0 pa f d0 = _ := hz
  rw [hz2]
  intro I2 L2 Y b1 a1 a2 a3 a4 a5 a6 a7 a8 a9
  have hin : ibX ([] ++ Y) = 0 := ibX_BG [] Y.length Y rfl (a5.mono (by decide) Y)
  refine gx2e a1.2.2.2.1 (by omega) 4 (r12_bt_ov tp t lw [] Y b b1 p1 0 f1 v1 a1 1 a6 a9.1 a9.2 hin (Nat.le_refl 3)) (gxE a1.2.2.2.1 (rx_end (by omega) _ (fun x hx => ⟨x, hx, rfl, rfl⟩) a1 (hFP.tr a2) a3 a4 (a5.mono (by decide) Y) a6 a7 a8))
set_option maxHeartbeats 400000 in
theorem r12_rx_1n {l : Launch} {K : cK} {d : Nat} {I : wI} {L : wL} {R : wR} {dy : cH} (tp : Nat → Nat) (t : Nat) (lw : Bool) (b pa f : Nat) (hS : PS0 I L tp t lw b pa f) (hbf : b + 1 ≤ f) (hpa : pa ≤ 50) (e : Nat) (hz : pE tp t lw true pa f = .inl e) (hd : 6 ≤ d) : CW l K m12_readExpression d [.ref 74, .int (nI 1)] (hp I L R dy) (α := wI × wL) (fun x => x.1 74 14 = 1 ∧ x.1 74 13 = nI e ∧ FP I L x.1 x.2) (fun x => hp x.1 x.2 R dy) := by
  obtain ⟨g1, g2, g3, g4, g5, g6, g7⟩ := id hS
  have hnx := nxt_le (tp := tp) g2.1
  have ht4 := g1.1
  have hft := g2.1
  have hS2 := hS.st
  refine CC.of ok12_readExpression (Nat.le_of_ble_eq_true rfl) ?_
  refine g_aload_n d12_readExpression_0 rfl ?_
  refine g_iconstv (nI 0) d12_readExpression_1 rfl ?_
  refine g_putIh _ fl12_234 d12_readExpression_2 f_74_24 s_74_24 ?_
  refine g_aload_n d12_readExpression_5 rfl ?_
  refine g_iconstv (nI 0) d12_readExpression_6 rfl ?_
  refine g_putIh _ fl12_256 d12_readExpression_7 f_74_25 s_74_25 ?_
  refine g_iload_n d12_readExpression_10 rfl ?_
  refine g_iz_eq (1) 18 (by decide) d12_readExpression_11 rfl (fun c11 => absurd c11 (by decide)) (fun _ => ?_)
  refine g_iconstv (nI 0) d12_readExpression_14 rfl ?_
  refine g_goto 19 d12_readExpression_15 rfl ?_
  refine g_istore_n d12_readExpression_19 (by decide) ?_
  refine g_lo [(0, .ref 74), (1, .int (nI 1)), (2, .int (nI 0))] ⟨rfl, rfl, rfl, trivial⟩ ?_
  have hFP : FP I L (uI (uI I 74 24 (nI 0)) 74 25 (nI 0)) L := (FR.rf.uf (by decide)).uf (by decide)
  refine ((tT (te := nI 1) (tp := tp) (t := t) (lw := lw) (by omega) rfl 3300).1) 0 pa f d0 _ L [] b 0 (by show 8 * (t - f) + 7 ≤ 3300; omega) hS2 (by show b + 0 + 1 ≤ f; omega) hpa (by decide) rfl (Or.inl rfl) (Or.inl rfl) ?_
  have hz2 : pz tp t lw 3300 0 0 pa f d0 = _ := hz
  rw [hz2]
  exact fun x hx y => gxB hx.1 (rx_bad (by omega) _ (fun x hx => ⟨x, hx, rfl, rfl⟩) (hx.tr hFP))
/-- a clause's head: 0 none -/
def hdK (tp : Nat → Nat) (t f : Nat) (lw : Bool) : Nat := if lw = true then (if iw tp t f 3650739 then 1 else if iw tp t f 6600883 then 2 else if iw tp t f 654362803 then 3 else 0) else (if iw tp t f 21252599 then 1 else 0)
theorem hdK_le (tp : Nat → Nat) (t f : Nat) (lw : Bool) : hdK tp t f lw ≤ 3 := by unfold hdK; repeat (first | omega | split)
theorem hdK_kd {tp : Nat → Nat} {t f : Nat} {lw : Bool} (h : hdK tp t f lw ≠ 0) : kd tp t f ≠ 0 := by
  intro z
  have n : ∀ w, ¬ iw tp t f w := fun w h => by have := h.1; omega
  apply h; unfold hdK; simp [n]
set_option maxHeartbeats 200000 in
theorem r12_headAt {l : Launch} {K : cK} {d : Nat} {I : wI} {L : wL} {R : wR} {dy : cH} (tp : Nat → Nat) (t : Nat) (lw : Bool) (b pa f : Nat) (hS : PS0 I L tp t lw b pa f) (hd : 1 ≤ d) : CE l K m12_headAt d [.ref 74] (hp I L R dy) (.int (mkI (hdK tp t f lw))) (hp I L R dy) := by
  obtain ⟨g1, g2, g3, g4, g5, g6, g7⟩ := id hS
  have hnx := nxt_le (tp := tp) g2.1
  have ht4 := g1.1
  have hft := g2.1
  refine CC.of ok12_headAt (Nat.le_of_ble_eq_true rfl) ?_
  cases lw
  · skip
    refine g_aload_n d12_headAt_0 rfl ?_
    refine g_get fl12_271 d12_headAt_1 f_74_15 ?_
    refine g_topI ((1 : Int32)) (g5) ?_
    refine g_iz_eq (1) 23 (by decide) d12_headAt_4 rfl (fun c4 => absurd c4 (by decide)) (fun _ => ?_)
    refine g_aload_n d12_headAt_7 rfl ?_
    refine g_ldc2 d12_headAt_8 kl12_316 ?_
    refine g_EV1 vm12_isWord ml12_252 c_74 (r12_isWord tp t f hS.1 hS.2.1 21252599 (by decide) (Nat.le_refl 0)) (by omega) (Nat.le_of_ble_eq_true rfl) d12_headAt_11 ?_
    refine g_bz 21 d12_headAt_14 rfl (fun c14 => ?_) (fun c14 => ?_)
    · refine g_iconstv ((-1 : Int32)) d12_headAt_21 rfl ?_
      exact g_iret rfl d12_headAt_22 (⟨congrArg (fun z => some (Value.int z)) (by unfold hdK; first | (rw [if_neg (by decide), if_pos c14]; rfl) | (rw [if_neg (by decide), if_neg c14]; rfl)), rfl⟩)
    · refine g_iconstv (nI 0) d12_headAt_17 rfl ?_
      refine g_goto 22 d12_headAt_18 rfl ?_
      exact g_iret rfl d12_headAt_22 (⟨congrArg (fun z => some (Value.int z)) (by unfold hdK; first | (rw [if_neg (by decide), if_pos c14]; rfl) | (rw [if_neg (by decide), if_neg c14]; rfl)), rfl⟩)
  · skip
    refine g_aload_n d12_headAt_0 rfl ?_
    refine g_get fl12_271 d12_headAt_1 f_74_15 ?_
    refine g_topI ((0 : Int32)) (g5) ?_
    refine g_iz_eq (0) 23 (by decide) d12_headAt_4 rfl (fun _ => ?_) (fun c4 => absurd c4 (by decide))
    refine g_aload_n d12_headAt_23 rfl ?_
    refine g_ldc2 d12_headAt_24 kl12_318 ?_
    refine g_EV1 vm12_isWord ml12_252 c_74 (r12_isWord tp t f hS.1 hS.2.1 3650739 (by decide) (Nat.le_refl 0)) (by omega) (Nat.le_of_ble_eq_true rfl) d12_headAt_27 ?_
    refine g_bz 37 d12_headAt_30 rfl (fun c30 => ?_) (fun c30 => ?_)
    · refine g_aload_n d12_headAt_37 rfl ?_
      refine g_ldc2 d12_headAt_38 kl12_320 ?_
      refine g_EV1 vm12_isWord ml12_252 c_74 (r12_isWord tp t f hS.1 hS.2.1 6600883 (by decide) (Nat.le_refl 0)) (by omega) (Nat.le_of_ble_eq_true rfl) d12_headAt_41 ?_
      refine g_bz 51 d12_headAt_44 rfl (fun c44 => ?_) (fun c44 => ?_)
      · refine g_aload_n d12_headAt_51 rfl ?_
        refine g_ldc2 d12_headAt_52 kl12_322 ?_
        refine g_EV1 vm12_isWord ml12_252 c_74 (r12_isWord tp t f hS.1 hS.2.1 654362803 (by decide) (Nat.le_refl 0)) (by omega) (Nat.le_of_ble_eq_true rfl) d12_headAt_55 ?_
        refine g_bz 65 d12_headAt_58 rfl (fun c58 => ?_) (fun c58 => ?_)
        · refine g_iconstv ((-1 : Int32)) d12_headAt_65 rfl ?_
          exact g_iret rfl d12_headAt_66 (⟨congrArg (fun z => some (Value.int z)) (by unfold hdK; rw [if_pos rfl]; first | (rw [if_pos c30]; rfl) | (rw [if_neg c30, if_pos c44]; rfl) | (rw [if_neg c30, if_neg c44, if_pos c58]; rfl) | (rw [if_neg c30, if_neg c44, if_neg c58]; rfl)), rfl⟩)
        · refine g_iconstv (nI 2) d12_headAt_61 rfl ?_
          refine g_goto 66 d12_headAt_62 rfl ?_
          exact g_iret rfl d12_headAt_66 (⟨congrArg (fun z => some (Value.int z)) (by unfold hdK; rw [if_pos rfl]; first | (rw [if_pos c30]; rfl) | (rw [if_neg c30, if_pos c44]; rfl) | (rw [if_neg c30, if_neg c44, if_pos c58]; rfl) | (rw [if_neg c30, if_neg c44, if_neg c58]; rfl)), rfl⟩)
      · refine g_iconstv (nI 1) d12_headAt_47 rfl ?_
        refine g_goto 66 d12_headAt_48 rfl ?_
        exact g_iret rfl d12_headAt_66 (⟨congrArg (fun z => some (Value.int z)) (by unfold hdK; rw [if_pos rfl]; first | (rw [if_pos c30]; rfl) | (rw [if_neg c30, if_pos c44]; rfl) | (rw [if_neg c30, if_neg c44, if_pos c58]; rfl) | (rw [if_neg c30, if_neg c44, if_neg c58]; rfl)), rfl⟩)
    · refine g_iconstv (nI 0) d12_headAt_33 rfl ?_
      refine g_goto 66 d12_headAt_34 rfl ?_
      exact g_iret rfl d12_headAt_66 (⟨congrArg (fun z => some (Value.int z)) (by unfold hdK; rw [if_pos rfl]; first | (rw [if_pos c30]; rfl) | (rw [if_neg c30, if_pos c44]; rfl) | (rw [if_neg c30, if_neg c44, if_pos c58]; rfl) | (rw [if_neg c30, if_neg c44, if_neg c58]; rfl)), rfl⟩)
