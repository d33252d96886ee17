abbrev Cl : Type := Nat × Den × Den
/-- a clause as it is read -/
def pcl (tp : Nat → Nat) (t : Nat) (lw : Bool) (nc pa f : Nat) : Nat ⊕ (Nat × Nat × Cl) := if hdK tp t f lw = 0 ∨ 12 ≤ nc then .inl f else
  match (if hdK tp t f lw = 3 then (.inr (nxt tp t f, pa, d1) : Res) else pE tp t lw false pa (nxt tp t f)) with
  | .inl e => .inl e
  | .inr (f2, p2, v2) => if iw tp t f2 294 then (match pE tp t lw true p2 (nxt tp t f2) with
    | .inl e => .inl e
    | .inr (f3, p3, v3) => .inr (f3, p3, (hdK tp t f lw - 1, v2, v3))) else .inr (f2, p2, (hdK tp t f lw - 1, v2, d1))
/-- a clause's code means it -/
def clM (op arg : Nat → Nat) (s1 s2 t2 : Nat) (c : Cl) : Prop := c.1 ≤ 2 ∧ s1 ≤ s2 ∧ s2 ≤ t2 ∧ (c.1 ≠ 2 → SG op arg s1 s2 c.2.1) ∧ (c.1 = 2 → c.2.1 = d1) ∧ (s2 = t2 ∧ c.2.2 = d1 ∨ SG op arg s2 t2 c.2.2)
abbrev FC (I : wI) (L : wL) (I2 : wI) (L2 : wL) : Prop := FR [80, 81, 82, 83, 84] [9, 10, 11, 13, 14, 16, 18, 21, 24, 25] [] [12] I L I2 L2
/-- what a read clause leaves -/
def CP (I : wI) (L : wL) (tp : Nat → Nat) (t : Nat) (lw : Bool) (nc b f : Nat) (r : Nat ⊕ (Nat × Nat × Cl)) (x : wI × wL × Nat) : Prop := match r with
  | .inl e => x.1 74 14 = 1 ∧ x.1 74 13 = nI e ∧ FC I L x.1 x.2.1
  | .inr (f1, p1, c) => PS0 x.1 x.2.1 tp t lw x.2.2 p1 f1 ∧ x.1 74 16 = nI (nc + 1) ∧ FC I L x.1 x.2.1 ∧ (∀ q, q < b → x.1 81 q = I 81 q ∧ x.1 82 q = I 82 q) ∧ (∀ q, q < 8 * nc → x.1 80 q = I 80 q) ∧ b ≤ x.2.2 ∧ x.2.2 + 1 ≤ f1 ∧ f < f1 ∧ p1 ≤ 50 ∧ ∃ s2, x.1 80 (8 * nc) = nI c.1 ∧ x.1 80 (8 * nc + 3) = nI b ∧ x.1 80 (8 * nc + 4) = nI s2 ∧ x.1 80 (8 * nc + 5) = nI s2 ∧ x.1 80 (8 * nc + 6) = nI x.2.2 ∧ clM (opF x.1) (agF x.1) b s2 x.2.2 c
set_option maxHeartbeats 400000 in
theorem r12_cb_0 {l : Launch} {K : cK} {d : Nat} {I : wI} {L : wL} {R : wR} {dy : cH} {Q : Option Value → cH → Prop} (tp : Nat → Nat) (t : Nat) (lw : Bool) (b pa f : Nat) (hS : PS0 I L tp t lw b pa f) (nc : Nat) (hnc : nc < 12) (hif : ¬ iw tp t f 294) (hd : 8 ≤ d) (kk : Q none (hp (uI (uI (uI I 80 (8 * nc + 4) (nI b)) 80 (8 * nc + 5) (nI b)) 80 (8 * nc + 6) (nI b)) L R dy)) : GL l K m12_readClause d 0 0 106 [(0, .ref 74), (2, .int (nI (8 * nc)))] [] (hp I L R dy) Q := by
  obtain ⟨g1, g2, g3, g4, g5, g6, g7⟩ := id hS
  have hnx := nxt_le (tp := tp) g2.1
  have ht4 := g1.1
  have hft := g2.1
  have hte := (tE_le (tp := tp) g2.1).1
  refine g_aload_n d12_readClause_106 rfl ?_
  refine g_get fl12_30 d12_readClause_107 f_74_17 ?_
  refine g_iload_n d12_readClause_110 rfl ?_
  refine g_iconstv (nI 4) d12_readClause_111 rfl ?_
  refine g_iaddN d12_readClause_112 ?_
  refine g_aload_n d12_readClause_113 rfl ?_
  refine g_get fl12_231 d12_readClause_114 f_74_18 ?_
  refine g_topI (nI (b)) (g6) ?_
  refine g_iastN (((8 * nc) + 4)) _ d12_readClause_117 a_80 (rfl) (by omega) (by decide) t_80 ?_
  refine g_aload_n d12_readClause_118 rfl ?_
  refine g_get fl12_30 d12_readClause_119 f_74_17 ?_
  refine g_iload_n d12_readClause_122 rfl ?_
  refine g_iconstv (nI 5) d12_readClause_123 rfl ?_
  refine g_iaddN d12_readClause_124 ?_
  refine g_aload_n d12_readClause_125 rfl ?_
  refine g_get fl12_231 d12_readClause_126 f_74_18 ?_
  refine g_topI (nI (b)) (g6) ?_
  refine g_iastN (((8 * nc) + 5)) _ d12_readClause_129 a_80 (rfl) (by omega) (by decide) t_80 ?_
  refine g_aload_n d12_readClause_130 rfl ?_
  refine g_get fl12_192 d12_readClause_131 f_74_14 ?_
  refine g_topI ((0 : Int32)) (g4) ?_
  refine g_iz_ne (0) 156 (by decide) d12_readClause_134 rfl (fun c134 => absurd c134 (by decide)) (fun _ => ?_)
  refine g_aload_n d12_readClause_137 rfl ?_
  refine g_ldc2 d12_readClause_138 kl12_333 ?_
  refine g_EV1 vm12_isWord ml12_252 c_74 (r12_isWord (I := (uI (uI I 80 (8 * nc + 4) (nI b)) 80 (8 * nc + 5) (nI b))) tp t f (by exact g1) (by exact g2) 294 (by decide) (Nat.le_refl 0)) (by omega) (Nat.le_of_ble_eq_true rfl) d12_readClause_141 ?_
  refine g_bz 156 d12_readClause_144 rfl (fun _ => ?_) (fun c144 => absurd c144 (hif))
  refine g_aload_n d12_readClause_156 rfl ?_
  refine g_get fl12_30 d12_readClause_157 f_74_17 ?_
  refine g_iload_n d12_readClause_160 rfl ?_
  refine g_bipushv (nI 6) d12_readClause_161 rfl ?_
  refine g_iaddN d12_readClause_163 ?_
  refine g_aload_n d12_readClause_164 rfl ?_
  refine g_get fl12_231 d12_readClause_165 f_74_18 ?_
  refine g_topI (nI (b)) (g6) ?_
  refine g_iastN (((8 * nc) + 6)) _ d12_readClause_168 a_80 (rfl) (by omega) (by decide) t_80 ?_
  exact g_vret rfl d12_readClause_169 (kk)
set_option maxHeartbeats 400000 in
theorem r12_cb_y {l : Launch} {K : cK} {d : Nat} {I : wI} {L : wL} {R : wR} {dy : cH} {Q : Option Value → cH → Prop} (tp : Nat → Nat) (t : Nat) (lw : Bool) (b pa f : Nat) (hS : PS0 I L tp t lw b pa f) (nc : Nat) (hnc : nc < 12) (hbf : b ≤ f) (hpa : pa ≤ 50) (hif : iw tp t f 294) (f3 p3 : Nat) (v3 : Den) (hz : pE tp t lw true pa (nxt tp t f) = .inr (f3, p3, v3)) (hd : 8 ≤ d) (kk : ∀ y : wI × wL × Nat, PS0 y.1 y.2.1 tp t lw y.2.2 p3 f3 → FP (uI (uI I 80 (8 * nc + 4) (nI b)) 80 (8 * nc + 5) (nI b)) L y.1 y.2.1 → SG (opF y.1) (agF y.1) b y.2.2 v3 → (∀ q, q < b → y.1 81 q = I 81 q ∧ y.1 82 q = I 82 q) → y.2.2 + 1 ≤ f3 → f < f3 → p3 ≤ 50 → Q none (hp (uI y.1 80 (8 * nc + 6) (nI y.2.2)) y.2.1 R dy)) : GL l K m12_readClause d 0 0 106 [(0, .ref 74), (2, .int (nI (8 * nc)))] [] (hp I L R dy) Q := by
  obtain ⟨g1, g2, g3, g4, g5, g6, g7⟩ := id hS
  have hnx := nxt_le (tp := tp) g2.1
  have ht4 := g1.1
  have hft := g2.1
  have hte := (tE_le (tp := tp) g2.1).1
  have hlt := hnx.2.2 (by rw [hif.1]; decide)
  refine g_aload_n d12_readClause_106 rfl ?_
  refine g_get fl12_30 d12_readClause_107 f_74_17 ?_
  refine g_iload_n d12_readClause_110 rfl ?_
  refine g_iconstv (nI 4) d12_readClause_111 rfl ?_
  refine g_iaddN d12_readClause_112 ?_
  refine g_aload_n d12_readClause_113 rfl ?_
  refine g_get fl12_231 d12_readClause_114 f_74_18 ?_
  refine g_topI (nI (b)) (g6) ?_
  refine g_iastN (((8 * nc) + 4)) _ d12_readClause_117 a_80 (rfl) (by omega) (by decide) t_80 ?_
  refine g_aload_n d12_readClause_118 rfl ?_
  refine g_get fl12_30 d12_readClause_119 f_74_17 ?_
  refine g_iload_n d12_readClause_122 rfl ?_
  refine g_iconstv (nI 5) d12_readClause_123 rfl ?_
  refine g_iaddN d12_readClause_124 ?_
  refine g_aload_n d12_readClause_125 rfl ?_
  refine g_get fl12_231 d12_readClause_126 f_74_18 ?_
  refine g_topI (nI (b)) (g6) ?_
  refine g_iastN (((8 * nc) + 5)) _ d12_readClause_129 a_80 (rfl) (by omega) (by decide) t_80 ?_
  refine g_aload_n d12_readClause_130 rfl ?_
  refine g_get fl12_192 d12_readClause_131 f_74_14 ?_
  refine g_topI ((0 : Int32)) (g4) ?_
  refine g_iz_ne (0) 156 (by decide) d12_readClause_134 rfl (fun c134 => absurd c134 (by decide)) (fun _ => ?_)
  refine g_aload_n d12_readClause_137 rfl ?_
  refine g_ldc2 d12_readClause_138 kl12_333 ?_
  refine g_EV1 vm12_isWord ml12_252 c_74 (r12_isWord (I := (uI (uI I 80 (8 * nc + 4) (nI b)) 80 (8 * nc + 5) (nI b))) tp t f (by exact g1) (by exact g2) 294 (by decide) (Nat.le_refl 0)) (by omega) (Nat.le_of_ble_eq_true rfl) d12_readClause_141 ?_
  refine g_bz 156 d12_readClause_144 rfl (fun c144 => absurd (hif) c144) (fun _ => ?_)
  refine g_aload_n d12_readClause_147 rfl ?_
  refine g_WV0 vm12_next ml12_196 c_74 (r12_next (I := (uI (uI I 80 (8 * nc + 4) (nI b)) 80 (8 * nc + 5) (nI b))) tp t (by exact g1) (tE tp t f) (by exact g2.2.2.1) (tE_le hft).2.1 (Nat.le_refl 1)) (by omega) (Nat.le_of_ble_eq_true rfl) d12_readClause_148 (fun x hx => ?_)
  have hS3 : PS0 x.1 x.2 tp t lw b pa (nxt tp t f) := (hS.cg (I2 := (uI (uI I 80 (8 * nc + 4) (nI b)) 80 (8 * nc + 5) (nI b))) rfl rfl rfl (fun j _ => rfl)).nx hx.1 hx.2
  have hxF : FP (uI (uI I 80 (8 * nc + 4) (nI b)) 80 (8 * nc + 5) (nI b)) L x.1 x.2 := hx.1.up (by decide) (by decide) (by decide) (by decide)
  refine g_aload_n d12_readClause_151 rfl ?_
  refine g_iconstv (nI 1) d12_readClause_152 rfl ?_
  refine g_WV1 vm12_readExpression ml12_330 c_74 (r12_rx_1y (I := x.1) (L := x.2) tp t lw b pa (nxt tp t f) hS3 (by omega) hpa f3 p3 v3 hz (Nat.le_refl 6)) (by omega) (Nat.le_of_ble_eq_true rfl) d12_readClause_153 (fun y hy => ?_)
  obtain ⟨y1, y2, y3, y4, y5, y6, y7⟩ := hy
  refine g_aload_n d12_readClause_156 rfl ?_
  refine g_get fl12_30 d12_readClause_157 f_74_17 ?_
  refine g_iload_n d12_readClause_160 rfl ?_
  refine g_bipushv (nI 6) d12_readClause_161 rfl ?_
  refine g_iaddN d12_readClause_163 ?_
  refine g_aload_n d12_readClause_164 rfl ?_
  refine g_get fl12_231 d12_readClause_165 f_74_18 ?_
  refine g_topI (nI (y.2.2)) (y1.2.2.2.2.2.1) ?_
  refine g_iastN (((8 * nc) + 6)) _ d12_readClause_168 a_80 (rfl) (by omega) (by decide) t_80 ?_
  exact g_vret rfl d12_readClause_169 (kk y y1 (hxF.tr y2) y3 (fun q hq => ⟨(y4 q hq).1.trans (congrFun (hx.1.1 81 (by decide) (by decide)) q), (y4 q hq).2.trans (congrFun (hx.1.1 82 (by decide) (by decide)) q)⟩) y5 (by omega) y7)
set_option maxHeartbeats 400000 in
theorem r12_cb_n {l : Launch} {K : cK} {d : Nat} {I : wI} {L : wL} {R : wR} {dy : cH} {Q : Option Value → cH → Prop} (tp : Nat → Nat) (t : Nat) (lw : Bool) (b pa f : Nat) (hS : PS0 I L tp t lw b pa f) (nc : Nat) (hnc : nc < 12) (hbf : b ≤ f) (hpa : pa ≤ 50) (hif : iw tp t f 294) (e : Nat) (hz : pE tp t lw true pa (nxt tp t f) = .inl e) (hd : 8 ≤ d) (kk : ∀ y : wI × wL, ∀ z : Int32, y.1 74 14 = 1 → y.1 74 13 = nI e → FP (uI (uI I 80 (8 * nc + 4) (nI b)) 80 (8 * nc + 5) (nI b)) L y.1 y.2 → Q none (hp (uI y.1 80 (8 * nc + 6) z) y.2 R dy)) : GL l K m12_readClause d 0 0 106 [(0, .ref 74), (2, .int (nI (8 * nc)))] [] (hp I L R dy) Q := by
  obtain ⟨g1, g2, g3, g4, g5, g6, g7⟩ := id hS
  have hnx := nxt_le (tp := tp) g2.1
  have ht4 := g1.1
  have hft := g2.1
  have hte := (tE_le (tp := tp) g2.1).1
  have hlt := hnx.2.2 (by rw [hif.1]; decide)
  refine g_aload_n d12_readClause_106 rfl ?_
  refine g_get fl12_30 d12_readClause_107 f_74_17 ?_
  refine g_iload_n d12_readClause_110 rfl ?_
  refine g_iconstv (nI 4) d12_readClause_111 rfl ?_
  refine g_iaddN d12_readClause_112 ?_
  refine g_aload_n d12_readClause_113 rfl ?_
  refine g_get fl12_231 d12_readClause_114 f_74_18 ?_
  refine g_topI (nI (b)) (g6) ?_
  refine g_iastN (((8 * nc) + 4)) _ d12_readClause_117 a_80 (rfl) (by omega) (by decide) t_80 ?_
  refine g_aload_n d12_readClause_118 rfl ?_
  refine g_get fl12_30 d12_readClause_119 f_74_17 ?_
  refine g_iload_n d12_readClause_122 rfl ?_
  refine g_iconstv (nI 5) d12_readClause_123 rfl ?_
  refine g_iaddN d12_readClause_124 ?_
  refine g_aload_n d12_readClause_125 rfl ?_
  refine g_get fl12_231 d12_readClause_126 f_74_18 ?_
  refine g_topI (nI (b)) (g6) ?_
  refine g_iastN (((8 * nc) + 5)) _ d12_readClause_129 a_80 (rfl) (by omega) (by decide) t_80 ?_
  refine g_aload_n d12_readClause_130 rfl ?_
  refine g_get fl12_192 d12_readClause_131 f_74_14 ?_
  refine g_topI ((0 : Int32)) (g4) ?_
  refine g_iz_ne (0) 156 (by decide) d12_readClause_134 rfl (fun c134 => absurd c134 (by decide)) (fun _ => ?_)
  refine g_aload_n d12_readClause_137 rfl ?_
  refine g_ldc2 d12_readClause_138 kl12_333 ?_
  refine g_EV1 vm12_isWord ml12_252 c_74 (r12_isWord (I := (uI (uI I 80 (8 * nc + 4) (nI b)) 80 (8 * nc + 5) (nI b))) tp t f (by exact g1) (by exact g2) 294 (by decide) (Nat.le_refl 0)) (by omega) (Nat.le_of_ble_eq_true rfl) d12_readClause_141 ?_
  refine g_bz 156 d12_readClause_144 rfl (fun c144 => absurd (hif) c144) (fun _ => ?_)
  refine g_aload_n d12_readClause_147 rfl ?_
  refine g_WV0 vm12_next ml12_196 c_74 (r12_next (I := (uI (uI I 80 (8 * nc + 4) (nI b)) 80 (8 * nc + 5) (nI b))) tp t (by exact g1) (tE tp t f) (by exact g2.2.2.1) (tE_le hft).2.1 (Nat.le_refl 1)) (by omega) (Nat.le_of_ble_eq_true rfl) d12_readClause_148 (fun x hx => ?_)
  have hS3 : PS0 x.1 x.2 tp t lw b pa (nxt tp t f) := (hS.cg (I2 := (uI (uI I 80 (8 * nc + 4) (nI b)) 80 (8 * nc + 5) (nI b))) rfl rfl rfl (fun j _ => rfl)).nx hx.1 hx.2
  have hxF : FP (uI (uI I 80 (8 * nc + 4) (nI b)) 80 (8 * nc + 5) (nI b)) L x.1 x.2 := hx.1.up (by decide) (by decide) (by decide) (by decide)
  refine g_aload_n d12_readClause_151 rfl ?_
  refine g_iconstv (nI 1) d12_readClause_152 rfl ?_
  refine g_WV1 vm12_readExpression ml12_330 c_74 (r12_rx_1n (I := x.1) (L := x.2) tp t lw b pa (nxt tp t f) hS3 (by omega) hpa e hz (Nat.le_refl 6)) (by omega) (Nat.le_of_ble_eq_true rfl) d12_readClause_153 (fun y hy => ?_)
  obtain ⟨y1, y2, y3⟩ := hy
  refine g_aload_n d12_readClause_156 rfl ?_
  refine g_get fl12_30 d12_readClause_157 f_74_17 ?_
  refine g_iload_n d12_readClause_160 rfl ?_
  refine g_bipushv (nI 6) d12_readClause_161 rfl ?_
  refine g_iaddN d12_readClause_163 ?_
  refine g_aload_n d12_readClause_164 rfl ?_
  refine g_get fl12_231 d12_readClause_165 f_74_18 ?_
  refine g_topI (y.1 74 18) (rfl) ?_
  refine g_iastN (((8 * nc) + 6)) _ d12_readClause_168 a_80 (rfl) (by omega) (by decide) t_80 ?_
  exact g_vret rfl d12_readClause_169 (kk y _ y1 y2 (hxF.tr y3))
set_option maxHeartbeats 400000 in
theorem r12_cb_b {l : Launch} {K : cK} {d : Nat} {I : wI} {L : wL} {R : wR} {dy : cH} {Q : Option Value → cH → Prop} (nc : Nat) (hnc : nc < 12) (h14 : I 74 14 = 1) (kk : ∀ z : Int32, Q none (hp (uI (uI (uI I 80 (8 * nc + 4) z) 80 (8 * nc + 5) z) 80 (8 * nc + 6) z) L R dy)) : GL l K m12_readClause d 0 0 106 [(0, .ref 74), (2, .int (nI (8 * nc)))] [] (hp I L R dy) Q := by
  refine g_aload_n d12_readClause_106 rfl ?_
  refine g_get fl12_30 d12_readClause_107 f_74_17 ?_
  refine g_iload_n d12_readClause_110 rfl ?_
  refine g_iconstv (nI 4) d12_readClause_111 rfl ?_
  refine g_iaddN d12_readClause_112 ?_
  refine g_aload_n d12_readClause_113 rfl ?_
  refine g_get fl12_231 d12_readClause_114 f_74_18 ?_
  refine g_iastN (((8 * nc) + 4)) _ d12_readClause_117 a_80 (rfl) (by omega) (by decide) t_80 ?_
  refine g_aload_n d12_readClause_118 rfl ?_
  refine g_get fl12_30 d12_readClause_119 f_74_17 ?_
  refine g_iload_n d12_readClause_122 rfl ?_
  refine g_iconstv (nI 5) d12_readClause_123 rfl ?_
  refine g_iaddN d12_readClause_124 ?_
  refine g_aload_n d12_readClause_125 rfl ?_
  refine g_get fl12_231 d12_readClause_126 f_74_18 ?_
  refine g_topI (I 74 (18)) rfl ?_
  refine g_iastN (((8 * nc) + 5)) _ d12_readClause_129 a_80 (rfl) (by omega) (by decide) t_80 ?_
  refine g_aload_n d12_readClause_130 rfl ?_
  refine g_get fl12_192 d12_readClause_131 f_74_14 ?_
  refine g_topI ((1 : Int32)) (h14) ?_
  refine g_iz_ne (1) 156 (by decide) d12_readClause_134 rfl (fun _ => ?_) (fun c134 => absurd c134 (by decide))
  refine g_aload_n d12_readClause_156 rfl ?_
  refine g_get fl12_30 d12_readClause_157 f_74_17 ?_
  refine g_iload_n d12_readClause_160 rfl ?_
  refine g_bipushv (nI 6) d12_readClause_161 rfl ?_
  refine g_iaddN d12_readClause_163 ?_
  refine g_aload_n d12_readClause_164 rfl ?_
  refine g_get fl12_231 d12_readClause_165 f_74_18 ?_
  refine g_topI (I 74 (18)) rfl ?_
  refine g_iastN (((8 * nc) + 6)) _ d12_readClause_168 a_80 (rfl) (by omega) (by decide) t_80 ?_
  exact g_vret rfl d12_readClause_169 (kk (I 74 18))
set_option maxHeartbeats 400000 in
theorem r12_clz {l : Launch} {K : cK} {d : Nat} {I : wI} {L : wL} {R : wR} {dy : cH} {Q : Option Value → cH → Prop} (nc : Nat) (hnc : nc < 12) (x : Int32)
    (kk : ∀ (I3 : wI), (∀ c, c ≠ 80 → I3 c = I c) → (∀ q, q < 8 * nc → I3 80 q = I 80 q) → GL l K m12_readClause d 0 0 67 [(0, .ref 74), (1, .int x), (2, .int (nI (8 * nc)))] [] (hp I3 L R dy) Q) :
    ∀ (zn k : Nat) (I2 : wI), k + zn = 8 → (∀ c, c ≠ 80 → I2 c = I c) → (∀ q, q < 8 * nc → I2 80 q = I 80 q) → GL l K m12_readClause d 0 0 46 [(0, .ref 74), (1, .int x), (2, .int (nI (8 * nc))), (3, .int (nI (k)))] [] (hp I2 L R dy) Q := by
  intro zn
  induction zn with
  | zero =>
    intro k I2 hin z1 z2
    obtain rfl : 8 = k := by omega
    refine g_iload_n d12_readClause_46 rfl ?_
    refine g_bipushv (nI 8) d12_readClause_47 rfl ?_
    refine g_ic_ge ((8 : Nat) : Int) (8) 67 (nI_ti (by omega)) (by decide) d12_readClause_49 rfl (fun _ => ?_) (fun c49 => absurd c49 (by omega))
    refine g_lo [(0, .ref 74), (1, .int x), (2, .int (nI (8 * nc)))] ⟨rfl, rfl, rfl, trivial⟩ ?_
    exact kk I2 z1 z2
  | succ zn ih =>
    intro k I2 hin z1 z2
    refine g_iload_n d12_readClause_46 rfl ?_
    refine g_bipushv (nI 8) d12_readClause_47 rfl ?_
    refine g_ic_ge ((k : Nat) : Int) (8) 67 (nI_ti (by omega)) (by decide) d12_readClause_49 rfl (fun c49 => absurd c49 (by omega)) (fun _ => ?_)
    refine g_aload_n d12_readClause_52 rfl ?_
    refine g_get fl12_30 d12_readClause_53 f_74_17 ?_
    refine g_iload_n d12_readClause_56 rfl ?_
    refine g_iload_n d12_readClause_57 rfl ?_
    refine g_iaddN d12_readClause_58 ?_
    refine g_iconstv (nI 0) d12_readClause_59 rfl ?_
    refine g_iastN (((8 * nc) + k)) _ d12_readClause_60 a_80 (rfl) (by omega) (by decide) t_80 ?_
    refine g_iincN d12_readClause_61 rfl (by decide) ?_
    refine g_goto 46 d12_readClause_64 rfl ?_
    refine g_lo [(0, .ref 74), (1, .int x), (2, .int (nI (8 * nc))), (3, .int (nI (k + 1)))] ⟨rfl, rfl, rfl, rfl, trivial⟩ ?_
    exact ih (k + 1) (uI I2 80 (8 * nc + k) (nI 0)) (by omega) (fun c hc => by rw [uI_n hc]; exact z1 c hc) (fun q hq => by rw [uI_sn (by omega)]; exact z2 q hq)
set_option maxHeartbeats 1000000 in
theorem r12_clause {l : Launch} {K : cK} {d : Nat} {I : wI} {L : wL} {R : wR} {dy : cH} (tp : Nat → Nat) (t : Nat) (lw : Bool) (b pa f : Nat) (hS : PS0 I L tp t lw b pa f) (nc : Nat) (h16 : I 74 16 = nI nc) (hnc : nc ≤ 12) (hbf : b ≤ f) (hpa : pa ≤ 50) (hd : 8 ≤ d) : CW l K m12_readClause d [.ref 74] (hp I L R dy) (α := wI × wL × Nat) (CP I L tp t lw nc b f (pcl tp t lw nc pa f)) (fun x => hp x.1 x.2.1 R dy) := by
  obtain ⟨g1, g2, g3, g4, g5, g6, g7⟩ := id hS
  have hnx := nxt_le (tp := tp) g2.1
  have ht4 := g1.1
  have hft := g2.1
  have hte := (tE_le (tp := tp) g2.1).1
  have hk3 := hdK_le tp t f lw
  refine CC.of ok12_readClause (Nat.le_of_ble_eq_true rfl) ?_
  by_cases hk0 : hdK tp t f lw = 0
  · have hr : pcl tp t lw nc pa f = .inl f := if_pos (Or.inl hk0)
    rw [hr]
    refine g_aload_n d12_readClause_0 rfl ?_
    refine g_EV0 vm12_headAt ml12_324 c_74 (r12_headAt tp t lw b pa f hS (Nat.le_refl 1)) (by omega) (Nat.le_of_ble_eq_true rfl) d12_readClause_1 ?_
    refine g_topI ((-1 : Int32)) (by rw [hk0]; rfl) ?_
    refine g_istore_n d12_readClause_4 (by decide) ?_
    refine g_aload_n d12_readClause_5 rfl ?_
    refine g_iload_n d12_readClause_6 rfl ?_
    refine g_iconstv ((-1 : Int32)) d12_readClause_7 rfl ?_
    refine g_ic_eq (-1) (-1) 24 (by decide) (by decide) d12_readClause_8 rfl (fun _ => ?_) (fun c8 => absurd c8 (by decide))
    refine g_iconstv (nI 0) d12_readClause_24 rfl ?_
    refine g_VV1 vm12_must ml12_227 c_74 (r12_must_no tp t f hS.1 hS.2.1 hS.2.2.2.1 (Nat.le_refl 2)) (by omega) (Nat.le_of_ble_eq_true rfl) d12_readClause_25 ?_
    refine g_aload_n d12_readClause_28 rfl ?_
    refine g_get fl12_192 d12_readClause_29 f_74_14 ?_
    refine g_topI ((1 : Int32)) (rfl) ?_
    refine g_iz_eq (1) 36 (by decide) d12_readClause_32 rfl (fun c32 => absurd c32 (by decide)) (fun _ => ?_)
    exact g_vret rfl d12_readClause_35 (⟨(uI (uI I 74 14 1) 74 13 (nI f), L, 0), ⟨rfl, rfl, (FR.rf.uf (by decide)).uf (by decide)⟩, rfl, rfl⟩)
  by_cases hn12 : 12 ≤ nc
  · have hr : pcl tp t lw nc pa f = .inl f := if_pos (Or.inr hn12)
    rw [hr]
    refine g_aload_n d12_readClause_0 rfl ?_
    refine g_EV0 vm12_headAt ml12_324 c_74 (r12_headAt tp t lw b pa f hS (Nat.le_refl 1)) (by omega) (Nat.le_of_ble_eq_true rfl) d12_readClause_1 ?_
    refine g_topI (nI (hdK tp t f lw - 1)) (mkI_p (by omega)) ?_
    refine g_istore_n d12_readClause_4 (by decide) ?_
    refine g_aload_n d12_readClause_5 rfl ?_
    refine g_iload_n d12_readClause_6 rfl ?_
    refine g_iconstv ((-1 : Int32)) d12_readClause_7 rfl ?_
    refine g_ic_eq (((hdK tp t f lw - 1) : Nat) : Int) (-1) 24 (nI_ti (by omega)) (by decide) d12_readClause_8 rfl (fun c8 => absurd c8 (by omega)) (fun _ => ?_)
    refine g_aload_n d12_readClause_11 rfl ?_
    refine g_get fl12_327 d12_readClause_12 f_74_16 ?_
    refine g_topI (nI (nc)) (h16) ?_
    refine g_bipushv (nI 12) d12_readClause_15 rfl ?_
    refine g_ic_ge ((nc : Nat) : Int) (12) 24 (nI_ti (by omega)) (by decide) d12_readClause_17 rfl (fun _ => ?_) (fun c17 => absurd c17 (by omega))
    refine g_iconstv (nI 0) d12_readClause_24 rfl ?_
    refine g_VV1 vm12_must ml12_227 c_74 (r12_must_no tp t f hS.1 hS.2.1 hS.2.2.2.1 (Nat.le_refl 2)) (by omega) (Nat.le_of_ble_eq_true rfl) d12_readClause_25 ?_
    refine g_aload_n d12_readClause_28 rfl ?_
    refine g_get fl12_192 d12_readClause_29 f_74_14 ?_
    refine g_topI ((1 : Int32)) (rfl) ?_
    refine g_iz_eq (1) 36 (by decide) d12_readClause_32 rfl (fun c32 => absurd c32 (by decide)) (fun _ => ?_)
    exact g_vret rfl d12_readClause_35 (⟨(uI (uI I 74 14 1) 74 13 (nI f), L, 0), ⟨rfl, rfl, (FR.rf.uf (by decide)).uf (by decide)⟩, rfl, rfl⟩)
  have hr : pcl tp t lw nc pa f = _ := if_neg (by omega)
  rw [hr]
  have hlt := hnx.2.2 (hdK_kd hk0)
  refine g_aload_n d12_readClause_0 rfl ?_
  refine g_EV0 vm12_headAt ml12_324 c_74 (r12_headAt tp t lw b pa f hS (Nat.le_refl 1)) (by omega) (Nat.le_of_ble_eq_true rfl) d12_readClause_1 ?_
  refine g_topI (nI (hdK tp t f lw - 1)) (mkI_p (by omega)) ?_
  refine g_istore_n d12_readClause_4 (by decide) ?_
  refine g_aload_n d12_readClause_5 rfl ?_
  refine g_iload_n d12_readClause_6 rfl ?_
  refine g_iconstv ((-1 : Int32)) d12_readClause_7 rfl ?_
  refine g_ic_eq (((hdK tp t f lw - 1) : Nat) : Int) (-1) 24 (nI_ti (by omega)) (by decide) d12_readClause_8 rfl (fun c8 => absurd c8 (by omega)) (fun _ => ?_)
  refine g_aload_n d12_readClause_11 rfl ?_
  refine g_get fl12_327 d12_readClause_12 f_74_16 ?_
  refine g_topI (nI (nc)) (h16) ?_
  refine g_bipushv (nI 12) d12_readClause_15 rfl ?_
  refine g_ic_ge ((nc : Nat) : Int) (12) 24 (nI_ti (by omega)) (by decide) d12_readClause_17 rfl (fun c17 => absurd c17 (by omega)) (fun _ => ?_)
  refine g_iconstv (nI 1) d12_readClause_20 rfl ?_
  refine g_goto 25 d12_readClause_21 rfl ?_
  refine g_WV1 vm12_must ml12_227 c_74 (r12_must_ok tp t f hS.1 hS.2.1 hS.2.2.2.1 (Nat.le_refl 2)) (by omega) (Nat.le_of_ble_eq_true rfl) d12_readClause_25 (fun x hx => ?_)
  have hS2 := hS.nx hx.1 hx.2
  have h16b : x.1 74 16 = nI nc := (hx.1.2.1 16 (by decide)).trans h16
  refine g_aload_n d12_readClause_28 rfl ?_
  refine g_get fl12_192 d12_readClause_29 f_74_14 ?_
  refine g_topI ((0 : Int32)) (hS2.2.2.2.1) ?_
  refine g_iz_eq (0) 36 (by decide) d12_readClause_32 rfl (fun _ => ?_) (fun c32 => absurd c32 (by decide))
  refine g_bipushv (nI 8) d12_readClause_36 rfl ?_
  refine g_aload_n d12_readClause_38 rfl ?_
  refine g_get fl12_327 d12_readClause_39 f_74_16 ?_
  refine g_topI (nI (nc)) (h16b) ?_
  refine g_imulN d12_readClause_42 ?_
  refine g_istore_n d12_readClause_43 (by decide) ?_
  refine g_iconstv (nI 0) d12_readClause_44 rfl ?_
  refine g_istore_n d12_readClause_45 (by decide) ?_
  refine g_lo [(0, .ref 74), (1, .int (nI (hdK tp t f lw - 1))), (2, .int (nI (8 * nc))), (3, .int (nI (0)))] ⟨rfl, rfl, rfl, rfl, trivial⟩ ?_
  refine r12_clz (I := x.1) nc (by omega) _ (fun I3 z1 z2 => ?_) 8 0 x.1 (by omega) (fun _ _ => rfl) (fun _ _ => rfl)
  have hS3 : PS0 (uI (uI (uI I3 80 (8 * nc) (nI (hdK tp t f lw - 1))) 74 16 (nI (nc + 1))) 80 (8 * nc + 3) (nI b)) x.2 tp t lw b pa (nxt tp t f) := hS2.cg (by rw [uI_n (by decide), uI_n (by decide), uI_n (by decide)]; exact z1 79 (by decide)) (by rw [uI_n (by decide), uI_n (by decide), uI_n (by decide)]; exact z1 81 (by decide)) (by rw [uI_n (by decide), uI_n (by decide), uI_n (by decide)]; exact z1 82 (by decide)) (fun j hj => by rw [uI_n (by decide), uI_fn hj, uI_n (by decide)]; exact congrFun (z1 74 (by decide)) j)
  have z16 : I3 74 16 = nI nc := (congrFun (z1 74 (by decide)) 16).trans h16b
  have z18 : I3 74 18 = nI b := (congrFun (z1 74 (by decide)) 18).trans hS2.2.2.2.2.2.1
  have hFA : FC I L (uI (uI (uI I3 80 (8 * nc) (nI (hdK tp t f lw - 1))) 74 16 (nI (nc + 1))) 80 (8 * nc + 3) (nI b)) x.2 := by
    refine (((FR.tr (hx.1.up (by decide) (by decide) (by decide) (by decide)) ⟨fun k k1 _ => z1 k (fun e => k1 (by subst e; decide)), fun j _ => congrFun (z1 74 (by decide)) j, fun _ _ _ => rfl, fun _ _ => rfl⟩).ui (by decide) (by decide)).uf (by decide)).ui (by decide) (by decide)
  have hc81 : ∀ q, (uI (uI (uI I3 80 (8 * nc) (nI (hdK tp t f lw - 1))) 74 16 (nI (nc + 1))) 80 (8 * nc + 3) (nI b)) 81 q = I 81 q ∧ (uI (uI (uI I3 80 (8 * nc) (nI (hdK tp t f lw - 1))) 74 16 (nI (nc + 1))) 80 (8 * nc + 3) (nI b)) 82 q = I 82 q := fun q => by
    rw [uI_n (by decide), uI_n (by decide), uI_n (by decide), uI_n (by decide), uI_n (by decide), uI_n (by decide), z1 81 (by decide), z1 82 (by decide), hx.1.1 81 (by decide) (by decide), hx.1.1 82 (by decide) (by decide)]; exact ⟨rfl, rfl⟩
  have hc80 : (∀ q, q < 8 * nc → (uI (uI (uI I3 80 (8 * nc) (nI (hdK tp t f lw - 1))) 74 16 (nI (nc + 1))) 80 (8 * nc + 3) (nI b)) 80 q = I 80 q) ∧ (uI (uI (uI I3 80 (8 * nc) (nI (hdK tp t f lw - 1))) 74 16 (nI (nc + 1))) 80 (8 * nc + 3) (nI b)) 80 (8 * nc) = nI (hdK tp t f lw - 1) ∧ (uI (uI (uI I3 80 (8 * nc) (nI (hdK tp t f lw - 1))) 74 16 (nI (nc + 1))) 80 (8 * nc + 3) (nI b)) 80 (8 * nc + 3) = nI b := by
    refine ⟨fun q hq => ?_, ?_, uI_ss⟩
    · rw [uI_sn (by omega), uI_n (by decide), uI_sn (by omega), z2 q hq, hx.1.1 80 (by decide) (by decide)]
    · rw [uI_sn (by omega), uI_n (by decide), uI_ss]
  have h16c : (uI (uI (uI I3 80 (8 * nc) (nI (hdK tp t f lw - 1))) 74 16 (nI (nc + 1))) 80 (8 * nc + 3) (nI b)) 74 16 = nI (nc + 1) := by rw [uI_n (by decide), uI_ss]
  generalize hIA : (uI (uI (uI I3 80 (8 * nc) (nI (hdK tp t f lw - 1))) 74 16 (nI (nc + 1))) 80 (8 * nc + 3) (nI b)) = IA at *
  by_cases h3 : hdK tp t f lw = 3
  · rw [if_pos h3]
    refine g_aload_n d12_readClause_67 rfl ?_
    refine g_get fl12_30 d12_readClause_68 f_74_17 ?_
    refine g_iload_n d12_readClause_71 rfl ?_
    refine g_iload_n d12_readClause_72 rfl ?_
    refine g_iastN ((8 * nc)) _ d12_readClause_73 a_80 (rfl) (by omega) (by decide) t_80 ?_
    refine g_aload_n d12_readClause_74 rfl ?_
    refine g_dup d12_readClause_75 rfl ?_
    refine g_get fl12_327 d12_readClause_76 f_74_16 ?_
    refine g_topI (nI (nc)) (z16) ?_
    refine g_iconstv (nI 1) d12_readClause_79 rfl ?_
    refine g_iaddN d12_readClause_80 ?_
    refine g_putIh _ fl12_327 d12_readClause_81 f_74_16 s_74_16 ?_
    refine g_aload_n d12_readClause_84 rfl ?_
    refine g_get fl12_30 d12_readClause_85 f_74_17 ?_
    refine g_iload_n d12_readClause_88 rfl ?_
    refine g_iconstv (nI 3) d12_readClause_89 rfl ?_
    refine g_iaddN d12_readClause_90 ?_
    refine g_aload_n d12_readClause_91 rfl ?_
    refine g_get fl12_231 d12_readClause_92 f_74_18 ?_
    refine g_topI (nI (b)) (z18) ?_
    refine g_iastN (((8 * nc) + 3)) _ d12_readClause_95 a_80 (rfl) (by omega) (by decide) t_80 ?_
    refine g_iload_n d12_readClause_96 rfl ?_
    refine g_iconstv (nI 2) d12_readClause_97 rfl ?_
    refine g_ic_eq (((hdK tp t f lw - 1) : Nat) : Int) (2) 106 (nI_ti (by omega)) (by decide) d12_readClause_98 rfl (fun _ => ?_) (fun c98 => absurd c98 (by omega))
    refine g_lo [(0, .ref 74), (2, .int (nI (8 * nc)))] ⟨rfl, rfl, trivial⟩ ?_
    rw [hIA]
    by_cases hif : iw tp t (nxt tp t f) 294
    · show GL l K m12_readClause d 0 0 106 _ [] _ _
      cases hz : pE tp t lw true pa (nxt tp t (nxt tp t f)) with
      | inl e =>
        refine r12_cb_n (I := IA) (L := x.2) tp t lw b pa (nxt tp t f) hS3 nc (by omega) (Nat.le_of_succ_le ((show b + 1 ≤ nxt tp t f by omega))) (hpa) hif e hz (by omega) (fun y z y1 y2 y3 => ⟨(uI y.1 80 (8 * nc + 6) z, y.2, 0), ?_, rfl, rfl⟩)
        simp only [if_pos hif, hz]
        exact ⟨y1, y2, ((((hFA).ui (by decide) (by decide)).ui (by decide) (by decide)).tr (y3.up (by decide) (by decide) (by decide) (by decide))).ui (by decide) (by decide)⟩
      | inr w =>
        obtain ⟨f3, p3, v3⟩ := w
        refine r12_cb_y (I := IA) (L := x.2) tp t lw b pa (nxt tp t f) hS3 nc (by omega) (Nat.le_of_succ_le ((show b + 1 ≤ nxt tp t f by omega))) (hpa) hif f3 p3 v3 hz (by omega) (fun y y1 y2 y3 y4 y5 y6 y7 => ⟨(uI y.1 80 (8 * nc + 6) (nI y.2.2), y.2.1, y.2.2), ?_, rfl, rfl⟩)
        simp only [if_pos hif, hz]
        have e80 : y.1 80 = (uI (uI IA 80 (8 * nc + 4) (nI b)) 80 (8 * nc + 5) (nI b)) 80 := y2.1 80 (by decide) (by decide)
        have e16 : y.1 74 16 = nI (nc + 1) := (y2.2.1 16 (by decide)).trans (h16c)
        have hb3 : b < y.2.2 := y3.1
        refine ⟨y1.cg rfl rfl rfl (fun j _ => rfl), e16, ((((hFA).ui (by decide) (by decide)).ui (by decide) (by decide)).tr (y2.up (by decide) (by decide) (by decide) (by decide))).ui (by decide) (by decide), fun q hq => ?_, fun q hq => ?_, ?_, y5, ?_, y7, b, ?_, ?_, ?_, ?_, (show uI y.1 80 (8 * nc + 6) (nI y.2.2) 80 (8 * nc + 6) = nI y.2.2 from uI_ss), ?_⟩
        · exact ⟨(y4 q (by have := Nat.le_refl b; omega)).1.trans (hc81 q).1, (y4 q (by have := Nat.le_refl b; omega)).2.trans (hc81 q).2⟩
        · try dsimp only
          rw [uI_sn (by omega), e80, uI_sn (by omega), uI_sn (by omega)]; exact hc80.1 q hq
        · show b ≤ y.2.2; have := Nat.le_refl b; omega
        · have := hlt; omega
        · try dsimp only
          rw [uI_sn (by omega), e80, uI_sn (by omega), uI_sn (by omega)]; exact hc80.2.1
        · try dsimp only
          rw [uI_sn (by omega), e80, uI_sn (by omega), uI_sn (by omega)]; exact hc80.2.2
        · try dsimp only
          rw [uI_sn (by omega), e80, uI_sn (by omega), uI_ss]
        · try dsimp only
          rw [uI_sn (by omega), e80, uI_ss]
        · refine ⟨by show hdK tp t f lw - 1 ≤ 2; omega, Nat.le_refl b, Nat.le_of_lt hb3, (fun h => absurd (show hdK tp t f lw - 1 = 2 by omega) h), (fun _ => rfl), Or.inr (SG.cg y3 (fun _ _ _ => ⟨rfl, rfl⟩))⟩
    · refine r12_cb_0 (I := IA) (L := x.2) tp t lw b pa (nxt tp t f) hS3 nc (by omega) hif (by omega) ⟨(uI (uI (uI IA 80 (8 * nc + 4) (nI b)) 80 (8 * nc + 5) (nI b)) 80 (8 * nc + 6) (nI b), x.2, b), ?_, rfl, rfl⟩
      simp only [if_neg hif]
      refine ⟨(hS3).cg rfl rfl rfl (fun j _ => rfl), h16c, (((hFA).ui (by decide) (by decide)).ui (by decide) (by decide)).ui (by decide) (by decide), fun q hq => hc81 q, fun q hq => ?_, Nat.le_refl b, (show b + 1 ≤ nxt tp t f by omega), hlt, hpa, b, ?_, ?_, ?_, ?_, (show uI (uI (uI IA 80 (8 * nc + 4) (nI b)) 80 (8 * nc + 5) (nI b)) 80 (8 * nc + 6) (nI b) 80 (8 * nc + 6) = nI b from uI_ss), ?_⟩
      · try dsimp only
        rw [uI_sn (by omega), uI_sn (by omega), uI_sn (by omega)]; exact hc80.1 q hq
      · try dsimp only
        rw [uI_sn (by omega), uI_sn (by omega), uI_sn (by omega)]; exact hc80.2.1
      · try dsimp only
        rw [uI_sn (by omega), uI_sn (by omega), uI_sn (by omega)]; exact hc80.2.2
      · try dsimp only
        rw [uI_sn (by omega), uI_sn (by omega), uI_ss]
      · try dsimp only
        rw [uI_sn (by omega), uI_ss]
      · refine ⟨by show hdK tp t f lw - 1 ≤ 2; omega, Nat.le_refl b, Nat.le_refl _, (fun h => absurd (show hdK tp t f lw - 1 = 2 by omega) h), (fun _ => rfl), Or.inl ⟨rfl, rfl⟩⟩
  · rw [if_neg h3]
    cases hz0 : pE tp t lw false pa (nxt tp t f) with
    | inl e =>
      refine g_aload_n d12_readClause_67 rfl ?_
      refine g_get fl12_30 d12_readClause_68 f_74_17 ?_
      refine g_iload_n d12_readClause_71 rfl ?_
      refine g_iload_n d12_readClause_72 rfl ?_
      refine g_iastN ((8 * nc)) _ d12_readClause_73 a_80 (rfl) (by omega) (by decide) t_80 ?_
      refine g_aload_n d12_readClause_74 rfl ?_
      refine g_dup d12_readClause_75 rfl ?_
      refine g_get fl12_327 d12_readClause_76 f_74_16 ?_
      refine g_topI (nI (nc)) (z16) ?_
      refine g_iconstv (nI 1) d12_readClause_79 rfl ?_
      refine g_iaddN d12_readClause_80 ?_
      refine g_putIh _ fl12_327 d12_readClause_81 f_74_16 s_74_16 ?_
      refine g_aload_n d12_readClause_84 rfl ?_
      refine g_get fl12_30 d12_readClause_85 f_74_17 ?_
      refine g_iload_n d12_readClause_88 rfl ?_
      refine g_iconstv (nI 3) d12_readClause_89 rfl ?_
      refine g_iaddN d12_readClause_90 ?_
      refine g_aload_n d12_readClause_91 rfl ?_
      refine g_get fl12_231 d12_readClause_92 f_74_18 ?_
      refine g_topI (nI (b)) (z18) ?_
      refine g_iastN (((8 * nc) + 3)) _ d12_readClause_95 a_80 (rfl) (by omega) (by decide) t_80 ?_
      refine g_iload_n d12_readClause_96 rfl ?_
      refine g_iconstv (nI 2) d12_readClause_97 rfl ?_
      refine g_ic_eq (((hdK tp t f lw - 1) : Nat) : Int) (2) 106 (nI_ti (by omega)) (by decide) d12_readClause_98 rfl (fun c98 => absurd c98 (by omega)) (fun _ => ?_)
      rw [hIA]
      refine g_aload_n d12_readClause_101 rfl ?_
      refine g_iconstv (nI 0) d12_readClause_102 rfl ?_
      refine g_WV1 vm12_readExpression ml12_330 c_74 (r12_rx_0n (I := IA) (L := x.2) tp t lw b pa (nxt tp t f) hS3 (by omega) hpa e hz0 (Nat.le_refl 6)) (by omega) (Nat.le_of_ble_eq_true rfl) d12_readClause_103 (fun y hy => ?_)
      refine g_lo [(0, .ref 74), (2, .int (nI (8 * nc)))] ⟨rfl, rfl, trivial⟩ ?_
      refine r12_cb_b (I := y.1) nc (by omega) hy.1 (fun z => ⟨(uI (uI (uI y.1 80 (8 * nc + 4) z) 80 (8 * nc + 5) z) 80 (8 * nc + 6) z, y.2, 0), ⟨hy.1, hy.2.1, (((hFA.tr (hy.2.2.up (by decide) (by decide) (by decide) (by decide))).ui (by decide) (by decide)).ui (by decide) (by decide)).ui (by decide) (by decide)⟩, rfl, rfl⟩)
    | inr w =>
      obtain ⟨f2, p2, v2⟩ := w
      refine g_aload_n d12_readClause_67 rfl ?_
      refine g_get fl12_30 d12_readClause_68 f_74_17 ?_
      refine g_iload_n d12_readClause_71 rfl ?_
      refine g_iload_n d12_readClause_72 rfl ?_
      refine g_iastN ((8 * nc)) _ d12_readClause_73 a_80 (rfl) (by omega) (by decide) t_80 ?_
      refine g_aload_n d12_readClause_74 rfl ?_
      refine g_dup d12_readClause_75 rfl ?_
      refine g_get fl12_327 d12_readClause_76 f_74_16 ?_
      refine g_topI (nI (nc)) (z16) ?_
      refine g_iconstv (nI 1) d12_readClause_79 rfl ?_
      refine g_iaddN d12_readClause_80 ?_
      refine g_putIh _ fl12_327 d12_readClause_81 f_74_16 s_74_16 ?_
      refine g_aload_n d12_readClause_84 rfl ?_
      refine g_get fl12_30 d12_readClause_85 f_74_17 ?_
      refine g_iload_n d12_readClause_88 rfl ?_
      refine g_iconstv (nI 3) d12_readClause_89 rfl ?_
      refine g_iaddN d12_readClause_90 ?_
      refine g_aload_n d12_readClause_91 rfl ?_
      refine g_get fl12_231 d12_readClause_92 f_74_18 ?_
      refine g_topI (nI (b)) (z18) ?_
      refine g_iastN (((8 * nc) + 3)) _ d12_readClause_95 a_80 (rfl) (by omega) (by decide) t_80 ?_
      refine g_iload_n d12_readClause_96 rfl ?_
      refine g_iconstv (nI 2) d12_readClause_97 rfl ?_
      refine g_ic_eq (((hdK tp t f lw - 1) : Nat) : Int) (2) 106 (nI_ti (by omega)) (by decide) d12_readClause_98 rfl (fun c98 => absurd c98 (by omega)) (fun _ => ?_)
      rw [hIA]
      refine g_aload_n d12_readClause_101 rfl ?_
      refine g_iconstv (nI 0) d12_readClause_102 rfl ?_
      refine g_WV1 vm12_readExpression ml12_330 c_74 (r12_rx_0y (I := IA) (L := x.2) tp t lw b pa (nxt tp t f) hS3 (by omega) hpa f2 p2 v2 hz0 (Nat.le_refl 6)) (by omega) (Nat.le_of_ble_eq_true rfl) d12_readClause_103 (fun u hu => ?_)
      refine g_lo [(0, .ref 74), (2, .int (nI (8 * nc)))] ⟨rfl, rfl, trivial⟩ ?_
      obtain ⟨u1, u2, u3, u4, u5, u6, u7⟩ := hu
      have ub : b < u.2.2 := u3.1
      have u80 : u.1 80 = IA 80 := u2.1 80 (by decide) (by decide)
      have hFU : FC I L u.1 u.2.1 := hFA.tr (u2.up (by decide) (by decide) (by decide) (by decide))
      have hcU : ∀ q, q < b → u.1 81 q = I 81 q ∧ u.1 82 q = I 82 q := fun q hq => ⟨(u4 q hq).1.trans (hc81 q).1, (u4 q hq).2.trans (hc81 q).2⟩
      rw [← u80] at hc80
      have h16u : u.1 74 16 = nI (nc + 1) := (u2.2.1 16 (by decide)).trans h16c
      by_cases hif : iw tp t f2 294
      · show GL l K m12_readClause d 0 0 106 _ [] _ _
        cases hz : pE tp t lw true p2 (nxt tp t f2) with
        | inl e =>
          refine r12_cb_n (I := u.1) (L := u.2.1) tp t lw u.2.2 p2 f2 u1 nc (by omega) (Nat.le_of_succ_le (u5)) (u7) hif e hz (by omega) (fun y z y1 y2 y3 => ⟨(uI y.1 80 (8 * nc + 6) z, y.2, 0), ?_, rfl, rfl⟩)
          simp only [if_pos hif, hz]
          exact ⟨y1, y2, ((((hFU).ui (by decide) (by decide)).ui (by decide) (by decide)).tr (y3.up (by decide) (by decide) (by decide) (by decide))).ui (by decide) (by decide)⟩
        | inr w =>
          obtain ⟨f3, p3, v3⟩ := w
          refine r12_cb_y (I := u.1) (L := u.2.1) tp t lw u.2.2 p2 f2 u1 nc (by omega) (Nat.le_of_succ_le (u5)) (u7) hif f3 p3 v3 hz (by omega) (fun y y1 y2 y3 y4 y5 y6 y7 => ⟨(uI y.1 80 (8 * nc + 6) (nI y.2.2), y.2.1, y.2.2), ?_, rfl, rfl⟩)
          simp only [if_pos hif, hz]
          have e80 : y.1 80 = (uI (uI u.1 80 (8 * nc + 4) (nI u.2.2)) 80 (8 * nc + 5) (nI u.2.2)) 80 := y2.1 80 (by decide) (by decide)
          have e16 : y.1 74 16 = nI (nc + 1) := (y2.2.1 16 (by decide)).trans (h16u)
          have hb3 : u.2.2 < y.2.2 := y3.1
          refine ⟨y1.cg rfl rfl rfl (fun j _ => rfl), e16, ((((hFU).ui (by decide) (by decide)).ui (by decide) (by decide)).tr (y2.up (by decide) (by decide) (by decide) (by decide))).ui (by decide) (by decide), fun q hq => ?_, fun q hq => ?_, ?_, y5, ?_, y7, u.2.2, ?_, ?_, ?_, ?_, (show uI y.1 80 (8 * nc + 6) (nI y.2.2) 80 (8 * nc + 6) = nI y.2.2 from uI_ss), ?_⟩
          · exact ⟨(y4 q (by have := Nat.le_of_lt ub; omega)).1.trans (hcU q hq).1, (y4 q (by have := Nat.le_of_lt ub; omega)).2.trans (hcU q hq).2⟩
          · try dsimp only
            rw [uI_sn (by omega), e80, uI_sn (by omega), uI_sn (by omega)]; exact hc80.1 q hq
          · show b ≤ y.2.2; have := Nat.le_of_lt ub; omega
          · have := (Nat.lt_trans hlt u6); omega
          · try dsimp only
            rw [uI_sn (by omega), e80, uI_sn (by omega), uI_sn (by omega)]; exact hc80.2.1
          · try dsimp only
            rw [uI_sn (by omega), e80, uI_sn (by omega), uI_sn (by omega)]; exact hc80.2.2
          · try dsimp only
            rw [uI_sn (by omega), e80, uI_sn (by omega), uI_ss]
          · try dsimp only
            rw [uI_sn (by omega), e80, uI_ss]
          · refine ⟨by show hdK tp t f lw - 1 ≤ 2; omega, Nat.le_of_lt ub, Nat.le_of_lt hb3, (fun h => opF_cg (u3) (fun q hq => y4 q hq)), (fun h => absurd h (show ¬ hdK tp t f lw - 1 = 2 by omega)), Or.inr (SG.cg y3 (fun _ _ _ => ⟨rfl, rfl⟩))⟩
      · refine r12_cb_0 (I := u.1) (L := u.2.1) tp t lw u.2.2 p2 f2 u1 nc (by omega) hif (by omega) ⟨(uI (uI (uI u.1 80 (8 * nc + 4) (nI u.2.2)) 80 (8 * nc + 5) (nI u.2.2)) 80 (8 * nc + 6) (nI u.2.2), u.2.1, u.2.2), ?_, rfl, rfl⟩
        simp only [if_neg hif]
        refine ⟨(u1).cg rfl rfl rfl (fun j _ => rfl), h16u, (((hFU).ui (by decide) (by decide)).ui (by decide) (by decide)).ui (by decide) (by decide), fun q hq => hcU q hq, fun q hq => ?_, Nat.le_of_lt ub, u5, (Nat.lt_trans hlt u6), u7, u.2.2, ?_, ?_, ?_, ?_, (show uI (uI (uI u.1 80 (8 * nc + 4) (nI u.2.2)) 80 (8 * nc + 5) (nI u.2.2)) 80 (8 * nc + 6) (nI u.2.2) 80 (8 * nc + 6) = nI u.2.2 from uI_ss), ?_⟩
        · try dsimp only
          rw [uI_sn (by omega), uI_sn (by omega), uI_sn (by omega)]; exact hc80.1 q hq
        · try dsimp only
          rw [uI_sn (by omega), uI_sn (by omega), uI_sn (by omega)]; exact hc80.2.1
        · try dsimp only
          rw [uI_sn (by omega), uI_sn (by omega), uI_sn (by omega)]; exact hc80.2.2
        · try dsimp only
          rw [uI_sn (by omega), uI_sn (by omega), uI_ss]
        · try dsimp only
          rw [uI_sn (by omega), uI_ss]
        · refine ⟨by show hdK tp t f lw - 1 ≤ 2; omega, Nat.le_of_lt ub, Nat.le_refl _, (fun h => SG.cg (u3) (fun _ _ _ => ⟨rfl, rfl⟩)), (fun h => absurd h (show ¬ hdK tp t f lw - 1 = 2 by omega)), Or.inl ⟨rfl, rfl⟩⟩
