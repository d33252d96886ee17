/-- how a text goes on, clause by clause -/
def ptl (tp : Nat → Nat) (t : Nat) (lw : Bool) : Nat → Nat → Nat → Nat → (Nat ⊕ List Cl)
  | 0, _, _, _ => .inl 0
  | n + 1, nc, pa, f => if sg tp t f = 59 then (match pcl tp t lw nc pa (nxt tp t f) with
    | .inl e => .inl e
    | .inr (f1, p1, c) => (match ptl tp t lw n (nc + 1) p1 f1 with
      | .inl e => .inl e
      | .inr cs => .inr (c :: cs))) else if kd tp t f = 0 then .inr [] else .inl f
/-- a text as it is read -/
def ptx (tp : Nat → Nat) (t : Nat) (lw : Bool) : Nat ⊕ List Cl := match pcl tp t lw 0 0 (sk tp t 0) with
  | .inl e => .inl e
  | .inr (f1, p1, c) => (match ptl tp t lw 12 1 p1 f1 with
    | .inl e => .inl e
    | .inr cs => .inr (c :: cs))
def ptR (r : Nat ⊕ List Cl) : Int32 := match r with
  | .inl _ => nI 0
  | .inr _ => nI 1
theorem pcl_nc {tp : Nat → Nat} {t : Nat} {lw : Bool} {nc pa f : Nat} {w : Nat × Nat × Cl} (h : pcl tp t lw nc pa f = .inr w) : nc < 12 := by
  unfold pcl at h
  split at h
  · cases h
  · omega
theorem TMF.cg {g g2 : Nat → Int32} {b : Nat} {F : hbF} (h : TMF g b F) (hc : ∀ q, b ≤ q → q < b + 900 → g2 q = g q) : TMF g2 b F := by
  obtain ⟨⟨nc, hd, s1, s2, t1, t2, op, arg, ⟨h1, h2, h3, h4, h5⟩, h6⟩, h7⟩ := h
  refine ⟨⟨nc, hd, s1, s2, t1, t2, op, arg, ⟨(hc _ (by omega) (by omega)).trans h1, h2, h3, fun c hcl => ?_, h5⟩, h6⟩, h7⟩
  obtain ⟨a1, a2, a3, a4, a5, a6, a7, a8, a9, a10, a11, a12⟩ := h4 c hcl
  refine ⟨(hc _ (by omega) (by omega)).trans a1, a2, (hc _ (by omega) (by omega)).trans a3, (hc _ (by omega) (by omega)).trans a4, (hc _ (by omega) (by omega)).trans a5, (hc _ (by omega) (by omega)).trans a6, a7, a8, a9, a10, fun k hk => ?_, fun k hk => ?_⟩
  · obtain ⟨b1, b2, b3⟩ := a11 k hk
    exact ⟨(hc _ (by omega) (by omega)).trans b1, (hc _ (by omega) (by omega)).trans b2, b3⟩
  · obtain ⟨b1, b2, b3⟩ := a12 k hk
    exact ⟨(hc _ (by omega) (by omega)).trans b1, (hc _ (by omega) (by omega)).trans b2, b3⟩
/-- behind the clauses -/
def GT (l : Launch) (K : cK) (d : Nat) (R : wR) (dy : cH) (Q : Option Value → cH → Prop) (a : Nat) (I : wI) (L : wL) : Prop := GL l K m12_readText d 0 0 74 [(0, .ref 74), (2, .int (nI a))] [] (hp I L R dy) Q
def KT (Gp : wI → wL → Prop) (I : wI) (L : wL) (cs : List Cl) (r : Nat ⊕ List Cl) : Prop := match r with
  | .inl e => ∀ (I2 : wI) (L2 : wL), I2 74 14 = 1 → I2 74 13 = nI e → FC I L I2 L2 → Gp I2 L2
  | .inr c2 => ∀ (I2 : wI) (L2 : wL) (b : Nat), I2 74 14 = 0 → I2 74 13 = -1 → I2 74 18 = nI b → I2 74 16 = nI (cs ++ c2).length → (cs ++ c2).length ≤ 12 → CLS I2 b (cs ++ c2) → (∀ n, n < (cs ++ c2).length → CDK ((cs ++ c2).getD n (0, d0, d0))) → NN I2 b → b ≤ 399 → FC I L I2 L2 → Gp I2 L2
theorem KT.tr {Gp : wI → wL → Prop} {I I1 : wI} {L L1 : wL} {cs : List Cl} {r : Nat ⊕ List Cl} (h : KT Gp I L cs r) (hF : FC I L I1 L1) : KT Gp I1 L1 cs r := by
  match r, h with
  | .inl e, h => exact fun I2 L2 a1 a2 a3 => h I2 L2 a1 a2 (hF.tr a3)
  | .inr c2, h => exact fun I2 L2 b a1 a2 a3 a4 a5 a6 a7 a8 a9 a10 => h I2 L2 b a1 a2 a3 a4 a5 a6 a7 a8 a9 (hF.tr a10)
theorem CDK.snoc {cs : List Cl} {c : Cl} (h : ∀ n, n < cs.length → CDK (cs.getD n (0, d0, d0))) (hc : CDK c) : ∀ n, n < (cs ++ [c]).length → CDK ((cs ++ [c]).getD n (0, d0, d0)) := fun k hk => by
  by_cases e : k < cs.length
  · have : (cs ++ [c]).getD k (0, d0, d0) = cs.getD k (0, d0, d0) := by simp [List.getD, List.getElem?_append_left e]
    rw [this]; exact h k e
  · have e2 : k = cs.length := by simp at hk; omega
    subst e2
    have : (cs ++ [c]).getD cs.length (0, d0, d0) = c := by simp [List.getD]
    rw [this]; exact hc
theorem rt_bad {l : Launch} {K : cK} {d : Nat} {I : wI} {L : wL} {R : wR} {dy : cH} {Q : Option Value → cH → Prop} (a : Nat) (h14 : I 74 14 = 1) (kk : GT l K d R dy Q a I L) : GL l K m12_readText d 0 0 28 [(0, .ref 74), (2, .int (nI a))] [] (hp I L R dy) Q := by
  refine g_aload_n d12_readText_28 rfl ?_
  refine g_get fl12_192 d12_readText_29 f_74_14 ?_
  refine g_topI ((1 : Int32)) (h14) ?_
  refine g_iz_ne (1) 55 (by decide) d12_readText_32 rfl (fun _ => ?_) (fun c32 => absurd c32 (by decide))
  refine g_aload_n d12_readText_55 rfl ?_
  refine g_get fl12_192 d12_readText_56 f_74_14 ?_
  refine g_topI ((1 : Int32)) (h14) ?_
  refine g_iz_ne (1) 74 (by decide) d12_readText_59 rfl (fun _ => ?_) (fun c59 => absurd c59 (by decide))
  refine g_lo [(0, .ref 74), (2, .int (nI (a)))] ⟨rfl, rfl, trivial⟩ ?_
  exact kk
set_option maxHeartbeats 200000 in
theorem r12_begin {l : Launch} {K : cK} {d : Nat} {I : wI} {L : wL} {R : wR} {dy : cH} (tp : Nat → Nat) (t : Nat) (hTP : TPm I tp t) (hd : 2 ≤ d) : CW l K m12_begin d [.ref 74] (hp I L R dy) (α := wI × wL) (fun x => FR [] [9, 10, 11, 13, 14] [] [12] I L x.1 x.2 ∧ TKm x.1 x.2 tp t (sk tp t 0) ∧ x.1 74 14 = 0 ∧ x.1 74 13 = -1) (fun x => hp x.1 x.2 R dy) := by
  refine CC.of ok12_begin (Nat.le_of_ble_eq_true rfl) ?_
  refine g_aload_n d12_begin_0 rfl ?_
  refine g_iconstv (nI 0) d12_begin_1 rfl ?_
  refine g_putIh _ fl12_189 d12_begin_2 f_74_10 s_74_10 ?_
  refine g_aload_n d12_begin_5 rfl ?_
  refine g_iconstv (nI 0) d12_begin_6 rfl ?_
  refine g_putZh _ fl12_192 d12_begin_7 f_74_14 (by decide) s_74_14 ?_
  refine g_aload_n d12_begin_10 rfl ?_
  refine g_iconstv ((-1 : Int32)) d12_begin_11 rfl ?_
  refine g_putIh _ fl12_26 d12_begin_12 f_74_13 s_74_13 ?_
  refine g_aload_n d12_begin_15 rfl ?_
  refine g_WV0 vm12_next ml12_196 c_74 (r12_next (I := uI (uI (uI I 74 10 0) 74 14 0) 74 13 (-1)) tp t (by exact hTP) 0 rfl (Nat.zero_le _) (Nat.le_refl 1)) (by omega) (Nat.le_of_ble_eq_true rfl) d12_begin_16 (fun x hx => ?_)
  exact g_vret rfl d12_begin_19 (⟨x, ⟨(((FR.rf.uf (by decide)).uf (by decide)).uf (by decide)).tr (hx.1.up (by decide) (by decide) (by decide) (by decide)), hx.2, (hx.1.2.1 14 (by decide)).trans rfl, (hx.1.2.1 13 (by decide)).trans rfl⟩, rfl, rfl⟩)
set_option maxHeartbeats 1000000 in
theorem rt_loop {l : Launch} {K : cK} {d : Nat} {R : wR} {dy : cH} {Q : Option Value → cH → Prop} (tp : Nat → Nat) (t : Nat) (lw : Bool) (a : Nat) (hd : 9 ≤ d) : ∀ (n : Nat) (cs : List Cl) (I : wI) (L : wL) (b pa f : Nat), n + cs.length = 13 → PS0 I L tp t lw b pa f → b + 1 ≤ f → pa ≤ 50 → I 74 16 = nI cs.length → cs.length ≤ 12 → CLS I b cs → (∀ n, n < cs.length → CDK (cs.getD n (0, d0, d0))) → KT (GT l K d R dy Q a) I L cs (ptl tp t lw n cs.length pa f) → GL l K m12_readText d 0 0 28 [(0, .ref 74), (2, .int (nI a))] [] (hp I L R dy) Q := by
  intro n
  induction n with
  | zero => intro cs I L b pa f h1 _ _ _ _ h2; omega
  | succ n ih =>
    intro cs I L b pa f hn hS hB hpa h16 hcl hC hD hK
    obtain ⟨g1, g2, g3, g4, g5, g6, g7⟩ := id hS
    have hnx := nxt_le (tp := tp) g2.1
    have hft := g2.1
    have ht4 := g1.1
    have hk3 := kd_le tp t f
    rw [show ptl tp t lw (n + 1) cs.length pa f = if sg tp t f = 59 then (match pcl tp t lw cs.length pa (nxt tp t f) with
      | .inl e => .inl e
      | .inr (f1, p1, c) => (match ptl tp t lw n (cs.length + 1) p1 f1 with
        | .inl e => .inl e
        | .inr cs => .inr (c :: cs))) else if kd tp t f = 0 then .inr [] else .inl f from rfl] at hK
    by_cases hsg : sg tp t f = 59
    · rw [if_pos hsg] at hK
      have hlt := hnx.2.2 (by rw [sg_kd hsg (by decide)]; decide)
      refine g_aload_n d12_readText_28 rfl ?_
      refine g_get fl12_192 d12_readText_29 f_74_14 ?_
      refine g_topI ((0 : Int32)) (g4) ?_
      refine g_iz_ne (0) 55 (by decide) d12_readText_32 rfl (fun c32 => absurd c32 (by decide)) (fun _ => ?_)
      refine g_aload_n d12_readText_35 rfl ?_
      refine g_bipushv (nI 59) d12_readText_36 rfl ?_
      refine g_EV1 vm12_isSign ml12_265 c_74 (r12_isSign tp t f hS.1 hS.2.1 59 (by decide) (by decide) (Nat.le_refl 0)) (by omega) (Nat.le_of_ble_eq_true rfl) d12_readText_38 ?_
      refine g_bz 55 d12_readText_41 rfl (fun c41 => absurd (hsg) c41) (fun _ => ?_)
      refine g_aload_n d12_readText_44 rfl ?_
      refine g_WV0 vm12_next ml12_196 c_74 (r12_next tp t g1 (tE tp t f) g2.2.2.1 (tE_le hft).2.1 (Nat.le_refl 1)) (by omega) (Nat.le_of_ble_eq_true rfl) d12_readText_45 (fun x hx => ?_)
      have hS2 := hS.nx hx.1 hx.2
      refine g_aload_n d12_readText_48 rfl ?_
      refine g_WV0 vm12_readClause ml12_338 c_74 (r12_clause tp t lw b pa (nxt tp t f) hS2 cs.length ((hx.1.2.1 16 (by decide)).trans h16) hcl (by omega) hpa (Nat.le_refl 8)) (by omega) (Nat.le_of_ble_eq_true rfl) d12_readText_49 (fun y hy => ?_)
      refine g_goto 28 d12_readText_52 rfl ?_
      refine g_lo [(0, .ref 74), (2, .int (nI (a)))] ⟨rfl, rfl, trivial⟩ ?_
      have hFx : FC I L x.1 x.2 := hx.1.up (by decide) (by decide) (by decide) (by decide)
      cases hp0 : pcl tp t lw cs.length pa (nxt tp t f) with
      | inl e =>
        rw [hp0] at hy hK
        obtain ⟨y1, y2, y3⟩ := hy
        exact rt_bad a y1 (hK y.1 y.2.1 y1 y2 (hFx.tr y3))
      | inr w =>
        obtain ⟨f1, p1, c⟩ := w
        rw [hp0] at hy hK
        obtain ⟨y1, y2, y3, y4, y5, y6, y7, y8, y9, s2, z1, z2, z3, z4, z5, z6⟩ := hy
        have hl12 := pcl_nc hp0
        have e81 := hx.1.1 81 (by decide) (by decide)
        have e82 := hx.1.1 82 (by decide) (by decide)
        have e80 := hx.1.1 80 (by decide) (by decide)
        have hC2 : CLS y.1 y.2.2 cs := hC.cg y6 (fun q hq => ⟨(y4 q hq).1.trans (congrFun e81 q), (y4 q hq).2.trans (congrFun e82 q)⟩) (fun q hq => (y5 q hq).trans (congrFun e80 q))
        have hC3 : CLS y.1 y.2.2 (cs ++ [c]) := hC2.snoc ⟨b, s2, y.2.2, z1, z2, z3, z4, z5, Nat.le_refl _, z6⟩
        have hlen : (cs ++ [c]).length = cs.length + 1 := by simp
        refine ih (cs ++ [c]) y.1 y.2.1 y.2.2 p1 f1 (by rw [hlen]; omega) y1 y7 y9 (by rw [hlen]; exact y2) (by rw [hlen]; omega) hC3 (CDK.snoc hD (pcl_dok hp0)) ?_
        rw [hlen]
        have hK2 := hK.tr (hFx.tr y3)
        cases hq : ptl tp t lw n (cs.length + 1) p1 f1 with
        | inl e => simp only [hq] at hK2; exact hK2
        | inr c2 =>
          simp only [hq] at hK2
          intro I2 L2 b2 a1 a2 a3 a4 a5 a6 a7 a8 a9 a10
          rw [List.append_assoc] at a4 a5 a6 a7
          exact hK2 I2 L2 b2 a1 a2 a3 a4 a5 a6 a7 a8 a9 a10
    · rw [if_neg hsg] at hK
      by_cases hk0 : kd tp t f = 0
      · rw [if_pos hk0] at hK
        refine g_aload_n d12_readText_28 rfl ?_
        refine g_get fl12_192 d12_readText_29 f_74_14 ?_
        refine g_topI ((0 : Int32)) (g4) ?_
        refine g_iz_ne (0) 55 (by decide) d12_readText_32 rfl (fun c32 => absurd c32 (by decide)) (fun _ => ?_)
        refine g_aload_n d12_readText_35 rfl ?_
        refine g_bipushv (nI 59) d12_readText_36 rfl ?_
        refine g_EV1 vm12_isSign ml12_265 c_74 (r12_isSign tp t f hS.1 hS.2.1 59 (by decide) (by decide) (Nat.le_refl 0)) (by omega) (Nat.le_of_ble_eq_true rfl) d12_readText_38 ?_
        refine g_bz 55 d12_readText_41 rfl (fun _ => ?_) (fun c41 => absurd c41 (hsg))
        refine g_aload_n d12_readText_55 rfl ?_
        refine g_get fl12_192 d12_readText_56 f_74_14 ?_
        refine g_topI ((0 : Int32)) (g4) ?_
        refine g_iz_ne (0) 74 (by decide) d12_readText_59 rfl (fun c59 => absurd c59 (by decide)) (fun _ => ?_)
        refine g_aload_n d12_readText_62 rfl ?_
        refine g_get fl12_212 d12_readText_63 f_74_11 ?_
        refine g_topI ((0 : Int32)) (by rw [g2.2.2.2.1, hk0]; rfl) ?_
        refine g_iz_eq (0) 74 (by decide) d12_readText_66 rfl (fun _ => ?_) (fun c66 => absurd c66 (by decide))
        refine g_lo [(0, .ref 74), (2, .int (nI (a)))] ⟨rfl, rfl, trivial⟩ ?_
        have hn : cs ++ [] = cs := List.append_nil _
        exact hK I L b g4 g3.2.2 g6 (by rw [hn]; exact h16) (by rw [hn]; exact hcl) (by rw [hn]; exact hC) (by rw [hn]; exact hD) g3.2.1 (by omega) FR.rf
      · rw [if_neg hk0] at hK
        refine g_aload_n d12_readText_28 rfl ?_
        refine g_get fl12_192 d12_readText_29 f_74_14 ?_
        refine g_topI ((0 : Int32)) (g4) ?_
        refine g_iz_ne (0) 55 (by decide) d12_readText_32 rfl (fun c32 => absurd c32 (by decide)) (fun _ => ?_)
        refine g_aload_n d12_readText_35 rfl ?_
        refine g_bipushv (nI 59) d12_readText_36 rfl ?_
        refine g_EV1 vm12_isSign ml12_265 c_74 (r12_isSign tp t f hS.1 hS.2.1 59 (by decide) (by decide) (Nat.le_refl 0)) (by omega) (Nat.le_of_ble_eq_true rfl) d12_readText_38 ?_
        refine g_bz 55 d12_readText_41 rfl (fun _ => ?_) (fun c41 => absurd c41 (hsg))
        refine g_aload_n d12_readText_55 rfl ?_
        refine g_get fl12_192 d12_readText_56 f_74_14 ?_
        refine g_topI ((0 : Int32)) (g4) ?_
        refine g_iz_ne (0) 74 (by decide) d12_readText_59 rfl (fun c59 => absurd c59 (by decide)) (fun _ => ?_)
        refine g_aload_n d12_readText_62 rfl ?_
        refine g_get fl12_212 d12_readText_63 f_74_11 ?_
        refine g_topI (nI (kd tp t f)) (g2.2.2.2.1) ?_
        refine g_iz_eq ((kd tp t f : Nat) : Int) 74 (nI_ti (by omega)) d12_readText_66 rfl (fun c66 => absurd c66 (by omega)) (fun _ => ?_)
        refine g_aload_n d12_readText_69 rfl ?_
        refine g_iconstv (nI 0) d12_readText_70 rfl ?_
        refine g_VV1 vm12_must ml12_227 c_74 (r12_must_no tp t f hS.1 hS.2.1 g4 (Nat.le_refl 2)) (by omega) (Nat.le_of_ble_eq_true rfl) d12_readText_71 ?_
        refine g_lo [(0, .ref 74), (2, .int (nI (a)))] ⟨rfl, rfl, trivial⟩ ?_
        exact hK (uI (uI I 74 14 1) 74 13 (nI f)) L rfl rfl ((FR.rf.uf (by decide)).uf (by decide))
set_option maxHeartbeats 400000 in
theorem r12_rc1 {l : Launch} {K : cK} {d : Nat} {I : wI} {L : wL} {R : wR} {dy : cH} {Q : Option Value → cH → Prop} (a nc : Nat) (hnc : nc ≤ 12) (ha : a + 900 ≤ 10880) (h16 : I 74 16 = nI nc)
    (kk : ∀ (I3 : wI), (∀ c, c ≠ 76 → I3 c = I c) → (∀ q, ¬ (a + 2 ≤ q ∧ q < a + 2 + ((8 * nc))) → I3 76 q = I 76 q) → (∀ j, j < (8 * nc) → I3 76 (a + 2 + j) = I 80 j) → ((8 * nc) ≤ 8 * nc) → GL l K m12_readText d 0 0 140 [(0, .ref 74), (2, .int (nI (a)))] [] (hp I3 L R dy) Q) :
    ∀ (zn k : Nat) (I2 : wI), k + zn = (8 * nc) → (∀ c, c ≠ 76 → I2 c = I c) → (∀ q, ¬ (a + 2 ≤ q ∧ q < a + 2 + (k)) → I2 76 q = I 76 q) → (∀ j, j < k → I2 76 (a + 2 + j) = I 80 j) → (k ≤ 8 * nc) → GL l K m12_readText d 0 0 107 [(0, .ref 74), (2, .int (nI (a))), (3, .int (nI (k)))] [] (hp I2 L R dy) Q := by
  intro zn
  induction zn with
  | zero =>
    intro k I2 hin z1 z2 z3 hk
    obtain rfl : (8 * nc) = k := by omega
    refine g_iload_n d12_readText_107 rfl ?_
    refine g_bipushv (nI 8) d12_readText_108 rfl ?_
    refine g_aload_n d12_readText_110 rfl ?_
    refine g_get fl12_327 d12_readText_111 f_74_16 ?_
    refine g_topI (nI (nc)) (by rw [z1 74 (by decide)]; exact h16) ?_
    refine g_imulN d12_readText_114 ?_
    refine g_ic_ge (((8 * nc) : Nat) : Int) (((8 * nc) : Nat) : Int) 140 (nI_ti (by omega)) (nI_ti (by omega)) d12_readText_115 rfl (fun _ => ?_) (fun c115 => absurd c115 (by omega))
    refine g_lo [(0, .ref 74), (2, .int (nI (a)))] ⟨rfl, rfl, trivial⟩ ?_
    exact kk I2 z1 z2 z3 hk
  | succ zn ih =>
    intro k I2 hin z1 z2 z3 hk
    refine g_iload_n d12_readText_107 rfl ?_
    refine g_bipushv (nI 8) d12_readText_108 rfl ?_
    refine g_aload_n d12_readText_110 rfl ?_
    refine g_get fl12_327 d12_readText_111 f_74_16 ?_
    refine g_topI (nI (nc)) (by rw [z1 74 (by decide)]; exact h16) ?_
    refine g_imulN d12_readText_114 ?_
    refine g_ic_ge ((k : Nat) : Int) (((8 * nc) : Nat) : Int) 140 (nI_ti (by omega)) (nI_ti (by omega)) d12_readText_115 rfl (fun c115 => absurd c115 (by omega)) (fun _ => ?_)
    refine g_aload_n d12_readText_118 rfl ?_
    refine g_get fl12_13 d12_readText_119 f_74_3 ?_
    refine g_iload_n d12_readText_122 rfl ?_
    refine g_iconstv (nI 2) d12_readText_123 rfl ?_
    refine g_iaddN d12_readText_124 ?_
    refine g_iload_n d12_readText_125 rfl ?_
    refine g_iaddN d12_readText_126 ?_
    refine g_aload_n d12_readText_127 rfl ?_
    refine g_get fl12_30 d12_readText_128 f_74_17 ?_
    refine g_iload_n d12_readText_131 rfl ?_
    refine g_ialdN (k) d12_readText_132 a_80 (rfl) (by omega) (by decide) ?_
    refine g_topI (I 80 k) (congrFun (z1 80 (by decide)) k) ?_
    refine g_iastN (((a + 2) + k)) _ d12_readText_133 a_76 (rfl) (by omega) (by decide) t_76 ?_
    refine g_iincN d12_readText_134 rfl (by decide) ?_
    refine g_goto 107 d12_readText_137 rfl ?_
    refine g_lo [(0, .ref 74), (2, .int (nI (a))), (3, .int (nI (k + 1)))] ⟨rfl, rfl, rfl, trivial⟩ ?_
    refine ih (k + 1) (uI I2 76 (a + 2 + k) (I 80 k)) (by omega) (fun c hc => by rw [uI_n hc]; exact z1 c hc) (fun q hq => by rw [uI_sn (by omega)]; exact z2 q (by omega)) (fun j hj => ?_) (by omega)
    by_cases e : j = k
    · subst e; rw [uI_ss]
    · rw [uI_sn (by omega)]; exact z3 j (by omega)
set_option maxHeartbeats 400000 in
theorem r12_rc2 {l : Launch} {K : cK} {d : Nat} {I : wI} {L : wL} {R : wR} {dy : cH} {Q : Option Value → cH → Prop} (a b : Nat) (hb : b ≤ 400) (ha : a + 900 ≤ 10880) (h18 : I 74 18 = nI b)
    (kk : ∀ (I3 : wI), (∀ c, c ≠ 76 → I3 c = I c) → (∀ q, ¬ (a + 98 ≤ q ∧ q < a + 98 + 2 * (b)) → I3 76 q = I 76 q) → (∀ j, j < b → I3 76 (a + 98 + 2 * j) = I 81 j ∧ I3 76 (a + 98 + 2 * j + 1) = I 82 j) → (b ≤ b) → GL l K m12_readText d 0 0 196 [(0, .ref 74), (2, .int (nI (a)))] [] (hp I3 L R dy) Q) :
    ∀ (zn k : Nat) (I2 : wI), k + zn = b → (∀ c, c ≠ 76 → I2 c = I c) → (∀ q, ¬ (a + 98 ≤ q ∧ q < a + 98 + 2 * (k)) → I2 76 q = I 76 q) → (∀ j, j < k → I2 76 (a + 98 + 2 * j) = I 81 j ∧ I2 76 (a + 98 + 2 * j + 1) = I 82 j) → (k ≤ b) → GL l K m12_readText d 0 0 142 [(0, .ref 74), (2, .int (nI (a))), (3, .int (nI (k)))] [] (hp I2 L R dy) Q := by
  intro zn
  induction zn with
  | zero =>
    intro k I2 hin z1 z2 z3 hk
    obtain rfl : b = k := by omega
    refine g_iload_n d12_readText_142 rfl ?_
    refine g_aload_n d12_readText_143 rfl ?_
    refine g_get fl12_231 d12_readText_144 f_74_18 ?_
    refine g_topI (nI (b)) (by rw [z1 74 (by decide)]; exact h18) ?_
    refine g_ic_ge ((b : Nat) : Int) ((b : Nat) : Int) 196 (nI_ti (by omega)) (nI_ti (by omega)) d12_readText_147 rfl (fun _ => ?_) (fun c147 => absurd c147 (by omega))
    refine g_lo [(0, .ref 74), (2, .int (nI (a)))] ⟨rfl, rfl, trivial⟩ ?_
    exact kk I2 z1 z2 z3 hk
  | succ zn ih =>
    intro k I2 hin z1 z2 z3 hk
    refine g_iload_n d12_readText_142 rfl ?_
    refine g_aload_n d12_readText_143 rfl ?_
    refine g_get fl12_231 d12_readText_144 f_74_18 ?_
    refine g_topI (nI (b)) (by rw [z1 74 (by decide)]; exact h18) ?_
    refine g_ic_ge ((k : Nat) : Int) ((b : Nat) : Int) 196 (nI_ti (by omega)) (nI_ti (by omega)) d12_readText_147 rfl (fun c147 => absurd c147 (by omega)) (fun _ => ?_)
    refine g_aload_n d12_readText_150 rfl ?_
    refine g_get fl12_13 d12_readText_151 f_74_3 ?_
    refine g_iload_n d12_readText_154 rfl ?_
    refine g_bipushv (nI 98) d12_readText_155 rfl ?_
    refine g_iaddN d12_readText_157 ?_
    refine g_iconstv (nI 2) d12_readText_158 rfl ?_
    refine g_iload_n d12_readText_159 rfl ?_
    refine g_imulN d12_readText_160 ?_
    refine g_iaddN d12_readText_161 ?_
    refine g_aload_n d12_readText_162 rfl ?_
    refine g_get fl12_33 d12_readText_163 f_74_19 ?_
    refine g_iload_n d12_readText_166 rfl ?_
    refine g_ialdN (k) d12_readText_167 a_81 (rfl) (by omega) (by decide) ?_
    refine g_topI (I 81 k) (congrFun (z1 81 (by decide)) k) ?_
    refine g_iastN (((a + 98) + (2 * k))) _ d12_readText_168 a_76 (rfl) (by omega) (by decide) t_76 ?_
    refine g_aload_n d12_readText_169 rfl ?_
    refine g_get fl12_13 d12_readText_170 f_74_3 ?_
    refine g_iload_n d12_readText_173 rfl ?_
    refine g_bipushv (nI 98) d12_readText_174 rfl ?_
    refine g_iaddN d12_readText_176 ?_
    refine g_iconstv (nI 2) d12_readText_177 rfl ?_
    refine g_iload_n d12_readText_178 rfl ?_
    refine g_imulN d12_readText_179 ?_
    refine g_iaddN d12_readText_180 ?_
    refine g_iconstv (nI 1) d12_readText_181 rfl ?_
    refine g_iaddN d12_readText_182 ?_
    refine g_aload_n d12_readText_183 rfl ?_
    refine g_get fl12_36 d12_readText_184 f_74_20 ?_
    refine g_iload_n d12_readText_187 rfl ?_
    refine g_ialdN (k) d12_readText_188 a_82 (rfl) (by omega) (by decide) ?_
    refine g_topI (I 82 k) (congrFun (z1 82 (by decide)) k) ?_
    refine g_iastN ((((a + 98) + (2 * k)) + 1)) _ d12_readText_189 a_76 (rfl) (by omega) (by decide) t_76 ?_
    refine g_iincN d12_readText_190 rfl (by decide) ?_
    refine g_goto 142 d12_readText_193 rfl ?_
    refine g_lo [(0, .ref 74), (2, .int (nI (a))), (3, .int (nI (k + 1)))] ⟨rfl, rfl, rfl, trivial⟩ ?_
    refine ih (k + 1) (uI (uI I2 76 (a + 98 + 2 * k) (I 81 k)) 76 (a + 98 + 2 * k + 1) (I 82 k)) (by omega) (fun c hc => by rw [uI_n hc, uI_n hc]; exact z1 c hc) (fun q hq => by rw [uI_sn (by omega), uI_sn (by omega)]; exact z2 q (by omega)) (fun j hj => ?_) (by omega)
    by_cases e : j = k
    · subst e; exact ⟨by rw [uI_sn (by omega), uI_ss], uI_ss⟩
    · rw [uI_sn (by omega), uI_sn (by omega), uI_sn (by omega), uI_sn (by omega)]; exact z3 j (by omega)
abbrev FT (I : wI) (L : wL) (I2 : wI) (L2 : wL) : Prop := FR [76, 80, 81, 82, 83, 84] [8, 9, 10, 11, 13, 14, 15, 16, 18, 21, 24, 25] [] [12] I L I2 L2
/-- what a read text leaves -/
def RTP (I : wI) (L : wL) (a : Nat) (r : Nat ⊕ List Cl) (x : wI × wL) : Prop := FT I L x.1 x.2 ∧ x.1 74 8 = 0 ∧ x.1 74 15 = 0 ∧ match r with
  | .inl e => x.1 76 = I 76 ∧ x.1 74 13 = nI e
  | .inr cs => (∀ q, q < a ∨ a + 900 ≤ q → x.1 76 q = I 76 q) ∧ x.1 74 13 = -1 ∧ TMF (x.1 76) a (txF cs)
set_option maxHeartbeats 400000 in
theorem rt_end0 {l : Launch} {K : cK} {d : Nat} {I : wI} {L : wL} {R : wR} {dy : cH} (I0 : wI) (L0 : wL) (a e : Nat) (h14 : I 74 14 = 1) (h13 : I 74 13 = nI e) (hF : FT I0 L0 I L) (h76 : I 76 = I0 76) (r : Nat ⊕ List Cl) (hr : r = .inl e) : GT l K d R dy (fun z h1 => ∃ x : wI × wL, RTP I0 L0 a r x ∧ z = some (.int (ptR r)) ∧ h1 = hp x.1 x.2 R dy) a I L := by
  subst hr
  show GL l K m12_readText d 0 0 74 _ [] (hp I L R dy) _
  refine g_aload_n d12_readText_74 rfl ?_
  refine g_iconstv (nI 0) d12_readText_75 rfl ?_
  refine g_putZh _ fl12_271 d12_readText_76 f_74_15 (by decide) s_74_15 ?_
  refine g_aload_n d12_readText_79 rfl ?_
  refine g_iconstv (nI 0) d12_readText_80 rfl ?_
  refine g_putIh _ fl12_179 d12_readText_81 f_74_8 s_74_8 ?_
  refine g_aload_n d12_readText_84 rfl ?_
  refine g_get fl12_192 d12_readText_85 f_74_14 ?_
  refine g_topI ((1 : Int32)) (h14) ?_
  refine g_iz_eq (1) 93 (by decide) d12_readText_88 rfl (fun c88 => absurd c88 (by decide)) (fun _ => ?_)
  refine g_iconstv (nI 0) d12_readText_91 rfl ?_
  exact g_zret rfl (by decide) d12_readText_92 (⟨(uI (uI I 74 15 0) 74 8 0, L), ⟨(hF.uf (by decide)).uf (by decide), rfl, rfl, h76, h13⟩, rfl, rfl⟩)
set_option maxHeartbeats 1000000 in
theorem rt_end1 {l : Launch} {K : cK} {d : Nat} {I : wI} {L : wL} {R : wR} {dy : cH} (I0 : wI) (L0 : wL) (a b : Nat) (cs : List Cl) (h14 : I 74 14 = 0) (h13 : I 74 13 = -1) (h18 : I 74 18 = nI b) (h16 : I 74 16 = nI cs.length) (hl : cs.length ≤ 12) (hC : CLS I b cs) (hD : ∀ n, n < cs.length → CDK (cs.getD n (0, d0, d0))) (hN : NN I b) (hb : b ≤ 399) (ha : a + 900 ≤ 10880) (hF : FT I0 L0 I L) (h76 : I 76 = I0 76) (r : Nat ⊕ List Cl) (hr : r = .inr cs) : GT l K d R dy (fun z h1 => ∃ x : wI × wL, RTP I0 L0 a r x ∧ z = some (.int (ptR r)) ∧ h1 = hp x.1 x.2 R dy) a I L := by
  subst hr
  show GL l K m12_readText d 0 0 74 _ [] (hp I L R dy) _
  refine g_aload_n d12_readText_74 rfl ?_
  refine g_iconstv (nI 0) d12_readText_75 rfl ?_
  refine g_putZh _ fl12_271 d12_readText_76 f_74_15 (by decide) s_74_15 ?_
  refine g_aload_n d12_readText_79 rfl ?_
  refine g_iconstv (nI 0) d12_readText_80 rfl ?_
  refine g_putIh _ fl12_179 d12_readText_81 f_74_8 s_74_8 ?_
  refine g_aload_n d12_readText_84 rfl ?_
  refine g_get fl12_192 d12_readText_85 f_74_14 ?_
  refine g_topI ((0 : Int32)) (h14) ?_
  refine g_iz_eq (0) 93 (by decide) d12_readText_88 rfl (fun _ => ?_) (fun c88 => absurd c88 (by decide))
  refine g_aload_n d12_readText_93 rfl ?_
  refine g_get fl12_13 d12_readText_94 f_74_3 ?_
  refine g_iload_n d12_readText_97 rfl ?_
  refine g_iconstv (nI 1) d12_readText_98 rfl ?_
  refine g_iaddN d12_readText_99 ?_
  refine g_aload_n d12_readText_100 rfl ?_
  refine g_get fl12_327 d12_readText_101 f_74_16 ?_
  refine g_topI (nI (cs.length)) (h16) ?_
  refine g_iastN ((a + 1)) _ d12_readText_104 a_76 (rfl) (by omega) (by decide) t_76 ?_
  refine g_iconstv (nI 0) d12_readText_105 rfl ?_
  refine g_istore_n d12_readText_106 (by decide) ?_
  refine g_lo [(0, .ref 74), (2, .int (nI (a))), (3, .int (nI (0)))] ⟨rfl, rfl, rfl, trivial⟩ ?_
  refine r12_rc1 (I := (uI (uI (uI I 74 15 0) 74 8 0) 76 (a + 1) (nI cs.length))) a cs.length hl ha (by rw [uI_n (by decide)]; exact h16) (fun I3 z1 z2 z3 z4 => ?_) (8 * cs.length) 0 _ (by omega) (fun _ _ => rfl) (fun _ _ => rfl) (fun j hj => absurd hj (by omega)) (by omega)
  refine g_iconstv (nI 0) d12_readText_140 rfl ?_
  refine g_istore_n d12_readText_141 (by decide) ?_
  refine g_lo [(0, .ref 74), (2, .int (nI (a))), (3, .int (nI (0)))] ⟨rfl, rfl, rfl, trivial⟩ ?_
  refine r12_rc2 (I := I3) a b (by omega) ha (by rw [z1 74 (by decide), uI_n (by decide)]; exact h18) (fun I4 y1 y2 y3 y4 => ?_) b 0 _ (by omega) (fun _ _ => rfl) (fun _ _ => rfl) (fun j hj => absurd hj (by omega)) (by omega)
  refine g_iconstv (nI 1) d12_readText_196 rfl ?_
  refine g_zret rfl (by decide) d12_readText_197 (⟨(I4, L), ⟨?_, ?_, ?_, ?_, ?_, ?_⟩, rfl, rfl⟩)
  · refine (((hF.uf (j := 15) (x := 0) (by decide)).uf (j := 8) (x := 0) (by decide)).tr ⟨fun k k1 k2 => ?_, fun j _ => ?_, fun _ _ _ => rfl, fun _ _ => rfl⟩)
    · have : k ≠ 76 := fun e => k1 (by subst e; decide)
      show I4 k = _; rw [y1 k this, z1 k this, uI_n this]
    · show I4 74 j = _; rw [y1 74 (by decide), z1 74 (by decide), uI_n (by decide)]
  · show I4 74 8 = 0; rw [y1 74 (by decide), z1 74 (by decide), uI_n (by decide)]; rfl
  · show I4 74 15 = 0; rw [y1 74 (by decide), z1 74 (by decide), uI_n (by decide)]; rfl
  · intro q hq
    show I4 76 q = _
    rw [y2 q (by omega), z2 q (by omega), uI_sn (by omega)]; exact congrFun h76 q
  · show I4 74 13 = -1; rw [y1 74 (by decide), z1 74 (by decide), uI_n (by decide)]; exact h13
  · refine hC.tm hD hN hb hl ha ?_ (fun k hk => ?_) (fun k hk => ?_)
    · show I4 76 (a + 1) = _; rw [y2 _ (by omega), z2 _ (by omega), uI_ss]
    · show I4 76 (a + 2 + k) = _; rw [y2 _ (by omega), z3 k hk, uI_n (by decide)]; rfl
    · have := y3 k hk
      rw [z1 81 (by decide), z1 82 (by decide), uI_n (by decide), uI_n (by decide)] at this; exact this
set_option maxHeartbeats 1000000 in
theorem r12_readText {l : Launch} {K : cK} {d : Nat} {I : wI} {L : wL} {R : wR} {dy : cH} (tp : Nat → Nat) (t : Nat) (lw : Bool) (hTP : TPm I tp t) (hW : (∀ k, k < 7 → L 85 k = lN (lws true k) ∧ L 86 k = lN (lws false k))) (a : Nat) (ha : a + 900 ≤ 10880) (x : Int32) (hx : x = if lw = true then 0 else 1) (hd : 10 ≤ d) : CX l K m12_readText d [.ref 74, .int x, .int (nI a)] (hp I L R dy) (α := wI × wL) (RTP I L a (ptx tp t lw)) (fun _ => .int (ptR (ptx tp t lw))) (fun x => hp x.1 x.2 R dy) := by
  refine CC.of ok12_readText (Nat.le_of_ble_eq_true rfl) ?_
  refine g_aload_n d12_readText_0 rfl ?_
  refine g_iload_n d12_readText_1 rfl ?_
  refine g_putZh _ fl12_271 d12_readText_2 f_74_15 (by rw [hx]; cases lw; exact Or.inr rfl; exact Or.inl rfl) s_74_15 ?_
  refine g_aload_n d12_readText_5 rfl ?_
  refine g_WV0 vm12_begin ml12_335 c_74 (r12_begin (I := uI I 74 15 x) tp t (by exact hTP) (Nat.le_refl 2)) (by omega) (Nat.le_of_ble_eq_true rfl) d12_readText_6 (fun y hy => ?_)
  obtain ⟨y1, y2, y3, y4⟩ := hy
  have hskt := (ru_le (p := fun q => decide (tp q = 32)) (Nat.zero_le t)).2
  have hS : PS0 (uI (uI (uI y.1 74 16 (nI 0)) 74 18 (nI 0)) 74 21 (nI 0)) y.2 tp t lw 0 0 (sk tp t 0) := by
    refine ⟨⟨hTP.1, (y1.2.1 8 (by decide)).trans hTP.2.1, ?_, hTP.2.2.2⟩, y2, ⟨?_, fun k hk => absurd hk (by omega), y4⟩, y3, (y1.2.1 15 (by decide)).trans hx, rfl, rfl⟩
    · show ∀ q, q < 400 → y.1 79 q = _; rw [y1.1 79 (by decide) (by decide)]; exact hTP.2.2.1
    · rw [y1.2.2.1 85 (by decide) (by decide), y1.2.2.1 86 (by decide) (by decide)]; exact hW
  refine g_aload_n d12_readText_9 rfl ?_
  refine g_iconstv (nI 0) d12_readText_10 rfl ?_
  refine g_putIh _ fl12_327 d12_readText_11 f_74_16 s_74_16 ?_
  refine g_aload_n d12_readText_14 rfl ?_
  refine g_iconstv (nI 0) d12_readText_15 rfl ?_
  refine g_putIh _ fl12_231 d12_readText_16 f_74_18 s_74_18 ?_
  refine g_aload_n d12_readText_19 rfl ?_
  refine g_iconstv (nI 0) d12_readText_20 rfl ?_
  refine g_putIh _ fl12_262 d12_readText_21 f_74_21 s_74_21 ?_
  refine g_aload_n d12_readText_24 rfl ?_
  refine g_WV0 vm12_readClause ml12_338 c_74 (r12_clause tp t lw 0 0 (sk tp t 0) hS 0 rfl (by decide) (Nat.zero_le _) (by decide) (Nat.le_refl 8)) (by omega) (Nat.le_of_ble_eq_true rfl) d12_readText_25 (fun u hu => ?_)
  refine g_lo [(0, .ref 74), (2, .int (nI (a)))] ⟨rfl, rfl, trivial⟩ ?_
  have hF0 : FT I L (uI (uI (uI y.1 74 16 (nI 0)) 74 18 (nI 0)) 74 21 (nI 0)) y.2 := (((((FR.rf.uf (by decide)).tr (y1.up (by decide) (by decide) (by decide) (by decide))).uf (by decide)).uf (by decide)).uf (by decide))
  have h760 : y.1 76 = I 76 := y1.1 76 (by decide) (by decide)
  cases hp0 : pcl tp t lw 0 0 (sk tp t 0) with
  | inl e =>
    rw [hp0] at hu
    obtain ⟨u1, u2, u3⟩ := hu
    have hr : ptx tp t lw = .inl e := by unfold ptx; rw [hp0]
    exact rt_bad a u1 (rt_end0 I L a e u1 u2 (hF0.tr (u3.up (by decide) (by decide) (by decide) (by decide))) ((u3.1 76 (by decide) (by decide)).trans h760) _ hr)
  | inr w =>
    obtain ⟨f1, p1, c⟩ := w
    rw [hp0] at hu
    obtain ⟨u1, u2, u3, u4, u5, u6, u7, u8, u9, s2, z1, z2, z3, z4, z5, z6⟩ := hu
    have hC : CLS u.1 u.2.2 [c] := CLS.snoc (cs := []) (fun k hk => absurd hk (by simp)) ⟨0, s2, u.2.2, z1, z2, z3, z4, z5, Nat.le_refl _, z6⟩
    have hFu : FT I L u.1 u.2.1 := hF0.tr (u3.up (by decide) (by decide) (by decide) (by decide))
    have h76u : u.1 76 = I 76 := (u3.1 76 (by decide) (by decide)).trans h760
    refine rt_loop tp t lw a (by omega) 12 [c] u.1 u.2.1 u.2.2 p1 f1 rfl u1 u7 u9 u2 (by show 1 ≤ 12; decide) hC (CDK.snoc (cs := []) (fun k hk => absurd hk (by simp)) (pcl_dok hp0)) ?_
    cases hq : ptl tp t lw 12 1 p1 f1 with
    | inl e =>
      have hr : ptx tp t lw = .inl e := by unfold ptx; simp only [hp0, hq]
      exact fun I2 L2 a1 a2 a3 => rt_end0 I L a e a1 a2 (hFu.tr (a3.up (by decide) (by decide) (by decide) (by decide))) ((a3.1 76 (by decide) (by decide)).trans h76u) _ hr
    | inr c2 =>
      have hr : ptx tp t lw = .inr (c :: c2) := by unfold ptx; simp only [hp0, hq]
      exact fun I2 L2 b a1 a2 a3 a4 a5 a6 a7 a8 a9 a10 => rt_end1 I L a b (c :: c2) a1 a2 a3 a4 a5 a6 a7 a8 a9 ha (hFu.tr (a10.up (by decide) (by decide) (by decide) (by decide))) ((a10.1 76 (by decide) (by decide)).trans h76u) _ hr
