def opF (I : wI) (k : Nat) : Nat := (I 81 k).toNatClampNeg
def agF (I : wI) (k : Nat) : Nat := (I 82 k).toNatClampNeg
/-- what lies upon the pile from N on -/
def PE (I : wI) : Nat → List (Nat × Nat) → Prop
  | _, [] => True
  | N, (o, j) :: Y => I 83 N = nI o ∧ I 84 N = nI j ∧ 20 ≤ o ∧ o ≤ 30 ∧ j < 400 ∧ PE I (N + 1) Y
theorem PE.app {I : wI} {o j : Nat} : ∀ (Y : List (Nat × Nat)) {N : Nat}, PE I N (Y ++ [(o, j)]) ↔ PE I N Y ∧ I 83 (N + Y.length) = nI o ∧ I 84 (N + Y.length) = nI j ∧ 20 ≤ o ∧ o ≤ 30 ∧ j < 400
  | [], N => by
    show (_ ∧ _ ∧ _ ∧ _ ∧ _ ∧ True) ↔ True ∧ _
    constructor
    · rintro ⟨a, b, c, d, e, -⟩; exact ⟨trivial, a, b, c, d, e⟩
    · rintro ⟨-, a, b, c, d, e⟩; exact ⟨a, b, c, d, e, trivial⟩
  | (o2, j2) :: Y, N => by
    show (_ ∧ _ ∧ _ ∧ _ ∧ _ ∧ PE I (N + 1) (Y ++ [(o, j)])) ↔ (_ ∧ _ ∧ _ ∧ _ ∧ _ ∧ PE I (N + 1) Y) ∧ _
    rw [PE.app Y, show N + ((o2, j2) :: Y).length = N + 1 + Y.length by simp only [List.length_cons]; omega]
    constructor
    · rintro ⟨a, b, c, d, e, f, g⟩; exact ⟨⟨a, b, c, d, e, f⟩, g⟩
    · rintro ⟨⟨a, b, c, d, e, f⟩, g⟩; exact ⟨a, b, c, d, e, f, g⟩
theorem PE.cg {I I2 : wI} : ∀ (Y : List (Nat × Nat)) {N : Nat}, (∀ q, N ≤ q → q < N + Y.length → I2 83 q = I 83 q ∧ I2 84 q = I 84 q) → PE I N Y → PE I2 N Y
  | [], _, _, _ => trivial
  | (o2, j2) :: Y, N, hc, h => by
    obtain ⟨a, b, c, d, e, f⟩ := h
    obtain ⟨c1, c2⟩ := hc N (Nat.le_refl _) (by simp only [List.length_cons]; omega)
    exact ⟨c1.trans a, c2.trans b, c, d, e, PE.cg Y (fun q q1 q2 => hc q (by omega) (by simp only [List.length_cons]; omega)) f⟩
def BG (least : Nat) : List (Nat × Nat) → Prop
  | [] => True
  | (o, _) :: Y => least ≤ bnd o ∧ BG least Y
theorem BG.app {least o j : Nat} : ∀ (Y : List (Nat × Nat)), BG least (Y ++ [(o, j)]) ↔ BG least Y ∧ least ≤ bnd o
  | [] => by show (_ ∧ True) ↔ True ∧ _; exact ⟨fun h => ⟨trivial, h.1⟩, fun h => ⟨h.2, trivial⟩⟩
  | (o2, j2) :: Y => by
    show (_ ∧ BG least (Y ++ [(o, j)])) ↔ (_ ∧ BG least Y) ∧ _
    rw [BG.app Y]; exact ⟨fun h => ⟨⟨h.1, h.2.1⟩, h.2.2⟩, fun h => ⟨h.1.1, h.1.2, h.2⟩⟩
theorem BG.mono {a b : Nat} (hab : b ≤ a) : ∀ (Y : List (Nat × Nat)), BG a Y → BG b Y
  | [], _ => trivial
  | (o, j) :: Y, h => ⟨Nat.le_trans hab h.1, BG.mono hab Y h.2⟩
/-- what binds less lies below -/
def BL (I : wI) (N least : Nat) : Prop := N = 0 ∨ ∃ o, I 83 (N - 1) = nI o ∧ 20 ≤ o ∧ o ≤ 32 ∧ bnd o < least
theorem nI_tc {n : Nat} (h : n < 2147483648) : (nI n).toNatClampNeg = n := nI_clamp h
/-- the code holds what it may -/
def NN (I : wI) (b : Nat) : Prop := ∀ k, k < b → 0 ≤ (I 81 k).toInt ∧ (I 81 k).toInt ≤ 30 ∧ 0 ≤ (I 82 k).toInt
theorem NN.cg {I I2 : wI} {b : Nat} (h : NN I b) (h1 : I2 81 = I 81) (h2 : I2 82 = I 82) : NN I2 b := fun k hk => by rw [h1, h2]; exact h k hk
theorem NN.uj {I : wI} {b j n q : Nat} {x : Int32} (h : NN I b) (hn : n < 2147483648) : NN (uI (uI I 74 q x) 82 j (nI n)) b := fun k hk => by
  obtain ⟨h1, h2, h3⟩ := h k hk
  refine ⟨h1, h2, ?_⟩
  by_cases e : k = j
  · subst e; rw [uI_ss, nI_ti hn]; omega
  · rw [uI_sn e]; exact h3
theorem NN.em {I : wI} {b o g : Nat} (h : NN I b) (ho : o ≤ 30) (hg : g < 2147483648) : NN (uI (uI I 81 b (nI o)) 82 b (nI g)) (b + 1) := fun k hk => by
  by_cases e : k = b
  · subst e
    rw [uI_ss, uI_n (by decide), uI_ss, nI_ti (by omega), nI_ti hg]; omega
  · rw [uI_sn e, uI_n (by decide), uI_sn e]; exact h k (by omega)
/-- a settled state -/
def ST (I : wI) (Y0 : List (Nat × Nat)) (N a b : Nat) (v : Den) (M : Nat) (x : wI × Nat) : Prop := (∀ k, k ≠ 81 → k ≠ 82 → k ≠ 74 → x.1 k = I k) ∧ (∀ j, j ≠ 18 → j ≠ 24 → x.1 74 j = I 74 j) ∧ x.1 74 24 = nI N ∧ x.1 74 18 = nI x.2 ∧ b ≤ x.2 ∧ x.2 ≤ b + M ∧ PD (opF x.1) (agF x.1) Y0 a x.2 v ∧ (∀ k, k < a → x.1 81 k = I 81 k ∧ x.1 82 k = I 82 k) ∧ (NN I b → NN x.1 x.2)
set_option maxHeartbeats 1600000 in
theorem r12_setL {l : Launch} {K : cK} {d : Nat} {I : wI} {L : wL} {R : wR} {dy : cH} {Q : Option Value → cH → Prop} (Y0 : List (Nat × Nat)) (N a least b0 M : Nat) (hl : least < 1000) (v : Den) (hBL : BL I N least) (hM : N + b0 + M ≤ 400)
    (kk : ∀ x : wI × Nat, ST I Y0 N a b0 v M x → GL l K m12_settle d 0 0 101 [] [] (hp x.1 L R dy) Q) (hd : 1 ≤ d) :
    ∀ (m : Nat) (Y1 : List (Nat × Nat)) (b : Nat) (I2 : wI), Y1.length = m → (∀ k, k ≠ 81 → k ≠ 82 → k ≠ 74 → I2 k = I k) → (∀ j, j ≠ 18 → j ≠ 24 → I2 74 j = I 74 j) → I2 74 24 = nI (N + Y1.length) → I2 74 18 = nI b → b0 ≤ b → b + Y1.length ≤ b0 + M → PD (opF I2) (agF I2) (Y0 ++ Y1) a b v → PE I2 N Y1 → BG least Y1 → (∀ k, k < a → I2 81 k = I 81 k ∧ I2 82 k = I 82 k) → (NN I b0 → NN I2 b) →
    GL l K m12_settle d 0 0 0 [(0, .ref 74), (1, .int (nI least))] [] (hp I2 L R dy) Q := by
  intro m
  induction m with
  | zero =>
    intro Y1 b I2 hY hI hJ h24 h18 hb1 hb2 hPD hPE hBG hlow hnn
    obtain rfl : Y1 = [] := List.eq_nil_of_length_eq_zero hY
    rw [List.append_nil] at hPD
    have h24 : I2 74 24 = nI N := h24
    have hfin := kk (I2, b) ⟨hI, hJ, h24, h18, hb1, hb2, hPD, hlow, hnn⟩
    rcases hBL with h0 | ⟨o, p1, p2, p3, p4⟩
    · subst h0
      refine g_aload_n d12_settle_0 rfl ?_
      refine g_get fl12_234 d12_settle_1 f_74_24 ?_
      refine g_topI (nI (0)) (h24) ?_
      refine g_iz_le ((0 : Nat) : Int) 101 (nI_ti (by omega)) d12_settle_4 rfl (fun _ => ?_) (fun c4 => absurd c4 (by decide))
      refine g_lo [] trivial ?_
      exact hfin
    · by_cases hN0 : N = 0
      · subst hN0
        refine g_aload_n d12_settle_0 rfl ?_
        refine g_get fl12_234 d12_settle_1 f_74_24 ?_
        refine g_topI (nI (0)) (h24) ?_
        refine g_iz_le ((0 : Nat) : Int) 101 (nI_ti (by omega)) d12_settle_4 rfl (fun _ => ?_) (fun c4 => absurd c4 (by decide))
        refine g_lo [] trivial ?_
        exact hfin
      · have hb6 := bnd_le o
        have p1b : I2 83 (N - 1) = nI o := by rw [hI 83 (by decide) (by decide) (by decide)]; exact p1
        refine g_aload_n d12_settle_0 rfl ?_
        refine g_get fl12_234 d12_settle_1 f_74_24 ?_
        refine g_topI (nI (N)) (h24) ?_
        refine g_iz_le ((N : Nat) : Int) 101 (nI_ti (by omega)) d12_settle_4 rfl (fun c4 => absurd c4 (by omega)) (fun _ => ?_)
        refine g_aload_n d12_settle_7 rfl ?_
        refine g_get fl12_39 d12_settle_8 f_74_22 ?_
        refine g_aload_n d12_settle_11 rfl ?_
        refine g_get fl12_234 d12_settle_12 f_74_24 ?_
        refine g_topI (nI (N)) (h24) ?_
        refine g_iconstv (nI 1) d12_settle_15 rfl ?_
        refine g_isubN (by omega) d12_settle_16 ?_
        refine g_ialdN ((N - 1)) d12_settle_17 a_83 (rfl) (by omega) (by decide) ?_
        refine g_topI (nI (o)) (p1b) ?_
        refine g_ES1 sm12_binds ml12_237 (r12_binds (o) (by omega) (Nat.le_refl 0)) (by omega) (Nat.le_of_ble_eq_true rfl) d12_settle_18 ?_
        refine g_iload_n d12_settle_21 rfl ?_
        refine g_ic_lt (((bnd o) : Nat) : Int) ((least : Nat) : Int) 101 (nI_ti (by omega)) (nI_ti (by omega)) d12_settle_22 rfl (fun _ => ?_) (fun c22 => absurd c22 (by omega))
        refine g_lo [] trivial ?_
        exact hfin
  | succ m ih =>
    intro Y1 b I2 hY hI hJ h24 h18 hb1 hb2 hPD hPE hBG hlow hnn
    rcases List.eq_nil_or_concat Y1 with rfl | ⟨Z, ⟨o, j⟩, rfl⟩
    · cases hY
    simp only [List.concat_eq_append] at *
    simp only [List.length_append, List.length_cons, List.length_nil, Nat.zero_add] at hY h24 hb2
    obtain ⟨hPE0, p1, p2, p3, p4, p5⟩ := (PE.app Z).1 hPE
    obtain ⟨hBG0, p6⟩ := (BG.app Z).1 hBG
    have hb6 := bnd_le o
    rw [← List.append_assoc] at hPD
    have hab := PD.lt _ hPD
    by_cases hj : o = 29 ∨ o = 30
    · have hpos := PD.pos hj _ hPD
      rcases hj with rfl | rfl
      · skip
        refine g_aload_n d12_settle_0 rfl ?_
        refine g_get fl12_234 d12_settle_1 f_74_24 ?_
        refine g_topI (nI (N + (Z.length + 1))) (h24) ?_
        refine g_iz_le ((N + (Z.length + 1) : Nat) : Int) 101 (nI_ti (by omega)) d12_settle_4 rfl (fun c4 => absurd c4 (by omega)) (fun _ => ?_)
        refine g_aload_n d12_settle_7 rfl ?_
        refine g_get fl12_39 d12_settle_8 f_74_22 ?_
        refine g_aload_n d12_settle_11 rfl ?_
        refine g_get fl12_234 d12_settle_12 f_74_24 ?_
        refine g_topI (nI (N + (Z.length + 1))) (h24) ?_
        refine g_iconstv (nI 1) d12_settle_15 rfl ?_
        refine g_isubN (by omega) d12_settle_16 ?_
        refine g_ialdN ((N + (Z.length + 1) - 1)) d12_settle_17 a_83 (rfl) (by omega) (by decide) ?_
        refine g_topI (nI (29)) (by rw [show N + (Z.length + 1) - 1 = N + Z.length by omega]; exact p1) ?_
        refine g_ES1 sm12_binds ml12_237 (r12_binds (29) (by omega) (Nat.le_refl 0)) (by omega) (Nat.le_of_ble_eq_true rfl) d12_settle_18 ?_
        refine g_iload_n d12_settle_21 rfl ?_
        refine g_ic_lt (((bnd 29) : Nat) : Int) ((least : Nat) : Int) 101 (nI_ti (by omega)) (nI_ti (by omega)) d12_settle_22 rfl (fun c22 => absurd c22 (by omega)) (fun _ => ?_)
        refine g_aload_n d12_settle_25 rfl ?_
        refine g_dup d12_settle_26 rfl ?_
        refine g_get fl12_234 d12_settle_27 f_74_24 ?_
        refine g_topI (nI (N + (Z.length + 1))) (h24) ?_
        refine g_iconstv (nI 1) d12_settle_30 rfl ?_
        refine g_isubN (by omega) d12_settle_31 ?_
        refine g_topI (nI (N + Z.length)) (by congr 1) ?_
        refine g_putIh _ fl12_234 d12_settle_32 f_74_24 s_74_24 ?_
        refine g_aload_n d12_settle_35 rfl ?_
        refine g_get fl12_39 d12_settle_36 f_74_22 ?_
        refine g_aload_n d12_settle_39 rfl ?_
        refine g_get fl12_234 d12_settle_40 f_74_24 ?_
        refine g_topI (nI (N + Z.length)) (uI_ss) ?_
        refine g_ialdN (N + Z.length) d12_settle_43 a_83 (rfl) (by omega) (by decide) ?_
        refine g_topI (nI (29)) (p1) ?_
        refine g_bipushv (nI 29) d12_settle_44 rfl ?_
        refine g_ic_eq ((29 : Nat) : Int) (29) 63 (nI_ti (by omega)) (by decide) d12_settle_46 rfl (fun _ => ?_) (fun c46 => absurd c46 (by decide))
        refine g_aload_n d12_settle_63 rfl ?_
        refine g_get fl12_36 d12_settle_64 f_74_20 ?_
        refine g_aload_n d12_settle_67 rfl ?_
        refine g_get fl12_42 d12_settle_68 f_74_23 ?_
        refine g_aload_n d12_settle_71 rfl ?_
        refine g_get fl12_234 d12_settle_72 f_74_24 ?_
        refine g_topI (nI (N + Z.length)) (uI_ss) ?_
        refine g_ialdN (N + Z.length) d12_settle_75 a_84 (rfl) (by omega) (by decide) ?_
        refine g_topI (nI (j)) (p2) ?_
        refine g_aload_n d12_settle_76 rfl ?_
        refine g_get fl12_231 d12_settle_77 f_74_18 ?_
        refine g_topI (nI (b)) (h18) ?_
        refine g_iastN (j) _ d12_settle_80 a_82 (rfl) (by omega) (by decide) t_82 ?_
        refine g_goto 0 d12_settle_81 rfl ?_
        refine g_lo [(0, .ref 74), (1, .int (nI (least)))] ⟨rfl, rfl, trivial⟩ ?_
        refine ih Z b (uI (uI I2 74 24 (nI (N + Z.length))) 82 j (nI b)) (by omega) (fun k k1 k2 k3 => by rw [uI_n k2, uI_n k3]; exact hI k k1 k2 k3) (fun q q1 q2 => by rw [uI_n (by decide), uI_fn q2]; exact hJ q q1 q2) (by rw [uI_n (by decide), uI_ss]) (by rw [uI_n (by decide), uI_fn (by decide)]; exact h18) hb1 (by omega) ?_ ?_ hBG0 (fun k hk => ⟨(hlow k hk).1, by rw [uI_sn (by omega), uI_n (by decide)]; exact (hlow k hk).2⟩) (fun z => (hnn z).uj (by omega))
        · refine PD.popJ (op := opF I2) (arg := agF I2) (by omega) (Y0 ++ Z) (fun k k1 k2 => ⟨rfl, fun k3 => ?_⟩) ?_ hPD
          · show (uI _ 82 j _ 82 k).toNatClampNeg = _; rw [uI_sn k3]; rfl
          · show (uI _ 82 j _ 82 j).toNatClampNeg = _; rw [uI_ss]; exact nI_tc (by omega)
        · exact PE.cg (I := I2) Z (fun q q1 q2 => ⟨rfl, rfl⟩) hPE0
      · skip
        refine g_aload_n d12_settle_0 rfl ?_
        refine g_get fl12_234 d12_settle_1 f_74_24 ?_
        refine g_topI (nI (N + (Z.length + 1))) (h24) ?_
        refine g_iz_le ((N + (Z.length + 1) : Nat) : Int) 101 (nI_ti (by omega)) d12_settle_4 rfl (fun c4 => absurd c4 (by omega)) (fun _ => ?_)
        refine g_aload_n d12_settle_7 rfl ?_
        refine g_get fl12_39 d12_settle_8 f_74_22 ?_
        refine g_aload_n d12_settle_11 rfl ?_
        refine g_get fl12_234 d12_settle_12 f_74_24 ?_
        refine g_topI (nI (N + (Z.length + 1))) (h24) ?_
        refine g_iconstv (nI 1) d12_settle_15 rfl ?_
        refine g_isubN (by omega) d12_settle_16 ?_
        refine g_ialdN ((N + (Z.length + 1) - 1)) d12_settle_17 a_83 (rfl) (by omega) (by decide) ?_
        refine g_topI (nI (30)) (by rw [show N + (Z.length + 1) - 1 = N + Z.length by omega]; exact p1) ?_
        refine g_ES1 sm12_binds ml12_237 (r12_binds (30) (by omega) (Nat.le_refl 0)) (by omega) (Nat.le_of_ble_eq_true rfl) d12_settle_18 ?_
        refine g_iload_n d12_settle_21 rfl ?_
        refine g_ic_lt (((bnd 30) : Nat) : Int) ((least : Nat) : Int) 101 (nI_ti (by omega)) (nI_ti (by omega)) d12_settle_22 rfl (fun c22 => absurd c22 (by omega)) (fun _ => ?_)
        refine g_aload_n d12_settle_25 rfl ?_
        refine g_dup d12_settle_26 rfl ?_
        refine g_get fl12_234 d12_settle_27 f_74_24 ?_
        refine g_topI (nI (N + (Z.length + 1))) (h24) ?_
        refine g_iconstv (nI 1) d12_settle_30 rfl ?_
        refine g_isubN (by omega) d12_settle_31 ?_
        refine g_topI (nI (N + Z.length)) (by congr 1) ?_
        refine g_putIh _ fl12_234 d12_settle_32 f_74_24 s_74_24 ?_
        refine g_aload_n d12_settle_35 rfl ?_
        refine g_get fl12_39 d12_settle_36 f_74_22 ?_
        refine g_aload_n d12_settle_39 rfl ?_
        refine g_get fl12_234 d12_settle_40 f_74_24 ?_
        refine g_topI (nI (N + Z.length)) (uI_ss) ?_
        refine g_ialdN (N + Z.length) d12_settle_43 a_83 (rfl) (by omega) (by decide) ?_
        refine g_topI (nI (30)) (p1) ?_
        refine g_bipushv (nI 29) d12_settle_44 rfl ?_
        refine g_ic_eq ((30 : Nat) : Int) (29) 63 (nI_ti (by omega)) (by decide) d12_settle_46 rfl (fun c46 => absurd c46 (by decide)) (fun _ => ?_)
        refine g_aload_n d12_settle_49 rfl ?_
        refine g_get fl12_39 d12_settle_50 f_74_22 ?_
        refine g_aload_n d12_settle_53 rfl ?_
        refine g_get fl12_234 d12_settle_54 f_74_24 ?_
        refine g_topI (nI (N + Z.length)) (uI_ss) ?_
        refine g_ialdN (N + Z.length) d12_settle_57 a_83 (rfl) (by omega) (by decide) ?_
        refine g_topI (nI (30)) (p1) ?_
        refine g_bipushv (nI 30) d12_settle_58 rfl ?_
        refine g_ic_ne ((30 : Nat) : Int) (30) 84 (nI_ti (by omega)) (by decide) d12_settle_60 rfl (fun c60 => absurd c60 (by decide)) (fun _ => ?_)
        refine g_aload_n d12_settle_63 rfl ?_
        refine g_get fl12_36 d12_settle_64 f_74_20 ?_
        refine g_aload_n d12_settle_67 rfl ?_
        refine g_get fl12_42 d12_settle_68 f_74_23 ?_
        refine g_aload_n d12_settle_71 rfl ?_
        refine g_get fl12_234 d12_settle_72 f_74_24 ?_
        refine g_topI (nI (N + Z.length)) (uI_ss) ?_
        refine g_ialdN (N + Z.length) d12_settle_75 a_84 (rfl) (by omega) (by decide) ?_
        refine g_topI (nI (j)) (p2) ?_
        refine g_aload_n d12_settle_76 rfl ?_
        refine g_get fl12_231 d12_settle_77 f_74_18 ?_
        refine g_topI (nI (b)) (h18) ?_
        refine g_iastN (j) _ d12_settle_80 a_82 (rfl) (by omega) (by decide) t_82 ?_
        refine g_goto 0 d12_settle_81 rfl ?_
        refine g_lo [(0, .ref 74), (1, .int (nI (least)))] ⟨rfl, rfl, trivial⟩ ?_
        refine ih Z b (uI (uI I2 74 24 (nI (N + Z.length))) 82 j (nI b)) (by omega) (fun k k1 k2 k3 => by rw [uI_n k2, uI_n k3]; exact hI k k1 k2 k3) (fun q q1 q2 => by rw [uI_n (by decide), uI_fn q2]; exact hJ q q1 q2) (by rw [uI_n (by decide), uI_ss]) (by rw [uI_n (by decide), uI_fn (by decide)]; exact h18) hb1 (by omega) ?_ ?_ hBG0 (fun k hk => ⟨(hlow k hk).1, by rw [uI_sn (by omega), uI_n (by decide)]; exact (hlow k hk).2⟩) (fun z => (hnn z).uj (by omega))
        · refine PD.popJ (op := opF I2) (arg := agF I2) (by omega) (Y0 ++ Z) (fun k k1 k2 => ⟨rfl, fun k3 => ?_⟩) ?_ hPD
          · show (uI _ 82 j _ 82 k).toNatClampNeg = _; rw [uI_sn k3]; rfl
          · show (uI _ 82 j _ 82 j).toNatClampNeg = _; rw [uI_ss]; exact nI_tc (by omega)
        · exact PE.cg (I := I2) Z (fun q q1 q2 => ⟨rfl, rfl⟩) hPE0
    · skip
      refine g_aload_n d12_settle_0 rfl ?_
      refine g_get fl12_234 d12_settle_1 f_74_24 ?_
      refine g_topI (nI (N + (Z.length + 1))) (h24) ?_
      refine g_iz_le ((N + (Z.length + 1) : Nat) : Int) 101 (nI_ti (by omega)) d12_settle_4 rfl (fun c4 => absurd c4 (by omega)) (fun _ => ?_)
      refine g_aload_n d12_settle_7 rfl ?_
      refine g_get fl12_39 d12_settle_8 f_74_22 ?_
      refine g_aload_n d12_settle_11 rfl ?_
      refine g_get fl12_234 d12_settle_12 f_74_24 ?_
      refine g_topI (nI (N + (Z.length + 1))) (h24) ?_
      refine g_iconstv (nI 1) d12_settle_15 rfl ?_
      refine g_isubN (by omega) d12_settle_16 ?_
      refine g_ialdN ((N + (Z.length + 1) - 1)) d12_settle_17 a_83 (rfl) (by omega) (by decide) ?_
      refine g_topI (nI (o)) (by rw [show N + (Z.length + 1) - 1 = N + Z.length by omega]; exact p1) ?_
      refine g_ES1 sm12_binds ml12_237 (r12_binds (o) (by omega) (Nat.le_refl 0)) (by omega) (Nat.le_of_ble_eq_true rfl) d12_settle_18 ?_
      refine g_iload_n d12_settle_21 rfl ?_
      refine g_ic_lt (((bnd o) : Nat) : Int) ((least : Nat) : Int) 101 (nI_ti (by omega)) (nI_ti (by omega)) d12_settle_22 rfl (fun c22 => absurd c22 (by omega)) (fun _ => ?_)
      refine g_aload_n d12_settle_25 rfl ?_
      refine g_dup d12_settle_26 rfl ?_
      refine g_get fl12_234 d12_settle_27 f_74_24 ?_
      refine g_topI (nI (N + (Z.length + 1))) (h24) ?_
      refine g_iconstv (nI 1) d12_settle_30 rfl ?_
      refine g_isubN (by omega) d12_settle_31 ?_
      refine g_topI (nI (N + Z.length)) (by congr 1) ?_
      refine g_putIh _ fl12_234 d12_settle_32 f_74_24 s_74_24 ?_
      refine g_aload_n d12_settle_35 rfl ?_
      refine g_get fl12_39 d12_settle_36 f_74_22 ?_
      refine g_aload_n d12_settle_39 rfl ?_
      refine g_get fl12_234 d12_settle_40 f_74_24 ?_
      refine g_topI (nI (N + Z.length)) (uI_ss) ?_
      refine g_ialdN (N + Z.length) d12_settle_43 a_83 (rfl) (by omega) (by decide) ?_
      refine g_topI (nI (o)) (p1) ?_
      refine g_bipushv (nI 29) d12_settle_44 rfl ?_
      refine g_ic_eq ((o : Nat) : Int) (29) 63 (nI_ti (by omega)) (by decide) d12_settle_46 rfl (fun c46 => absurd c46 (by omega)) (fun _ => ?_)
      refine g_aload_n d12_settle_49 rfl ?_
      refine g_get fl12_39 d12_settle_50 f_74_22 ?_
      refine g_aload_n d12_settle_53 rfl ?_
      refine g_get fl12_234 d12_settle_54 f_74_24 ?_
      refine g_topI (nI (N + Z.length)) (uI_ss) ?_
      refine g_ialdN (N + Z.length) d12_settle_57 a_83 (rfl) (by omega) (by decide) ?_
      refine g_topI (nI (o)) (p1) ?_
      refine g_bipushv (nI 30) d12_settle_58 rfl ?_
      refine g_ic_ne ((o : Nat) : Int) (30) 84 (nI_ti (by omega)) (by decide) d12_settle_60 rfl (fun _ => ?_) (fun c60 => absurd c60 (by omega))
      refine g_aload_n d12_settle_84 rfl ?_
      refine g_aload_n d12_settle_85 rfl ?_
      refine g_get fl12_39 d12_settle_86 f_74_22 ?_
      refine g_aload_n d12_settle_89 rfl ?_
      refine g_get fl12_234 d12_settle_90 f_74_24 ?_
      refine g_topI (nI (N + Z.length)) (uI_ss) ?_
      refine g_ialdN (N + Z.length) d12_settle_93 a_83 (rfl) (by omega) (by decide) ?_
      refine g_topI (nI (o)) (p1) ?_
      refine g_iconstv (nI 0) d12_settle_94 rfl ?_
      refine g_VV2 vm12_emit ml12_240 c_74 (r12_emit (I := uI I2 74 24 (nI (N + Z.length))) b (by rw [uI_fn (by decide)]; exact h18) (by omega) (nI o) (nI 0) (Nat.le_refl 0)) (by omega) (Nat.le_of_ble_eq_true rfl) d12_settle_95 ?_
      refine g_goto 0 d12_settle_98 rfl ?_
      refine g_lo [(0, .ref 74), (1, .int (nI (least)))] ⟨rfl, rfl, trivial⟩ ?_
      refine ih Z (b + 1) (uI (uI (uI (uI I2 74 24 (nI (N + Z.length))) 81 b (nI o)) 82 b (nI 0)) 74 18 (nI (b + 1))) (by omega) (fun k k1 k2 k3 => by rw [uI_n k3, uI_n k2, uI_n k1, uI_n k3]; exact hI k k1 k2 k3) (fun q q1 q2 => by rw [uI_fn q1, uI_n (by decide), uI_n (by decide), uI_fn q2]; exact hJ q q1 q2) (by rw [uI_fn (by decide), uI_n (by decide), uI_n (by decide), uI_ss]) uI_ss (by omega) (by omega) ?_ ?_ hBG0 (fun k hk => ⟨?_, ?_⟩) (fun z => ((hnn z).em (o := o) (g := 0) (by omega) (by decide)))
      · refine PD.popE (op := opF I2) (arg := agF I2) (j := j) (by omega) (by omega : o ≤ 28) (Y0 ++ Z) (fun k k1 k2 => ⟨?_, ?_⟩) ?_ hPD
        · show (uI (uI (uI (uI I2 74 24 _) 81 b _) 82 b _) 74 18 _ 81 k).toNatClampNeg = (I2 81 k).toNatClampNeg
          rw [uI_n (by decide), uI_n (by decide), uI_sn (by omega), uI_n (by decide)]
        · show (uI (uI (uI (uI I2 74 24 _) 81 b _) 82 b _) 74 18 _ 82 k).toNatClampNeg = (I2 82 k).toNatClampNeg
          rw [uI_n (by decide), uI_sn (by omega), uI_n (by decide), uI_n (by decide)]
        · show (uI (uI (uI (uI I2 74 24 _) 81 b _) 82 b _) 74 18 _ 81 b).toNatClampNeg = o
          rw [uI_n (by decide), uI_n (by decide), uI_ss]; exact nI_tc (by omega)
      · exact PE.cg (I := I2) Z (fun q q1 q2 => ⟨rfl, rfl⟩) hPE0
      · rw [uI_n (by decide), uI_n (by decide), uI_sn (by omega), uI_n (by decide)]; exact (hlow k hk).1
      · rw [uI_n (by decide), uI_sn (by omega), uI_n (by decide), uI_n (by decide)]; exact (hlow k hk).2
theorem r12_settle {l : Launch} {K : cK} {d : Nat} {I : wI} {L : wL} {R : wR} {dy : cH} (Y0 Y1 : List (Nat × Nat)) (N a least b : Nat) (hl : least < 1000) (v : Den) (hBL : BL I N least) (h24 : I 74 24 = nI (N + Y1.length)) (h18 : I 74 18 = nI b) (hM : N + b + Y1.length ≤ 400) (hPD : PD (opF I) (agF I) (Y0 ++ Y1) a b v) (hPE : PE I N Y1) (hBG : BG least Y1) (hd : 1 ≤ d) :
    CW l K m12_settle d [.ref 74, .int (nI least)] (hp I L R dy) (α := wI × Nat) (ST I Y0 N a b v Y1.length) (fun x => hp x.1 L R dy) := by
  refine CC.of ok12_settle (Nat.le_of_ble_eq_true rfl) ?_
  refine g_lo [(0, .ref 74), (1, .int (nI least))] ⟨rfl, rfl, trivial⟩ ?_
  refine r12_setL Y0 N a least b Y1.length hl v hBL hM (fun x hx => ?_) hd Y1.length Y1 b I rfl (fun _ _ _ _ => rfl) (fun _ _ _ => rfl) h24 h18 (Nat.le_refl _) (Nat.le_refl _) hPD hPE hBG (fun _ _ => ⟨rfl, rfl⟩) (fun z => z)
  exact g_vret rfl d12_settle_101 ⟨x, hx, rfl, rfl⟩
def pF (I : wI) (q : Nat) : Nat := (I 83 q).toNatClampNeg
/-- the pile holds what it may -/
def PV (I : wI) (n : Nat) : Prop := ∀ q, q < n → I 83 q = nI (pF I q) ∧ 20 ≤ pF I q ∧ pF I q ≤ 32 ∧ ∃ j, I 84 q = nI j ∧ j < 400
theorem PV.mk {I : wI} {n : Nat} (h : ∀ q, q < n → ∃ o j, I 83 q = nI o ∧ I 84 q = nI j ∧ 20 ≤ o ∧ o ≤ 32 ∧ j < 400) : PV I n := fun q hq => by
  obtain ⟨o, j, h1, h2, h3, h4, h5⟩ := h q hq
  have e : pF I q = o := by unfold pF; rw [h1]; exact nI_tc (by omega)
  rw [e]; exact ⟨h1, h3, h4, j, h2, h5⟩
set_option maxHeartbeats 800000 in
theorem r12_setW {l : Launch} {K : cK} {d : Nat} {I : wI} {L : wL} {R : wR} {dy : cH} {Q : Option Value → cH → Prop} (least : Nat) (hl : least < 1000) (hd : 1 ≤ d)
    (kk : ∀ I3 : wI, (∀ k, k ≠ 81 → k ≠ 82 → k ≠ 74 → I3 k = I k) → (∀ j, j ≠ 18 → j ≠ 24 → I3 74 j = I 74 j) → GL l K m12_settle d 0 0 101 [] [] (hp I3 L R dy) Q) :
    ∀ (n b : Nat) (I2 : wI), (∀ k, k ≠ 81 → k ≠ 82 → k ≠ 74 → I2 k = I k) → (∀ j, j ≠ 18 → j ≠ 24 → I2 74 j = I 74 j) → I2 74 24 = nI n → I2 74 18 = nI b → b + n ≤ 400 → PV I2 n →
    GL l K m12_settle d 0 0 0 [(0, .ref 74), (1, .int (nI least))] [] (hp I2 L R dy) Q := by
  intro n
  induction n with
  | zero =>
    intro b I2 hI hJ h24 h18 hb hPV
    refine g_aload_n d12_settle_0 rfl ?_
    refine g_get fl12_234 d12_settle_1 f_74_24 ?_
    refine g_topI (nI (0)) (h24) ?_
    refine g_iz_le ((0 : Nat) : Int) 101 (nI_ti (by omega)) d12_settle_4 rfl (fun _ => ?_) (fun c4 => absurd c4 (by decide))
    refine g_lo [] trivial ?_
    exact kk I2 hI hJ
  | succ n ih =>
    intro b I2 hI hJ h24 h18 hb hPV
    obtain ⟨p1, p2, p3, j, p4, p5⟩ := hPV n (by omega)
    generalize hoo : pF I2 n = o at *
    have hb6 := bnd_le o
    by_cases hle : bnd o < least
    · skip
      refine g_aload_n d12_settle_0 rfl ?_
      refine g_get fl12_234 d12_settle_1 f_74_24 ?_
      refine g_topI (nI (n + 1)) (h24) ?_
      refine g_iz_le ((n + 1 : Nat) : Int) 101 (nI_ti (by omega)) d12_settle_4 rfl (fun c4 => absurd c4 (by omega)) (fun _ => ?_)
      refine g_aload_n d12_settle_7 rfl ?_
      refine g_get fl12_39 d12_settle_8 f_74_22 ?_
      refine g_aload_n d12_settle_11 rfl ?_
      refine g_get fl12_234 d12_settle_12 f_74_24 ?_
      refine g_topI (nI (n + 1)) (h24) ?_
      refine g_iconstv (nI 1) d12_settle_15 rfl ?_
      refine g_isubN (by omega) d12_settle_16 ?_
      refine g_ialdN ((n + 1 - 1)) d12_settle_17 a_83 (rfl) (by omega) (by decide) ?_
      refine g_topI (nI (o)) (p1) ?_
      refine g_ES1 sm12_binds ml12_237 (r12_binds (o) (by omega) (Nat.le_refl 0)) (by omega) (Nat.le_of_ble_eq_true rfl) d12_settle_18 ?_
      refine g_iload_n d12_settle_21 rfl ?_
      refine g_ic_lt (((bnd o) : Nat) : Int) ((least : Nat) : Int) 101 (nI_ti (by omega)) (nI_ti (by omega)) d12_settle_22 rfl (fun _ => ?_) (fun c22 => absurd c22 (by omega))
      refine g_lo [] trivial ?_
      exact kk I2 hI hJ
    · have hPV2 : PV I2 n := fun q hq => hPV q (by omega)
      rcases (by omega : o = 29 ∨ o = 30 ∨ (o ≠ 29 ∧ o ≠ 30)) with e | e | e
      · skip
        refine g_aload_n d12_settle_0 rfl ?_
        refine g_get fl12_234 d12_settle_1 f_74_24 ?_
        refine g_topI (nI (n + 1)) (h24) ?_
        refine g_iz_le ((n + 1 : Nat) : Int) 101 (nI_ti (by omega)) d12_settle_4 rfl (fun c4 => absurd c4 (by omega)) (fun _ => ?_)
        refine g_aload_n d12_settle_7 rfl ?_
        refine g_get fl12_39 d12_settle_8 f_74_22 ?_
        refine g_aload_n d12_settle_11 rfl ?_
        refine g_get fl12_234 d12_settle_12 f_74_24 ?_
        refine g_topI (nI (n + 1)) (h24) ?_
        refine g_iconstv (nI 1) d12_settle_15 rfl ?_
        refine g_isubN (by omega) d12_settle_16 ?_
        refine g_ialdN ((n + 1 - 1)) d12_settle_17 a_83 (rfl) (by omega) (by decide) ?_
        refine g_topI (nI (o)) (p1) ?_
        refine g_ES1 sm12_binds ml12_237 (r12_binds (o) (by omega) (Nat.le_refl 0)) (by omega) (Nat.le_of_ble_eq_true rfl) d12_settle_18 ?_
        refine g_iload_n d12_settle_21 rfl ?_
        refine g_ic_lt (((bnd o) : Nat) : Int) ((least : Nat) : Int) 101 (nI_ti (by omega)) (nI_ti (by omega)) d12_settle_22 rfl (fun c22 => absurd c22 (by omega)) (fun _ => ?_)
        refine g_aload_n d12_settle_25 rfl ?_
        refine g_dup d12_settle_26 rfl ?_
        refine g_get fl12_234 d12_settle_27 f_74_24 ?_
        refine g_topI (nI (n + 1)) (h24) ?_
        refine g_iconstv (nI 1) d12_settle_30 rfl ?_
        refine g_isubN (by omega) d12_settle_31 ?_
        refine g_topI (nI (n)) (by congr 1) ?_
        refine g_putIh _ fl12_234 d12_settle_32 f_74_24 s_74_24 ?_
        refine g_aload_n d12_settle_35 rfl ?_
        refine g_get fl12_39 d12_settle_36 f_74_22 ?_
        refine g_aload_n d12_settle_39 rfl ?_
        refine g_get fl12_234 d12_settle_40 f_74_24 ?_
        refine g_topI (nI (n)) (uI_ss) ?_
        refine g_ialdN (n) d12_settle_43 a_83 (rfl) (by omega) (by decide) ?_
        refine g_topI (nI (o)) (p1) ?_
        refine g_bipushv (nI 29) d12_settle_44 rfl ?_
        refine g_ic_eq ((o : Nat) : Int) (29) 63 (nI_ti (by omega)) (by decide) d12_settle_46 rfl (fun _ => ?_) (fun c46 => absurd c46 (by omega))
        refine g_aload_n d12_settle_63 rfl ?_
        refine g_get fl12_36 d12_settle_64 f_74_20 ?_
        refine g_aload_n d12_settle_67 rfl ?_
        refine g_get fl12_42 d12_settle_68 f_74_23 ?_
        refine g_aload_n d12_settle_71 rfl ?_
        refine g_get fl12_234 d12_settle_72 f_74_24 ?_
        refine g_topI (nI (n)) (uI_ss) ?_
        refine g_ialdN (n) d12_settle_75 a_84 (rfl) (by omega) (by decide) ?_
        refine g_topI (nI (j)) (p4) ?_
        refine g_aload_n d12_settle_76 rfl ?_
        refine g_get fl12_231 d12_settle_77 f_74_18 ?_
        refine g_topI (nI (b)) (h18) ?_
        refine g_iastN (j) _ d12_settle_80 a_82 (rfl) (by omega) (by decide) t_82 ?_
        refine g_goto 0 d12_settle_81 rfl ?_
        refine g_lo [(0, .ref 74), (1, .int (nI (least)))] ⟨rfl, rfl, trivial⟩ ?_
        refine ih b _ (fun k k1 k2 k3 => by rw [uI_n k2, uI_n k3]; exact hI k k1 k2 k3) (fun q q1 q2 => by rw [uI_n (by decide), uI_fn q2]; exact hJ q q1 q2) (by rw [uI_n (by decide), uI_ss]) (by rw [uI_n (by decide), uI_fn (by decide)]; exact h18) (by omega) (fun q hq => hPV2 q hq)
      · skip
        refine g_aload_n d12_settle_0 rfl ?_
        refine g_get fl12_234 d12_settle_1 f_74_24 ?_
        refine g_topI (nI (n + 1)) (h24) ?_
        refine g_iz_le ((n + 1 : Nat) : Int) 101 (nI_ti (by omega)) d12_settle_4 rfl (fun c4 => absurd c4 (by omega)) (fun _ => ?_)
        refine g_aload_n d12_settle_7 rfl ?_
        refine g_get fl12_39 d12_settle_8 f_74_22 ?_
        refine g_aload_n d12_settle_11 rfl ?_
        refine g_get fl12_234 d12_settle_12 f_74_24 ?_
        refine g_topI (nI (n + 1)) (h24) ?_
        refine g_iconstv (nI 1) d12_settle_15 rfl ?_
        refine g_isubN (by omega) d12_settle_16 ?_
        refine g_ialdN ((n + 1 - 1)) d12_settle_17 a_83 (rfl) (by omega) (by decide) ?_
        refine g_topI (nI (o)) (p1) ?_
        refine g_ES1 sm12_binds ml12_237 (r12_binds (o) (by omega) (Nat.le_refl 0)) (by omega) (Nat.le_of_ble_eq_true rfl) d12_settle_18 ?_
        refine g_iload_n d12_settle_21 rfl ?_
        refine g_ic_lt (((bnd o) : Nat) : Int) ((least : Nat) : Int) 101 (nI_ti (by omega)) (nI_ti (by omega)) d12_settle_22 rfl (fun c22 => absurd c22 (by omega)) (fun _ => ?_)
        refine g_aload_n d12_settle_25 rfl ?_
        refine g_dup d12_settle_26 rfl ?_
        refine g_get fl12_234 d12_settle_27 f_74_24 ?_
        refine g_topI (nI (n + 1)) (h24) ?_
        refine g_iconstv (nI 1) d12_settle_30 rfl ?_
        refine g_isubN (by omega) d12_settle_31 ?_
        refine g_topI (nI (n)) (by congr 1) ?_
        refine g_putIh _ fl12_234 d12_settle_32 f_74_24 s_74_24 ?_
        refine g_aload_n d12_settle_35 rfl ?_
        refine g_get fl12_39 d12_settle_36 f_74_22 ?_
        refine g_aload_n d12_settle_39 rfl ?_
        refine g_get fl12_234 d12_settle_40 f_74_24 ?_
        refine g_topI (nI (n)) (uI_ss) ?_
        refine g_ialdN (n) d12_settle_43 a_83 (rfl) (by omega) (by decide) ?_
        refine g_topI (nI (o)) (p1) ?_
        refine g_bipushv (nI 29) d12_settle_44 rfl ?_
        refine g_ic_eq ((o : Nat) : Int) (29) 63 (nI_ti (by omega)) (by decide) d12_settle_46 rfl (fun c46 => absurd c46 (by omega)) (fun _ => ?_)
        refine g_aload_n d12_settle_49 rfl ?_
        refine g_get fl12_39 d12_settle_50 f_74_22 ?_
        refine g_aload_n d12_settle_53 rfl ?_
        refine g_get fl12_234 d12_settle_54 f_74_24 ?_
        refine g_topI (nI (n)) (uI_ss) ?_
        refine g_ialdN (n) d12_settle_57 a_83 (rfl) (by omega) (by decide) ?_
        refine g_topI (nI (o)) (p1) ?_
        refine g_bipushv (nI 30) d12_settle_58 rfl ?_
        refine g_ic_ne ((o : Nat) : Int) (30) 84 (nI_ti (by omega)) (by decide) d12_settle_60 rfl (fun c60 => absurd c60 (by omega)) (fun _ => ?_)
        refine g_aload_n d12_settle_63 rfl ?_
        refine g_get fl12_36 d12_settle_64 f_74_20 ?_
        refine g_aload_n d12_settle_67 rfl ?_
        refine g_get fl12_42 d12_settle_68 f_74_23 ?_
        refine g_aload_n d12_settle_71 rfl ?_
        refine g_get fl12_234 d12_settle_72 f_74_24 ?_
        refine g_topI (nI (n)) (uI_ss) ?_
        refine g_ialdN (n) d12_settle_75 a_84 (rfl) (by omega) (by decide) ?_
        refine g_topI (nI (j)) (p4) ?_
        refine g_aload_n d12_settle_76 rfl ?_
        refine g_get fl12_231 d12_settle_77 f_74_18 ?_
        refine g_topI (nI (b)) (h18) ?_
        refine g_iastN (j) _ d12_settle_80 a_82 (rfl) (by omega) (by decide) t_82 ?_
        refine g_goto 0 d12_settle_81 rfl ?_
        refine g_lo [(0, .ref 74), (1, .int (nI (least)))] ⟨rfl, rfl, trivial⟩ ?_
        refine ih b _ (fun k k1 k2 k3 => by rw [uI_n k2, uI_n k3]; exact hI k k1 k2 k3) (fun q q1 q2 => by rw [uI_n (by decide), uI_fn q2]; exact hJ q q1 q2) (by rw [uI_n (by decide), uI_ss]) (by rw [uI_n (by decide), uI_fn (by decide)]; exact h18) (by omega) (fun q hq => hPV2 q hq)
      · skip
        refine g_aload_n d12_settle_0 rfl ?_
        refine g_get fl12_234 d12_settle_1 f_74_24 ?_
        refine g_topI (nI (n + 1)) (h24) ?_
        refine g_iz_le ((n + 1 : Nat) : Int) 101 (nI_ti (by omega)) d12_settle_4 rfl (fun c4 => absurd c4 (by omega)) (fun _ => ?_)
        refine g_aload_n d12_settle_7 rfl ?_
        refine g_get fl12_39 d12_settle_8 f_74_22 ?_
        refine g_aload_n d12_settle_11 rfl ?_
        refine g_get fl12_234 d12_settle_12 f_74_24 ?_
        refine g_topI (nI (n + 1)) (h24) ?_
        refine g_iconstv (nI 1) d12_settle_15 rfl ?_
        refine g_isubN (by omega) d12_settle_16 ?_
        refine g_ialdN ((n + 1 - 1)) d12_settle_17 a_83 (rfl) (by omega) (by decide) ?_
        refine g_topI (nI (o)) (p1) ?_
        refine g_ES1 sm12_binds ml12_237 (r12_binds (o) (by omega) (Nat.le_refl 0)) (by omega) (Nat.le_of_ble_eq_true rfl) d12_settle_18 ?_
        refine g_iload_n d12_settle_21 rfl ?_
        refine g_ic_lt (((bnd o) : Nat) : Int) ((least : Nat) : Int) 101 (nI_ti (by omega)) (nI_ti (by omega)) d12_settle_22 rfl (fun c22 => absurd c22 (by omega)) (fun _ => ?_)
        refine g_aload_n d12_settle_25 rfl ?_
        refine g_dup d12_settle_26 rfl ?_
        refine g_get fl12_234 d12_settle_27 f_74_24 ?_
        refine g_topI (nI (n + 1)) (h24) ?_
        refine g_iconstv (nI 1) d12_settle_30 rfl ?_
        refine g_isubN (by omega) d12_settle_31 ?_
        refine g_topI (nI (n)) (by congr 1) ?_
        refine g_putIh _ fl12_234 d12_settle_32 f_74_24 s_74_24 ?_
        refine g_aload_n d12_settle_35 rfl ?_
        refine g_get fl12_39 d12_settle_36 f_74_22 ?_
        refine g_aload_n d12_settle_39 rfl ?_
        refine g_get fl12_234 d12_settle_40 f_74_24 ?_
        refine g_topI (nI (n)) (uI_ss) ?_
        refine g_ialdN (n) d12_settle_43 a_83 (rfl) (by omega) (by decide) ?_
        refine g_topI (nI (o)) (p1) ?_
        refine g_bipushv (nI 29) d12_settle_44 rfl ?_
        refine g_ic_eq ((o : Nat) : Int) (29) 63 (nI_ti (by omega)) (by decide) d12_settle_46 rfl (fun c46 => absurd c46 (by omega)) (fun _ => ?_)
        refine g_aload_n d12_settle_49 rfl ?_
        refine g_get fl12_39 d12_settle_50 f_74_22 ?_
        refine g_aload_n d12_settle_53 rfl ?_
        refine g_get fl12_234 d12_settle_54 f_74_24 ?_
        refine g_topI (nI (n)) (uI_ss) ?_
        refine g_ialdN (n) d12_settle_57 a_83 (rfl) (by omega) (by decide) ?_
        refine g_topI (nI (o)) (p1) ?_
        refine g_bipushv (nI 30) d12_settle_58 rfl ?_
        refine g_ic_ne ((o : Nat) : Int) (30) 84 (nI_ti (by omega)) (by decide) d12_settle_60 rfl (fun _ => ?_) (fun c60 => absurd c60 (by omega))
        refine g_aload_n d12_settle_84 rfl ?_
        refine g_aload_n d12_settle_85 rfl ?_
        refine g_get fl12_39 d12_settle_86 f_74_22 ?_
        refine g_aload_n d12_settle_89 rfl ?_
        refine g_get fl12_234 d12_settle_90 f_74_24 ?_
        refine g_topI (nI (n)) (uI_ss) ?_
        refine g_ialdN (n) d12_settle_93 a_83 (rfl) (by omega) (by decide) ?_
        refine g_topI (nI (o)) (p1) ?_
        refine g_iconstv (nI 0) d12_settle_94 rfl ?_
        refine g_VV2 vm12_emit ml12_240 c_74 (r12_emit (I := uI I2 74 24 (nI n)) b (by rw [uI_fn (by decide)]; exact h18) (by omega) (nI o) (nI 0) (Nat.le_refl 0)) (by omega) (Nat.le_of_ble_eq_true rfl) d12_settle_95 ?_
        refine g_goto 0 d12_settle_98 rfl ?_
        refine g_lo [(0, .ref 74), (1, .int (nI (least)))] ⟨rfl, rfl, trivial⟩ ?_
        refine ih (b + 1) _ (fun k k1 k2 k3 => by rw [uI_n k3, uI_n k2, uI_n k1, uI_n k3]; exact hI k k1 k2 k3) (fun q q1 q2 => by rw [uI_fn q1, uI_n (by decide), uI_n (by decide), uI_fn q2]; exact hJ q q1 q2) (by rw [uI_fn (by decide), uI_n (by decide), uI_n (by decide), uI_ss]) uI_ss (by omega) (fun q hq => hPV2 q hq)
theorem r12_settleW {l : Launch} {K : cK} {d : Nat} {I : wI} {L : wL} {R : wR} {dy : cH} (n b least : Nat) (hl : least < 1000) (h24 : I 74 24 = nI n) (h18 : I 74 18 = nI b) (hM : b + n ≤ 400) (hPV : PV I n) (hd : 1 ≤ d) :
    CW l K m12_settle d [.ref 74, .int (nI least)] (hp I L R dy) (α := wI) (fun x => (∀ k, k ≠ 81 → k ≠ 82 → k ≠ 74 → x k = I k) ∧ ∀ j, j ≠ 18 → j ≠ 24 → x 74 j = I 74 j) (fun x => hp x L R dy) := by
  refine CC.of ok12_settle (Nat.le_of_ble_eq_true rfl) ?_
  refine g_lo [(0, .ref 74), (1, .int (nI least))] ⟨rfl, rfl, trivial⟩ ?_
  refine r12_setW least hl hd (fun x h1 h2 => ?_) n b I (fun _ _ _ _ => rfl) (fun _ _ _ => rfl) h24 h18 hM hPV
  exact g_vret rfl d12_settle_101 ⟨x, ⟨h1, h2⟩, rfl, rfl⟩
def ibI (m : Nat) : Int32 := if m = 0 then -1 else nI m
theorem ibI_ti {m : Nat} (h : m < 1000) : (ibI m).toInt = if m = 0 then -1 else (m : Int) := by
  unfold ibI
  by_cases e : m = 0
  · rw [if_pos e, if_pos e]; rfl
  · rw [if_neg e, if_neg e]; exact nI_ti (by omega)
def ib (X : Nat → Nat) : Nat → Nat
  | 0 => 0
  | k + 1 => if 31 ≤ X k then X k else ib X k
theorem ib_le (X : Nat → Nat) : ∀ n, (∀ q, q < n → X q ≤ 32) → ib X n = 0 ∨ ib X n = 31 ∨ ib X n = 32
  | 0, _ => Or.inl rfl
  | k + 1, h => by
    have := h k (by omega)
    by_cases e : 31 ≤ X k
    · rw [show ib X (k + 1) = X k from if_pos e]; omega
    · rw [show ib X (k + 1) = ib X k from if_neg e]; exact ib_le X k (fun q hq => h q (by omega))
def ic (X : Nat → Nat) : Nat → Bool
  | 0 => false
  | k + 1 => if 20 ≤ X k ∧ X k ≤ 24 then ic X k else decide (25 ≤ X k ∧ X k ≤ 27)
set_option maxHeartbeats 400000 in
theorem r12_inL {l : Launch} {K : cK} {d : Nat} {I : wI} {L : wL} {R : wR} {dy : cH} {Q : Option Value → cH → Prop} (n : Nat) (h24 : I 74 24 = nI n) (hn : n ≤ 400) (hPV : PV I n)
    (kk : (n ≤ n) → GL l K m12_inner d 0 0 40 [(0, .ref 74), (1, .int (ibI (ib (pF I) (n))))] [] (hp I L R dy) Q) :
    ∀ (zn k : Nat) , k + zn = n → (k ≤ n) → GL l K m12_inner d 0 0 4 [(0, .ref 74), (1, .int (ibI (ib (pF I) (k)))), (2, .int (nI (k)))] [] (hp I L R dy) Q := by
  intro zn
  induction zn with
  | zero =>
    intro k  hin hk
    obtain rfl : n = k := by omega
    refine g_iload_n d12_inner_4 rfl ?_
    refine g_aload_n d12_inner_5 rfl ?_
    refine g_get fl12_234 d12_inner_6 f_74_24 ?_
    refine g_topI (nI (n)) (h24) ?_
    refine g_ic_ge ((n : Nat) : Int) ((n : Nat) : Int) 40 (nI_ti (by omega)) (nI_ti (by omega)) d12_inner_9 rfl (fun _ => ?_) (fun c9 => absurd c9 (by omega))
    refine g_lo [(0, .ref 74), (1, .int (ibI (ib (pF I) (n))))] ⟨rfl, rfl, trivial⟩ ?_
    exact kk  hk
  | succ zn ih =>
    intro k  hin hk
    obtain ⟨p1, p2, p3, p4⟩ := hPV k (by omega)
    by_cases e : 31 ≤ pF I k
    · skip
      refine g_iload_n d12_inner_4 rfl ?_
      refine g_aload_n d12_inner_5 rfl ?_
      refine g_get fl12_234 d12_inner_6 f_74_24 ?_
      refine g_topI (nI (n)) (h24) ?_
      refine g_ic_ge ((k : Nat) : Int) ((n : Nat) : Int) 40 (nI_ti (by omega)) (nI_ti (by omega)) d12_inner_9 rfl (fun c9 => absurd c9 (by omega)) (fun _ => ?_)
      refine g_aload_n d12_inner_12 rfl ?_
      refine g_get fl12_39 d12_inner_13 f_74_22 ?_
      refine g_iload_n d12_inner_16 rfl ?_
      refine g_ialdN (k) d12_inner_17 a_83 (rfl) (by omega) (by decide) ?_
      refine g_topI (nI (pF I k)) (p1) ?_
      refine g_bipushv (nI 31) d12_inner_18 rfl ?_
      refine g_ic_lt ((pF I k : Nat) : Int) (31) 32 (nI_ti (by omega)) (by decide) d12_inner_20 rfl (fun c20 => absurd c20 (by omega)) (fun _ => ?_)
      refine g_aload_n d12_inner_23 rfl ?_
      refine g_get fl12_39 d12_inner_24 f_74_22 ?_
      refine g_iload_n d12_inner_27 rfl ?_
      refine g_ialdN (k) d12_inner_28 a_83 (rfl) (by omega) (by decide) ?_
      refine g_topI (nI (pF I k)) (p1) ?_
      refine g_goto 33 d12_inner_29 rfl ?_
      refine g_istore_n d12_inner_33 (by decide) ?_
      refine g_iincN d12_inner_34 rfl (by decide) ?_
      refine g_goto 4 d12_inner_37 rfl ?_
      refine g_lo [(0, .ref 74), (1, .int (ibI (ib (pF I) (k + 1)))), (2, .int (nI (k + 1)))] ⟨rfl, by rw [show ib (pF I) (k + 1) = pF I k from if_pos e, show ibI (pF I k) = nI (pF I k) from if_neg (by omega)]; rfl, rfl, trivial⟩ ?_
      exact ih (k + 1) (by omega) (by omega)
    · skip
      refine g_iload_n d12_inner_4 rfl ?_
      refine g_aload_n d12_inner_5 rfl ?_
      refine g_get fl12_234 d12_inner_6 f_74_24 ?_
      refine g_topI (nI (n)) (h24) ?_
      refine g_ic_ge ((k : Nat) : Int) ((n : Nat) : Int) 40 (nI_ti (by omega)) (nI_ti (by omega)) d12_inner_9 rfl (fun c9 => absurd c9 (by omega)) (fun _ => ?_)
      refine g_aload_n d12_inner_12 rfl ?_
      refine g_get fl12_39 d12_inner_13 f_74_22 ?_
      refine g_iload_n d12_inner_16 rfl ?_
      refine g_ialdN (k) d12_inner_17 a_83 (rfl) (by omega) (by decide) ?_
      refine g_topI (nI (pF I k)) (p1) ?_
      refine g_bipushv (nI 31) d12_inner_18 rfl ?_
      refine g_ic_lt ((pF I k : Nat) : Int) (31) 32 (nI_ti (by omega)) (by decide) d12_inner_20 rfl (fun _ => ?_) (fun c20 => absurd c20 (by omega))
      refine g_iload_n d12_inner_32 rfl ?_
      refine g_istore_n d12_inner_33 (by decide) ?_
      refine g_iincN d12_inner_34 rfl (by decide) ?_
      refine g_goto 4 d12_inner_37 rfl ?_
      refine g_lo [(0, .ref 74), (1, .int (ibI (ib (pF I) (k + 1)))), (2, .int (nI (k + 1)))] ⟨rfl, by rw [show ib (pF I) (k + 1) = ib (pF I) k from if_neg e]; rfl, rfl, trivial⟩ ?_
      exact ih (k + 1) (by omega) (by omega)
set_option maxHeartbeats 200000 in
theorem r12_inner {l : Launch} {K : cK} {d : Nat} {I : wI} {L : wL} {R : wR} {dy : cH} (n : Nat) (h24 : I 74 24 = nI n) (hn : n ≤ 400) (hPV : PV I n) (hd : 0 ≤ d) : CE l K m12_inner d [.ref 74] (hp I L R dy) (.int (ibI (ib (pF I) n))) (hp I L R dy) := by
  refine CC.of ok12_inner (Nat.le_of_ble_eq_true rfl) ?_
  refine g_iconstv ((-1 : Int32)) d12_inner_0 rfl ?_
  refine g_istore_n d12_inner_1 (by decide) ?_
  refine g_iconstv (nI 0) d12_inner_2 rfl ?_
  refine g_istore_n d12_inner_3 (by decide) ?_
  refine g_lo [(0, .ref 74), (1, .int (ibI (ib (pF I) 0))), (2, .int (nI (0)))] ⟨rfl, rfl, rfl, trivial⟩ ?_
  refine r12_inL n h24 hn hPV (fun _ => ?_) n 0 (by omega) (by omega)
  refine g_iload_n d12_inner_40 rfl ?_
  exact g_iret rfl d12_inner_41 (⟨rfl, rfl⟩)
set_option maxHeartbeats 400000 in
theorem r12_icL {l : Launch} {K : cK} {d : Nat} {I : wI} {L : wL} {R : wR} {dy : cH} (n : Nat) (h24 : I 74 24 = nI n) (hn : n ≤ 400) (hPV : PV I n) (hd : 1 ≤ d) : ∀ k, k ≤ n → GL l K m12_isCompared d 0 0 7 [(0, .ref 74), (1, .int (mkI k))] [] (hp I L R dy) (fun r h => r = some (.int (if ic (pF I) k = true then 1 else 0)) ∧ h = hp I L R dy) := by
  intro k
  induction k with
  | zero =>
    intro hk
    refine g_iload_n d12_isCompared_7 rfl ?_
    refine g_iz_lt (-1) 36 (by decide) d12_isCompared_8 rfl (fun _ => ?_) (fun c8 => absurd c8 (by decide))
    refine g_iload_n d12_isCompared_36 rfl ?_
    refine g_iz_lt (-1) 63 (by decide) d12_isCompared_37 rfl (fun _ => ?_) (fun c37 => absurd c37 (by decide))
    refine g_iconstv (nI 0) d12_isCompared_63 rfl ?_
    exact g_zret rfl (by decide) d12_isCompared_64 (⟨rfl, rfl⟩)
  | succ k ih =>
    intro hk
    obtain ⟨p1, p2, p3, p4⟩ := hPV k (by omega)
    rw [mkI_s]
    by_cases e : 20 ≤ pF I k ∧ pF I k ≤ 24
    · rw [show ic (pF I) (k + 1) = ic (pF I) k from if_pos e]
      refine g_iload_n d12_isCompared_7 rfl ?_
      refine g_iz_lt ((k : Nat) : Int) 36 (nI_ti (by omega)) d12_isCompared_8 rfl (fun c8 => absurd c8 (by omega)) (fun _ => ?_)
      refine g_aload_n d12_isCompared_11 rfl ?_
      refine g_get fl12_39 d12_isCompared_12 f_74_22 ?_
      refine g_iload_n d12_isCompared_15 rfl ?_
      refine g_ialdN (k) d12_isCompared_16 a_83 (rfl) (by omega) (by decide) ?_
      refine g_topI (nI (pF I k)) (p1) ?_
      refine g_i2lN (by omega) d12_isCompared_17 ?_
      refine g_ldc2 d12_isCompared_18 kl12_244 ?_
      refine g_ldc2 d12_isCompared_21 kl12_246 ?_
      refine g_ES3 sm12_in ml12_134 (r12_inI (vi := ((pF I k : Nat) : Int)) (ai := (20)) (bi := (24)) (pk_lT (by omega)) (by decide) (by decide) (Nat.le_refl 0)) (by omega) (Nat.le_of_ble_eq_true rfl) d12_isCompared_24 ?_
      refine g_bz 36 d12_isCompared_27 rfl (fun c27 => absurd c27 (by first | exact fun z => z ⟨by omega, by omega⟩ | exact c27 ⟨by omega, by omega⟩)) (fun _ => ?_)
      refine g_iinc (mkI k) d12_isCompared_30 rfl (by cases k with | zero => decide | succ k => rw [mkI_s, nI_dec (by omega)]; rfl) (by decide) ?_
      refine g_goto 7 d12_isCompared_33 rfl ?_
      refine g_lo [(0, .ref 74), (1, .int (mkI k))] ⟨rfl, rfl, trivial⟩ ?_
      exact ih (by omega)
    · rw [show ic (pF I) (k + 1) = decide (25 ≤ pF I k ∧ pF I k ≤ 27) from if_neg e]
      refine g_iload_n d12_isCompared_7 rfl ?_
      refine g_iz_lt ((k : Nat) : Int) 36 (nI_ti (by omega)) d12_isCompared_8 rfl (fun c8 => absurd c8 (by omega)) (fun _ => ?_)
      refine g_aload_n d12_isCompared_11 rfl ?_
      refine g_get fl12_39 d12_isCompared_12 f_74_22 ?_
      refine g_iload_n d12_isCompared_15 rfl ?_
      refine g_ialdN (k) d12_isCompared_16 a_83 (rfl) (by omega) (by decide) ?_
      refine g_topI (nI (pF I k)) (p1) ?_
      refine g_i2lN (by omega) d12_isCompared_17 ?_
      refine g_ldc2 d12_isCompared_18 kl12_244 ?_
      refine g_ldc2 d12_isCompared_21 kl12_246 ?_
      refine g_ES3 sm12_in ml12_134 (r12_inI (vi := ((pF I k : Nat) : Int)) (ai := (20)) (bi := (24)) (pk_lT (by omega)) (by decide) (by decide) (Nat.le_refl 0)) (by omega) (Nat.le_of_ble_eq_true rfl) d12_isCompared_24 ?_
      refine g_bz 36 d12_isCompared_27 rfl (fun _ => ?_) (fun c27 => absurd c27 (fun z => e ⟨by omega, by omega⟩))
      refine g_iload_n d12_isCompared_36 rfl ?_
      refine g_iz_lt ((k : Nat) : Int) 63 (nI_ti (by omega)) d12_isCompared_37 rfl (fun c37 => absurd c37 (by omega)) (fun _ => ?_)
      refine g_aload_n d12_isCompared_40 rfl ?_
      refine g_get fl12_39 d12_isCompared_41 f_74_22 ?_
      refine g_iload_n d12_isCompared_44 rfl ?_
      refine g_ialdN (k) d12_isCompared_45 a_83 (rfl) (by omega) (by decide) ?_
      refine g_topI (nI (pF I k)) (p1) ?_
      refine g_i2lN (by omega) d12_isCompared_46 ?_
      refine g_ldc2 d12_isCompared_47 kl12_248 ?_
      refine g_ldc2 d12_isCompared_50 kl12_250 ?_
      refine g_ES3 sm12_in ml12_134 (r12_inI (vi := ((pF I k : Nat) : Int)) (ai := (25)) (bi := (27)) (pk_lT (by omega)) (by decide) (by decide) (Nat.le_refl 0)) (by omega) (Nat.le_of_ble_eq_true rfl) d12_isCompared_53 ?_
      refine g_bz 63 d12_isCompared_56 rfl (fun c56 => ?_) (fun c56 => ?_)
      · refine g_iconstv (nI 0) d12_isCompared_63 rfl ?_
        exact g_zret rfl (by decide) d12_isCompared_64 (⟨congrArg (fun z => some (Value.int z)) (by first | exact (if_pos (decide_eq_true ⟨by omega, by omega⟩)).symm | exact (if_neg (fun z => c56 (by have := of_decide_eq_true z; omega))).symm), rfl⟩)
      · refine g_iconstv (nI 1) d12_isCompared_59 rfl ?_
        refine g_goto 64 d12_isCompared_60 rfl ?_
        exact g_zret rfl (by decide) d12_isCompared_64 (⟨congrArg (fun z => some (Value.int z)) (by first | exact (if_pos (decide_eq_true ⟨by omega, by omega⟩)).symm | exact (if_neg (fun z => c56 (by have := of_decide_eq_true z; omega))).symm), rfl⟩)
set_option maxHeartbeats 200000 in
theorem r12_isCompared {l : Launch} {K : cK} {d : Nat} {I : wI} {L : wL} {R : wR} {dy : cH} (n : Nat) (h24 : I 74 24 = nI n) (hn : n ≤ 400) (hPV : PV I n) (hd : 1 ≤ d) : CE l K m12_isCompared d [.ref 74] (hp I L R dy) (.int (if ic (pF I) n = true then 1 else 0)) (hp I L R dy) := by
  refine CC.of ok12_isCompared (Nat.le_of_ble_eq_true rfl) ?_
  refine g_aload_n d12_isCompared_0 rfl ?_
  refine g_get fl12_234 d12_isCompared_1 f_74_24 ?_
  refine g_topI (nI (n)) (h24) ?_
  refine g_iconstv (nI 1) d12_isCompared_4 rfl ?_
  refine g_isub d12_isCompared_5 ?_
  refine g_topI (mkI n) (by cases n with | zero => decide | succ n => rw [mkI_s, pk_sub (by omega)]; rfl) ?_
  refine g_istore_n d12_isCompared_6 (by decide) ?_
  refine g_lo [(0, .ref 74), (1, .int (mkI n))] ⟨rfl, rfl, trivial⟩ ?_
  exact r12_icL n h24 hn hPV (by omega) n (Nat.le_refl _)
