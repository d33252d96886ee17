theorem uL_sn {L : wL} {k j b : Nat} {x : Int64} (h : b ≠ j) : uL L k j x k b = L k b := by simp [uL, vp_updL, h]
theorem uL_ss {L : wL} {k j : Nat} {x : Int64} : uL L k j x k j = x := by simp [uL, vp_updL]
/-- what has changed of a world: cells of ints, fields of the model's, cells of longs, fields of the model's -/
def FR (ci cj cl ck : List Nat) (I : wI) (L : wL) (I2 : wI) (L2 : wL) : Prop := (∀ k, k ∉ ci → k ≠ 74 → I2 k = I k) ∧ (∀ j, j ∉ cj → I2 74 j = I 74 j) ∧ (∀ k, k ∉ cl → k ≠ 74 → L2 k = L k) ∧ ∀ j, j ∉ ck → L2 74 j = L 74 j
theorem FR.rf {ci cj cl ck : List Nat} {I : wI} {L : wL} : FR ci cj cl ck I L I L := ⟨fun _ _ _ => rfl, fun _ _ => rfl, fun _ _ _ => rfl, fun _ _ => rfl⟩
theorem FR.tr {ci cj cl ck : List Nat} {I I2 I3 : wI} {L L2 L3 : wL} (h : FR ci cj cl ck I L I2 L2) (h2 : FR ci cj cl ck I2 L2 I3 L3) : FR ci cj cl ck I L I3 L3 :=
  ⟨fun k a b => (h2.1 k a b).trans (h.1 k a b), fun j a => (h2.2.1 j a).trans (h.2.1 j a), fun k a b => (h2.2.2.1 k a b).trans (h.2.2.1 k a b), fun j a => (h2.2.2.2 j a).trans (h.2.2.2 j a)⟩
theorem FR.up {ci cj cl ck ci2 cj2 cl2 ck2 : List Nat} {I I2 : wI} {L L2 : wL} (h : FR ci cj cl ck I L I2 L2) (h1 : ∀ k ∈ ci, k ∈ ci2) (h2 : ∀ k ∈ cj, k ∈ cj2) (h3 : ∀ k ∈ cl, k ∈ cl2) (h4 : ∀ k ∈ ck, k ∈ ck2) : FR ci2 cj2 cl2 ck2 I L I2 L2 :=
  ⟨fun k a b => h.1 k (fun q => a (h1 k q)) b, fun j a => h.2.1 j (fun q => a (h2 j q)), fun k a b => h.2.2.1 k (fun q => a (h3 k q)) b, fun j a => h.2.2.2 j (fun q => a (h4 j q))⟩
theorem SF.fr {I : wI} {L : wL} {x : wI × wL} (h : SF I L x) : FR [] [28, 32] [87, 88, 89] [33, 34] I L x.1 x.2 :=
  ⟨fun k _ b => h.1 k b, fun j a => h.2.1 j (fun q => a (by simp [q])) (fun q => a (by simp [q])), fun k a b => h.2.2.1 k b (fun q => a (by simp [q])) (fun q => a (by simp [q])) (fun q => a (by simp [q])), fun j a => h.2.2.2 j (fun q => a (by simp [q])) (fun q => a (by simp [q]))⟩
theorem FR.ui {ci cj cl ck : List Nat} {I I2 : wI} {L L2 : wL} (h : FR ci cj cl ck I L I2 L2) {k j : Nat} {x : Int32} (hk : k ∈ ci) (h74 : k ≠ 74) : FR ci cj cl ck I L (uI I2 k j x) L2 :=
  ⟨fun a b e => (uI_n (k := k) (a := a) (by intro q; subst q; exact b hk)).trans (h.1 a b e), fun a b => (by rw [uI_n (Ne.symm h74)]; exact h.2.1 a b), h.2.2.1, h.2.2.2⟩
theorem FR.ul {ci cj cl ck : List Nat} {I I2 : wI} {L L2 : wL} (h : FR ci cj cl ck I L I2 L2) {k j : Nat} {x : Int64} (hk : k ∈ cl) (h74 : k ≠ 74) : FR ci cj cl ck I L I2 (uL L2 k j x) :=
  ⟨h.1, h.2.1, fun a b e => (uL_n (k := k) (a := a) (by intro q; subst q; exact b hk)).trans (h.2.2.1 a b e), fun a b => (by rw [uL_n (Ne.symm h74)]; exact h.2.2.2 a b)⟩
theorem FR.uf {ci cj cl ck : List Nat} {I I2 : wI} {L L2 : wL} (h : FR ci cj cl ck I L I2 L2) {j : Nat} {x : Int32} (hj : j ∈ cj) : FR ci cj cl ck I L (uI I2 74 j x) L2 :=
  ⟨fun a b e => (uI_n e).trans (h.1 a b e), fun a b => (by rw [uI_sn (by intro q; subst q; exact b hj)]; exact h.2.1 a b), h.2.2.1, h.2.2.2⟩
theorem FR.ug {ci cj cl ck : List Nat} {I I2 : wI} {L L2 : wL} (h : FR ci cj cl ck I L I2 L2) {j : Nat} {x : Int64} (hj : j ∈ ck) : FR ci cj cl ck I L I2 (uL L2 74 j x) :=
  ⟨h.1, h.2.1, fun a b e => (uL_n e).trans (h.2.2.1 a b e), fun a b => (by rw [uL_sn (by intro q; subst q; exact b hj)]; exact h.2.2.2 a b)⟩
theorem askd.of {I I2 : wI} {lf : lawF} (h76 : I2 76 = I 76) (h35 : I2 74 35 = I 74 35) (ha : askd I lf) : askd I2 lf := by
  unfold askd; rw [h35, h76]; exact ha
/-- in how many of ten he comes, by what stands -/
def cmv (I : wI) (lf : lawF) (s k : Nat) : Nat := cmF lf (lE (lN s) (lN k) (I 76 9).toInt64 (I 74 36).toInt64 (-1) (-1) (I 76 13).toInt64)
theorem cmv_le (I : wI) (lf : lawF) (s k : Nat) : cmv I lf s k ≤ 10 := by
  unfold cmv cmF
  cases lf with
  | none => exact (by decide : 5 ≤ 10)
  | some F =>
    show (clp 0 10 _).toNat ≤ 10
    unfold clp
    by_cases q1 : (F (lE (lN s) (lN k) (I 76 9).toInt64 (I 74 36).toInt64 (-1) (-1) (I 76 13).toInt64) 0 5).toInt < 0
    · rw [if_pos q1]; decide
    · rw [if_neg q1]
      by_cases q2 : (10 : Int) < (F (lE (lN s) (lN k) (I 76 9).toInt64 (I 74 36).toInt64 (-1) (-1) (I 76 13).toInt64) 0 5).toInt
      · rw [if_pos q2]; decide
      · rw [if_neg q2]; omega
theorem cmv_of {I I2 : wI} {lf : lawF} {s k : Nat} (h76 : I2 76 = I 76) (h36 : I2 74 36 = I 74 36) : cmv I2 lf s k = cmv I lf s k := by unfold cmv; rw [h76, h36]
set_option maxHeartbeats 400000 in
theorem r12_lc1 {l : Launch} {K : cK} {d : Nat} {I : wI} {L : wL} {R : wR} {dy : cH} {Q : Option Value → cH → Prop} (lf : lawF) (ha : askd I lf) (ho : I 74 15 = 0) (s : Nat) (hs : s < 12) (hd : 5 ≤ d) :
    ∀ (n k : Nat) (I2 : wI) (L2 : wL), k + n = 13 → 1 ≤ k → FR [90] [28, 32] [87, 88, 89] [33, 34] I L I2 L2 → (∀ k2, 1 ≤ k2 → k2 < k → I2 90 (13 * s + k2) = nI (cmv I lf s k2)) → (∀ s2, s2 < s → ∀ k2, 1 ≤ k2 → k2 ≤ 12 → I2 90 (13 * s2 + k2) = nI (cmv I lf s2 k2)) →
    (∀ (I3 : wI) (L3 : wL), FR [90] [28, 32] [87, 88, 89] [33, 34] I L I3 L3 → (∀ s2, s2 < (s + 1) → ∀ k2, 1 ≤ k2 → k2 ≤ 12 → I3 90 (13 * s2 + k2) = nI (cmv I lf s2 k2)) → GL l K m12_layComes d 0 0 39 [(0, .ref 74), (1, .int (nI s))] [] (hp I3 L3 R dy) Q) →
    GL l K m12_layComes d 0 0 10 [(0, .ref 74), (1, .int (nI s)), (2, .int (nI k))] [] (hp I2 L2 R dy) Q := by
  intro n
  induction n with
  | zero =>
    intro k I2 L2 hk hk1 hF ht hr kk
    obtain rfl : k = 13 := by omega
    refine g_iload_n d12_layComes_10 rfl ?_
    refine g_bipushv (nI 13) d12_layComes_11 rfl ?_
    refine g_ic_ge ((13 : Nat) : Int) (13) 39 (nI_ti (by omega)) (by decide) d12_layComes_13 rfl (fun _ => ?_) (fun c13 => absurd c13 (by decide))
    refine g_lo [(0, .ref 74), (1, .int (nI (s)))] ⟨rfl, rfl, trivial⟩ ?_
    exact kk I2 L2 hF (fun s2 h2 k2 a b => if e : s2 = s then (by subst e; exact ht k2 a (by omega)) else hr s2 (by omega) k2 a b)
  | succ n ih =>
    intro k I2 L2 hk hk1 hF ht hr kk
    have e76 : I2 76 = I 76 := hF.1 76 (by decide) (by decide)
    have e36 : I2 74 36 = I 74 36 := hF.2.1 36 (by decide)
    refine g_iload_n d12_layComes_10 rfl ?_
    refine g_bipushv (nI 13) d12_layComes_11 rfl ?_
    refine g_ic_ge ((k : Nat) : Int) (13) 39 (nI_ti (by omega)) (by decide) d12_layComes_13 rfl (fun c13 => absurd c13 (by omega)) (fun _ => ?_)
    refine g_aload_n d12_layComes_16 rfl ?_
    refine g_get fl12_83 d12_layComes_17 f_74_37 ?_
    refine g_bipushv (nI 13) d12_layComes_20 rfl ?_
    refine g_iload_n d12_layComes_22 rfl ?_
    refine g_imulN d12_layComes_23 ?_
    refine g_iload_n d12_layComes_24 rfl ?_
    refine g_iaddN d12_layComes_25 ?_
    refine g_aload_n d12_layComes_26 rfl ?_
    refine g_iload_n d12_layComes_27 rfl ?_
    refine g_iload_n d12_layComes_28 rfl ?_
    refine g_XV2 vm12_comesOf ml12_406 c_74 (r12_comesOf s k (by omega) (by omega) lf (ha.of e76 (hF.2.1 35 (by decide))) ((hF.2.1 15 (by decide)).trans ho) (Nat.le_refl 4)) (by omega) (Nat.le_of_ble_eq_true rfl) d12_layComes_29 (fun x hx => ?_)
    refine g_topI (nI (cmv I lf s k)) (congrArg nI (cmv_of (lf := lf) (s := s) (k := k) e76 e36)) ?_
    obtain ⟨I3, L3⟩ := x
    dsimp only
    have hF3 : FR [90] [28, 32] [87, 88, 89] [33, 34] I L I3 L3 := hF.tr (hx.fr.up (by decide) (by decide) (by decide) (by decide))
    have h90 : I3 90 = I2 90 := hx.1 90 (by decide)
    refine g_iastN (((13 * s) + k)) _ d12_layComes_32 a_90 (rfl) (by omega) (by decide) t_90 ?_
    refine g_iincN d12_layComes_33 rfl (by decide) ?_
    refine g_goto 10 d12_layComes_36 rfl ?_
    refine g_lo [(0, .ref 74), (1, .int (nI (s))), (2, .int (nI (k + 1)))] ⟨rfl, rfl, rfl, trivial⟩ ?_
    refine ih (k + 1) _ L3 (by omega) (by omega) (hF3.ui (by decide) (by decide)) (fun k2 a b => ?_) (fun s2 h2 k2 a b => ?_) kk
    · rw [uI_s]
      by_cases e : k2 = k
      · subst e; exact pk_us
      · rw [pk_un (by omega), h90]; exact ht k2 a (by omega)
    · rw [uI_s, pk_un (by omega), h90]; exact hr s2 h2 k2 a b
set_option maxHeartbeats 400000 in
theorem r12_lc2 {l : Launch} {K : cK} {d : Nat} {I : wI} {L : wL} {R : wR} {dy : cH} {Q : Option Value → cH → Prop} (lf : lawF) (ha : askd I lf) (ho : I 74 15 = 0) (hd : 5 ≤ d)
    (kk : ∀ (I3 : wI) (L3 : wL), FR [90] [28, 32] [87, 88, 89] [33, 34] I L I3 L3 → (∀ s2, s2 < 12 → ∀ k2, 1 ≤ k2 → k2 ≤ 12 → I3 90 (13 * s2 + k2) = nI (cmv I lf s2 k2)) → GL l K m12_layComes d 0 0 45 [(0, .ref 74)] [] (hp I3 L3 R dy) Q) :
    ∀ (n s : Nat) (I2 : wI) (L2 : wL), s + n = 12 → FR [90] [28, 32] [87, 88, 89] [33, 34] I L I2 L2 → (∀ s2, s2 < s → ∀ k2, 1 ≤ k2 → k2 ≤ 12 → I2 90 (13 * s2 + k2) = nI (cmv I lf s2 k2)) →
    GL l K m12_layComes d 0 0 2 [(0, .ref 74), (1, .int (nI s))] [] (hp I2 L2 R dy) Q := by
  intro n
  induction n with
  | zero =>
    intro s I2 L2 hs hF hr
    obtain rfl : s = 12 := by omega
    refine g_iload_n d12_layComes_2 rfl ?_
    refine g_bipushv (nI 12) d12_layComes_3 rfl ?_
    refine g_ic_ge ((12 : Nat) : Int) (12) 45 (nI_ti (by omega)) (by decide) d12_layComes_5 rfl (fun _ => ?_) (fun c5 => absurd c5 (by decide))
    refine g_lo [(0, .ref 74)] ⟨rfl, trivial⟩ ?_
    exact kk I2 L2 hF hr
  | succ n ih =>
    intro s I2 L2 hs hF hr
    refine g_iload_n d12_layComes_2 rfl ?_
    refine g_bipushv (nI 12) d12_layComes_3 rfl ?_
    refine g_ic_ge ((s : Nat) : Int) (12) 45 (nI_ti (by omega)) (by decide) d12_layComes_5 rfl (fun c5 => absurd c5 (by omega)) (fun _ => ?_)
    refine g_iconstv (nI 1) d12_layComes_8 rfl ?_
    refine g_istore_n d12_layComes_9 (by decide) ?_
    refine g_lo [(0, .ref 74), (1, .int (nI (s))), (2, .int (nI (1)))] ⟨rfl, rfl, rfl, trivial⟩ ?_
    refine r12_lc1 lf ha ho s (by omega) hd 12 1 I2 L2 (by omega) (by omega) hF (fun k2 a b => by omega) hr (fun I3 L3 hF3 hr3 => ?_)
    refine g_iincN d12_layComes_39 rfl (by decide) ?_
    refine g_goto 2 d12_layComes_42 rfl ?_
    refine g_lo [(0, .ref 74), (1, .int (nI (s + 1)))] ⟨rfl, rfl, trivial⟩ ?_
    exact ih (s + 1) I3 L3 (by omega) hF3 hr3
/-- the parts of each since, slot by slot; m: what must be so in a slot (0 he did not come, 1 he came, 2 any) -/
def sp (m : Nat) (cm P : Nat → Nat) : Nat → Nat → Nat
  | 0, _ => 0
  | k + 1, j => sp m cm P k j + (if j = 1 ∧ m ≠ 0 then P (k + 1) / 10 * cm (k + 1) else 0) + (if j = lat (k + 1) ∧ m ≠ 1 then P (k + 1) / 10 * (10 - cm (k + 1)) else 0)
def pt (m : Nat → Nat) (cm : Nat → Nat → Nat) (s0 : Nat) : Nat → Nat → Nat
  | 0, k => if k = s0 then 1000000000000 else 0
  | s + 1, j => sp (m s) (cm s) (pt m cm s0 s) 12 j
def sm (f : Nat → Nat) : Nat → Nat
  | 0 => 0
  | n + 1 => sm f n + f (n + 1)
theorem sm_add (f g : Nat → Nat) : ∀ n, sm (fun j => f j + g j) n = sm f n + sm g n
  | 0 => rfl
  | n + 1 => by show sm _ n + (f (n + 1) + g (n + 1)) = _; rw [sm_add f g n]; show _ = sm f n + f (n + 1) + (sm g n + g (n + 1)); omega
theorem sm_one (i v : Nat) : ∀ n, sm (fun j => if j = i then v else 0) n = if 1 ≤ i ∧ i ≤ n then v else 0
  | 0 => by rw [if_neg (by omega)]; rfl
  | n + 1 => by
    show sm (fun j => if j = i then v else 0) n + (if n + 1 = i then v else 0) = _
    rw [sm_one i v n]
    by_cases h : n + 1 = i
    · rw [if_neg (by omega), if_pos h, if_pos (by omega)]; omega
    · rw [if_neg h]
      by_cases h2 : 1 ≤ i ∧ i ≤ n
      · rw [if_pos h2, if_pos (by omega)]; rfl
      · rw [if_neg h2, if_neg (by omega)]
theorem sm_le_at (f : Nat → Nat) : ∀ {n j}, 1 ≤ j → j ≤ n → f j ≤ sm f n
  | 0, j, h1, h2 => by omega
  | n + 1, j, h1, h2 => by
    show f j ≤ sm f n + f (n + 1)
    by_cases h : j = n + 1
    · subst h; omega
    · have := sm_le_at f (n := n) h1 (by omega); omega
theorem sm_mono (f g : Nat → Nat) (h : ∀ j, f j ≤ g j) : ∀ n, sm f n ≤ sm g n
  | 0 => Nat.le_refl _
  | n + 1 => Nat.add_le_add (sm_mono f g h n) (h _)
theorem sp_sum (m : Nat) (cm P : Nat → Nat) (hc : ∀ k, cm k ≤ 10) : ∀ k, k ≤ 12 → sm (sp m cm P k) 12 ≤ sm P k
  | 0, _ => by
    have : sm (sp m cm P 0) 12 = 0 := by simp [sm, sp]
    rw [this]; exact Nat.zero_le _
  | k + 1, hk => by
    have h1 := sp_sum m cm P hc k (by omega)
    have h2 : sm (sp m cm P (k + 1)) 12 ≤ sm (fun j => (sp m cm P k j + (if j = 1 then P (k + 1) / 10 * cm (k + 1) else 0)) + (if j = lat (k + 1) then P (k + 1) / 10 * (10 - cm (k + 1)) else 0)) 12 := by
      refine sm_mono _ _ (fun j => ?_) 12
      show sp m cm P k j + (if j = 1 ∧ m ≠ 0 then P (k + 1) / 10 * cm (k + 1) else 0) + (if j = lat (k + 1) ∧ m ≠ 1 then P (k + 1) / 10 * (10 - cm (k + 1)) else 0) ≤ _
      refine Nat.add_le_add (Nat.add_le_add_left ?_ _) ?_
      · by_cases q : j = 1
        · rw [if_pos q]; split <;> omega
        · rw [if_neg (fun z => q z.1), if_neg q]; exact Nat.le_refl _
      · by_cases q : j = lat (k + 1)
        · rw [if_pos q]; split <;> omega
        · rw [if_neg (fun z => q z.1), if_neg q]; exact Nat.le_refl _
    rw [sm_add, sm_add, sm_one, sm_one] at h2
    have hc1 := hc (k + 1)
    have h3 : P (k + 1) / 10 * cm (k + 1) + P (k + 1) / 10 * (10 - cm (k + 1)) = P (k + 1) / 10 * 10 := by rw [← Nat.mul_add]; congr 1; omega
    have h4 : P (k + 1) / 10 * 10 ≤ P (k + 1) := Nat.div_mul_le_self _ _
    have h5 : (if 1 ≤ 1 ∧ 1 ≤ 12 then P (k + 1) / 10 * cm (k + 1) else 0) ≤ P (k + 1) / 10 * cm (k + 1) := by split <;> omega
    have h6 : (if 1 ≤ lat (k + 1) ∧ lat (k + 1) ≤ 12 then P (k + 1) / 10 * (10 - cm (k + 1)) else 0) ≤ P (k + 1) / 10 * (10 - cm (k + 1)) := by split <;> omega
    show _ ≤ sm P k + P (k + 1)
    omega
theorem pt_sum (m : Nat → Nat) (cm : Nat → Nat → Nat) (s0 : Nat) (hc : ∀ s k, cm s k ≤ 10) : ∀ s, sm (pt m cm s0 s) 12 ≤ 1000000000000
  | 0 => by
    show sm (fun k => if k = s0 then 1000000000000 else 0) 12 ≤ _
    rw [sm_one]; split <;> omega
  | s + 1 => Nat.le_trans (sp_sum (m s) (cm s) (pt m cm s0 s) (hc s) 12 (Nat.le_refl _)) (pt_sum m cm s0 hc s)
theorem pt_le (m : Nat → Nat) (cm : Nat → Nat → Nat) (s0 : Nat) (hc : ∀ s k, cm s k ≤ 10) {s k : Nat} (h1 : 1 ≤ k) (h2 : k ≤ 12) : pt m cm s0 s k ≤ 1000000000000 := Nat.le_trans (sm_le_at _ h1 h2) (pt_sum m cm s0 hc s)
abbrev fr2 : Nat → Nat := fun _ => 2
set_option maxHeartbeats 400000 in
theorem r12_lc3 {l : Launch} {K : cK} {d : Nat} {I : wI} {L : wL} {R : wR} {dy : cH} {Q : Option Value → cH → Prop} (I2 : wI) (kk : ∀ (L3 : wL), (∀ k, k ≠ 91 → L3 k = L k) → (∀ j, j < 169 → L3 91 j = 0) → GL l K m12_layComes d 0 0 67 [(0, .ref 74)] [] (hp I2 L3 R dy) Q) :
    ∀ (n i : Nat) (L2 : wL), i + n = 169 → (∀ k, k ≠ 91 → L2 k = L k) → (∀ j, j < i → L2 91 j = 0) →
    GL l K m12_layComes d 0 0 47 [(0, .ref 74), (1, .int (nI i))] [] (hp I2 L2 R dy) Q := by
  intro n
  induction n with
  | zero =>
    intro i L2 hi hL hz
    obtain rfl : i = 169 := by omega
    refine g_iload_n d12_layComes_47 rfl ?_
    refine g_sipushv (nI 169) d12_layComes_48 rfl ?_
    refine g_ic_ge ((169 : Nat) : Int) (169) 67 (nI_ti (by omega)) (by decide) d12_layComes_51 rfl (fun _ => ?_) (fun c51 => absurd c51 (by decide))
    refine g_lo [(0, .ref 74)] ⟨rfl, trivial⟩ ?_
    exact kk L2 hL hz
  | succ n ih =>
    intro i L2 hi hL hz
    refine g_iload_n d12_layComes_47 rfl ?_
    refine g_sipushv (nI 169) d12_layComes_48 rfl ?_
    refine g_ic_ge ((i : Nat) : Int) (169) 67 (nI_ti (by omega)) (by decide) d12_layComes_51 rfl (fun c51 => absurd c51 (by omega)) (fun _ => ?_)
    refine g_aload_n d12_layComes_54 rfl ?_
    refine g_get fl12_86 d12_layComes_55 f_74_38 ?_
    refine g_iload_n d12_layComes_58 rfl ?_
    refine g_lconstv (0) d12_layComes_59 rfl ?_
    refine g_lastN (i) _ d12_layComes_60 a_91 (rfl) (by omega) (by decide) t_91 ?_
    refine g_iincN d12_layComes_61 rfl (by decide) ?_
    refine g_goto 47 d12_layComes_64 rfl ?_
    refine g_lo [(0, .ref 74), (1, .int (nI (i + 1)))] ⟨rfl, rfl, trivial⟩ ?_
    exact ih (i + 1) _ (by omega) (fun k hk => (uL_n hk).trans (hL k hk)) (fun j hj => by
      by_cases e : j = i
      · subst e; exact uL_ss
      · rw [uL_sn e]; exact hz j (by omega))
set_option maxHeartbeats 400000 in
theorem r12_lc4 {l : Launch} {K : cK} {d : Nat} {I : wI} {L : wL} {R : wR} {dy : cH} {Q : Option Value → cH → Prop} (cm : Nat → Nat → Nat) (s0 : Nat) (hcs : ∀ s2, s2 < 12 → ∀ k2, 1 ≤ k2 → k2 ≤ 12 → I 90 (13 * s2 + k2) = nI (cm s2 k2)) (hcm : ∀ s k, cm s k ≤ 10) (s : Nat) (hs : s < 12) (hd : 1 ≤ d)
    (kk : ∀ (L3 : wL), (∀ k, k ≠ 91 → L3 k = L k) → (∀ s2, s2 ≤ s + 1 → ∀ j, j ≤ 12 → L3 91 (13 * s2 + j) = lN (pt fr2 cm s0 s2 j)) → (∀ q, 13 * (s + 2) ≤ q → q < 169 → L3 91 q = 0) → GL l K m12_layComes d 0 0 184 [(0, .ref 74), (1, .int (nI s))] [] (hp I L3 R dy) Q) :
    ∀ (n k : Nat) (L2 : wL), k + n = 12 → (∀ k, k ≠ 91 → L2 k = L k) → (∀ s2, s2 ≤ s → ∀ j, j ≤ 12 → L2 91 (13 * s2 + j) = lN (pt fr2 cm s0 s2 j)) → (∀ j, j ≤ 12 → L2 91 (13 * (s + 1) + j) = lN (sp 2 (cm s) (pt fr2 cm s0 s) k j)) → (∀ q, 13 * (s + 2) ≤ q → q < 169 → L2 91 q = 0) →
    GL l K m12_layComes d 0 0 90 [(0, .ref 74), (1, .int (nI s)), (2, .int (nI (k + 1)))] [] (hp I L2 R dy) Q := by
  intro n
  induction n with
  | zero =>
    intro k L2 hk hL hlow hrow hz
    obtain rfl : k = 12 := by omega
    refine g_iload_n d12_layComes_90 rfl ?_
    refine g_bipushv (nI 13) d12_layComes_91 rfl ?_
    refine g_ic_ge (((12 + 1) : Nat) : Int) (13) 184 (nI_ti (by omega)) (by decide) d12_layComes_93 rfl (fun _ => ?_) (fun c93 => absurd c93 (by decide))
    refine g_lo [(0, .ref 74), (1, .int (nI (s)))] ⟨rfl, rfl, trivial⟩ ?_
    exact kk L2 hL (fun s2 h2 j hj => by
      by_cases e : s2 = s + 1
      · subst e; exact hrow j hj
      · exact hlow s2 (by omega) j hj) hz
  | succ n ih =>
    intro k L2 hk hL hlow hrow hz
    have hk12 : k + 1 ≤ 12 := by omega
    have eP : L2 91 (13 * s + (k + 1)) = lN (pt fr2 cm s0 s (k + 1)) := hlow s (Nat.le_refl _) (k + 1) hk12
    have hPle : pt fr2 cm s0 s (k + 1) ≤ 1000000000000 := pt_le fr2 cm s0 hcm (by omega) hk12
    have hdiv : lN (pt fr2 cm s0 s (k + 1)) / 10 = lN (pt fr2 cm s0 s (k + 1) / 10) := pk_lDiv (b := 10) (by omega) (by decide) (by decide)
    have hc : I 90 (13 * s + (k + 1)) = nI (cm s (k + 1)) := hcs s hs (k + 1) (by omega) hk12
    have hc10 := hcm s (k + 1)
    have hlat : lat (k + 1) ≤ 12 ∧ 2 ≤ lat (k + 1) := by unfold lat; split <;> omega
    have r1 : L2 91 (13 * (s + 1) + 1) = lN (sp 2 (cm s) (pt fr2 cm s0 s) k 1) := hrow 1 (by decide)
    have r2 : L2 91 (13 * (s + 1) + lat (k + 1)) = lN (sp 2 (cm s) (pt fr2 cm s0 s) k (lat (k + 1))) := hrow _ hlat.1
    refine g_iload_n d12_layComes_90 rfl ?_
    refine g_bipushv (nI 13) d12_layComes_91 rfl ?_
    refine g_ic_ge (((k + 1) : Nat) : Int) (13) 184 (nI_ti (by omega)) (by decide) d12_layComes_93 rfl (fun c93 => absurd c93 (by omega)) (fun _ => ?_)
    refine g_aload_n d12_layComes_96 rfl ?_
    refine g_get fl12_86 d12_layComes_97 f_74_38 ?_
    refine g_bipushv (nI 13) d12_layComes_100 rfl ?_
    refine g_iload_n d12_layComes_102 rfl ?_
    refine g_imulN d12_layComes_103 ?_
    refine g_iload_n d12_layComes_104 rfl ?_
    refine g_iaddN d12_layComes_105 ?_
    refine g_laldN (((13 * s) + (k + 1))) d12_layComes_106 a_91 (rfl) (by omega) (by decide) ?_
    refine g_topL (lN (pt fr2 cm s0 s (k + 1))) (eP) ?_
    refine g_ldc2 d12_layComes_107 kl12_223 ?_
    refine g_ldiv d12_layComes_110 (by decide) ?_
    refine g_topL (lN (pt fr2 cm s0 s (k + 1) / 10)) (hdiv) ?_
    refine g_lstore_n d12_layComes_111 (by decide) ?_
    refine g_aload_n d12_layComes_112 rfl ?_
    refine g_get fl12_86 d12_layComes_113 f_74_38 ?_
    refine g_bipushv (nI 13) d12_layComes_116 rfl ?_
    refine g_iload_n d12_layComes_118 rfl ?_
    refine g_iconstv (nI 1) d12_layComes_119 rfl ?_
    refine g_iaddN d12_layComes_120 ?_
    refine g_imulN d12_layComes_121 ?_
    refine g_iconstv (nI 1) d12_layComes_122 rfl ?_
    refine g_iaddN d12_layComes_123 ?_
    refine g_dup2 d12_layComes_124 rfl rfl ?_
    refine g_laldN (((13 * (s + 1)) + 1)) d12_layComes_125 a_91 (rfl) (by omega) (by decide) ?_
    refine g_topL (lN (sp 2 (cm s) (pt fr2 cm s0 s) k 1)) (r1) ?_
    refine g_lload_n d12_layComes_126 rfl ?_
    refine g_aload_n d12_layComes_127 rfl ?_
    refine g_get fl12_83 d12_layComes_128 f_74_37 ?_
    refine g_bipushv (nI 13) d12_layComes_131 rfl ?_
    refine g_iload_n d12_layComes_133 rfl ?_
    refine g_imulN d12_layComes_134 ?_
    refine g_iload_n d12_layComes_135 rfl ?_
    refine g_iaddN d12_layComes_136 ?_
    refine g_ialdN (((13 * s) + (k + 1))) d12_layComes_137 a_90 (rfl) (by omega) (by decide) ?_
    refine g_topI (nI (cm s (k + 1))) (hc) ?_
    refine g_i2lN (by omega) d12_layComes_138 ?_
    refine g_lmul d12_layComes_139 ?_
    refine g_topL (lN (pt fr2 cm s0 s (k + 1) / 10 * cm s (k + 1))) (lN_mul _ _) ?_
    refine g_ladd d12_layComes_140 ?_
    refine g_topL (lN (sp 2 (cm s) (pt fr2 cm s0 s) k 1 + pt fr2 cm s0 s (k + 1) / 10 * cm s (k + 1))) (lN_add _ _) ?_
    refine g_lastN (((13 * (s + 1)) + 1)) _ d12_layComes_141 a_91 (rfl) (by omega) (by decide) t_91 ?_
    refine g_aload_n d12_layComes_142 rfl ?_
    refine g_get fl12_86 d12_layComes_143 f_74_38 ?_
    refine g_bipushv (nI 13) d12_layComes_146 rfl ?_
    refine g_iload_n d12_layComes_148 rfl ?_
    refine g_iconstv (nI 1) d12_layComes_149 rfl ?_
    refine g_iaddN d12_layComes_150 ?_
    refine g_imulN d12_layComes_151 ?_
    refine g_iload_n d12_layComes_152 rfl ?_
    refine g_ES1 sm12_later ml12_418 (r12_later ((k + 1)) (by omega) (Nat.le_refl 0)) (by omega) (Nat.le_of_ble_eq_true rfl) d12_layComes_153 ?_
    refine g_iaddN d12_layComes_156 ?_
    refine g_dup2 d12_layComes_157 rfl rfl ?_
    refine g_laldN (((13 * (s + 1)) + (lat ((k + 1))))) d12_layComes_158 a_91 (rfl) (by omega) (by decide) ?_
    refine g_topL (lN (sp 2 (cm s) (pt fr2 cm s0 s) k (lat (k + 1)))) (by rw [uL_sn (by omega)]; exact r2) ?_
    refine g_lload_n d12_layComes_159 rfl ?_
    refine g_bipushv (nI 10) d12_layComes_160 rfl ?_
    refine g_aload_n d12_layComes_162 rfl ?_
    refine g_get fl12_83 d12_layComes_163 f_74_37 ?_
    refine g_bipushv (nI 13) d12_layComes_166 rfl ?_
    refine g_iload_n d12_layComes_168 rfl ?_
    refine g_imulN d12_layComes_169 ?_
    refine g_iload_n d12_layComes_170 rfl ?_
    refine g_iaddN d12_layComes_171 ?_
    refine g_ialdN (((13 * s) + (k + 1))) d12_layComes_172 a_90 (rfl) (by omega) (by decide) ?_
    refine g_topI (nI (cm s (k + 1))) (hc) ?_
    refine g_isubN (hc10) d12_layComes_173 ?_
    refine g_i2lN (by omega) d12_layComes_174 ?_
    refine g_lmul d12_layComes_175 ?_
    refine g_topL (lN (pt fr2 cm s0 s (k + 1) / 10 * (10 - cm s (k + 1)))) (lN_mul _ _) ?_
    refine g_ladd d12_layComes_176 ?_
    refine g_topL (lN (sp 2 (cm s) (pt fr2 cm s0 s) k (lat (k + 1)) + pt fr2 cm s0 s (k + 1) / 10 * (10 - cm s (k + 1)))) (lN_add _ _) ?_
    refine g_lastN (((13 * (s + 1)) + (lat ((k + 1))))) _ d12_layComes_177 a_91 (rfl) (by omega) (by decide) t_91 ?_
    refine g_iincN d12_layComes_178 rfl (by decide) ?_
    refine g_goto 90 d12_layComes_181 rfl ?_
    refine g_lo [(0, .ref 74), (1, .int (nI (s))), (2, .int (nI (k + 1 + 1)))] ⟨rfl, rfl, rfl, trivial⟩ ?_
    refine ih (k + 1) _ (by omega) (fun q hq => (uL_n hq).trans ((uL_n hq).trans (hL q hq))) (fun s2 h2 j hj => ?_) (fun j hj => ?_) (fun q h1 h2 => ?_)
    · rw [uL_sn (by omega), uL_sn (by omega)]; exact hlow s2 h2 j hj
    · show _ = lN (sp 2 (cm s) (pt fr2 cm s0 s) k j + (if j = 1 ∧ 2 ≠ 0 then pt fr2 cm s0 s (k + 1) / 10 * cm s (k + 1) else 0) + (if j = lat (k + 1) ∧ 2 ≠ 1 then pt fr2 cm s0 s (k + 1) / 10 * (10 - cm s (k + 1)) else 0))
      by_cases e1 : j = lat (k + 1)
      · subst e1
        rw [uL_ss, if_neg (by omega), if_pos ⟨rfl, by decide⟩]; rfl
      · rw [uL_sn (by omega), if_neg (c := j = lat (k + 1) ∧ 2 ≠ 1) (fun z => e1 z.1)]
        by_cases e2 : j = 1
        · subst e2
          rw [uL_ss, if_pos ⟨rfl, by decide⟩]; rfl
        · rw [uL_sn (by omega), if_neg (fun z => e2 z.1)]; exact hrow j hj
    · rw [uL_sn (by omega), uL_sn (by omega)]; exact hz q h1 h2
set_option maxHeartbeats 400000 in
theorem r12_lc5 {l : Launch} {K : cK} {d : Nat} {I : wI} {L : wL} {R : wR} {dy : cH} {Q : Option Value → cH → Prop} (cm : Nat → Nat → Nat) (s0 : Nat) (hcs : ∀ s2, s2 < 12 → ∀ k2, 1 ≤ k2 → k2 ≤ 12 → I 90 (13 * s2 + k2) = nI (cm s2 k2)) (hcm : ∀ s k, cm s k ≤ 10) (hd : 1 ≤ d)
    (kk : ∀ (L3 : wL), (∀ k, k ≠ 91 → L3 k = L k) → (∀ s2, s2 ≤ 12 → ∀ j, j ≤ 12 → L3 91 (13 * s2 + j) = lN (pt fr2 cm s0 s2 j)) → GL l K m12_layComes d 0 0 190 [(0, .ref 74)] [] (hp I L3 R dy) Q) :
    ∀ (n s : Nat) (L2 : wL), s + n = 12 → (∀ k, k ≠ 91 → L2 k = L k) → (∀ s2, s2 ≤ s → ∀ j, j ≤ 12 → L2 91 (13 * s2 + j) = lN (pt fr2 cm s0 s2 j)) → (∀ q, 13 * (s + 1) ≤ q → q < 169 → L2 91 q = 0) →
    GL l K m12_layComes d 0 0 82 [(0, .ref 74), (1, .int (nI s))] [] (hp I L2 R dy) Q := by
  intro n
  induction n with
  | zero =>
    intro s L2 hs hL hlow hz
    obtain rfl : s = 12 := by omega
    refine g_iload_n d12_layComes_82 rfl ?_
    refine g_bipushv (nI 12) d12_layComes_83 rfl ?_
    refine g_ic_ge ((12 : Nat) : Int) (12) 190 (nI_ti (by omega)) (by decide) d12_layComes_85 rfl (fun _ => ?_) (fun c85 => absurd c85 (by decide))
    refine g_lo [(0, .ref 74)] ⟨rfl, trivial⟩ ?_
    exact kk L2 hL hlow
  | succ n ih =>
    intro s L2 hs hL hlow hz
    refine g_iload_n d12_layComes_82 rfl ?_
    refine g_bipushv (nI 12) d12_layComes_83 rfl ?_
    refine g_ic_ge ((s : Nat) : Int) (12) 190 (nI_ti (by omega)) (by decide) d12_layComes_85 rfl (fun c85 => absurd c85 (by omega)) (fun _ => ?_)
    refine g_iconstv (nI 1) d12_layComes_88 rfl ?_
    refine g_istore_n d12_layComes_89 (by decide) ?_
    refine g_lo [(0, .ref 74), (1, .int (nI (s))), (2, .int (nI (0 + 1)))] ⟨rfl, rfl, rfl, trivial⟩ ?_
    refine r12_lc4 (L := L) cm s0 hcs hcm s (by omega) hd (fun L3 h1 h2 h3 => ?_) 12 0 L2 (by omega) hL hlow (fun j hj => hz _ (by omega) (by omega)) (fun q a b => hz q (by omega) b)
    refine g_iincN d12_layComes_184 rfl (by decide) ?_
    refine g_goto 82 d12_layComes_187 rfl ?_
    refine g_lo [(0, .ref 74), (1, .int (nI (s + 1)))] ⟨rfl, rfl, trivial⟩ ?_
    exact ih (s + 1) L3 (by omega) h1 h2 h3
/-- he comes by cm, the parts are pt -/
def LC (I : wI) (L : wL) (cm : Nat → Nat → Nat) (s0 : Nat) : Prop := (∀ s2, s2 < 12 → ∀ k2, 1 ≤ k2 → k2 ≤ 12 → I 90 (13 * s2 + k2) = nI (cm s2 k2)) ∧ ∀ s2, s2 ≤ 12 → ∀ j, j ≤ 12 → L 91 (13 * s2 + j) = lN (pt fr2 cm s0 s2 j)
set_option maxHeartbeats 400000 in
theorem r12_layComes {l : Launch} {K : cK} {d : Nat} {I : wI} {L : wL} {R : wR} {dy : cH} (lf : lawF) (ha : askd I lf) (ho : I 74 15 = 0) (s0 : Nat) (h0 : I 76 10 = nI s0) (hs1 : 1 ≤ s0) (hs2 : s0 ≤ 12) (hd : 5 ≤ d) : CW l K m12_layComes d [.ref 74] (hp I L R dy) (α := wI × wL) (fun x => FR [90] [28, 32] [87, 88, 89, 91] [33, 34] I L x.1 x.2 ∧ LC x.1 x.2 (cmv I lf) s0) (fun x => hp x.1 x.2 R dy) := by
  refine CC.of ok12_layComes (Nat.le_of_ble_eq_true rfl) ?_
  refine g_iconstv (nI 0) d12_layComes_0 rfl ?_
  refine g_istore_n d12_layComes_1 (by decide) ?_
  refine g_lo [(0, .ref 74), (1, .int (nI (0)))] ⟨rfl, rfl, trivial⟩ ?_
  refine r12_lc2 lf ha ho hd (fun I3 L3 hF3 hr3 => ?_) 12 0 I L (by omega) FR.rf (fun s2 h => by omega)
  refine g_iconstv (nI 0) d12_layComes_45 rfl ?_
  refine g_istore_n d12_layComes_46 (by decide) ?_
  refine g_lo [(0, .ref 74), (1, .int (nI (0)))] ⟨rfl, rfl, trivial⟩ ?_
  refine r12_lc3 (I := I3) (L := L3) I3 (fun L4 h4 z4 => ?_) 169 0 L3 (by omega) (fun _ _ => rfl) (fun j h => by omega)
  refine g_aload_n d12_layComes_67 rfl ?_
  refine g_get fl12_86 d12_layComes_68 f_74_38 ?_
  refine g_aload_n d12_layComes_71 rfl ?_
  refine g_iconstv (nI 4) d12_layComes_72 rfl ?_
  refine g_EV1 vm12_term ml12_378 c_74 (r12_term (4) (by omega) (Nat.le_refl 0)) (by omega) (Nat.le_of_ble_eq_true rfl) d12_layComes_73 ?_
  refine g_topI (nI s0) ((congrFun (hF3.1 76 (by decide) (by decide)) 10).trans h0) ?_
  refine g_ldc2 d12_layComes_76 kl12_416 ?_
  refine g_lastN (s0) _ d12_layComes_79 a_91 (rfl) (by omega) (by decide) t_91 ?_
  refine g_iconstv (nI 0) d12_layComes_80 rfl ?_
  refine g_istore_n d12_layComes_81 (by decide) ?_
  refine g_lo [(0, .ref 74), (1, .int (nI (0)))] ⟨rfl, rfl, trivial⟩ ?_
  refine r12_lc5 (I := I3) (L := uL L4 91 s0 1000000000000) (cmv I lf) s0 hr3 (fun s k => cmv_le I lf s k) (by omega) (fun L5 h5 r5 => ?_) 12 0 _ (by omega) (fun _ _ => rfl) (fun s2 h2 j hj => ?_) (fun q a b => ?_)
  rotate_left
  · obtain rfl : s2 = 0 := by omega
    show uL L4 91 s0 1000000000000 91 (13 * 0 + j) = lN (if j = s0 then 1000000000000 else 0)
    by_cases e : j = s0
    · subst e; rw [if_pos rfl, Nat.mul_zero, Nat.zero_add, uL_ss]; rfl
    · rw [if_neg e, uL_sn (by omega), z4 _ (by omega)]; rfl
  · rw [uL_sn (by omega)]; exact z4 q b
  exact g_vret rfl d12_layComes_190 (⟨(I3, L5), ⟨(hF3.up (by decide) (by decide) (by decide) (by decide)).tr ⟨fun _ _ _ => rfl, fun _ _ => rfl, fun k a b => (h5 k (fun q => a (by simp [q]))).trans ((uL_n (fun q => a (by simp [q]))).trans (h4 k (fun q => a (by simp [q])))), fun j _ => (by show L5 74 j = L3 74 j; rw [h5 74 (by decide), uL_n (by decide), h4 74 (by decide)])⟩, hr3, r5⟩, rfl, rfl⟩)
