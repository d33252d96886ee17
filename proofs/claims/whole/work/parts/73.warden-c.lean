section RZ
variable {l : Launch} {K : cK} {M : MI} {d kc ks pc n : Nat} {lo : List (Nat × Value)} {st : List Value} {h h2 : cH} {Q : Option Value → cH → Prop}
theorem nn_nI {a : Nat} (ha : a < 2147483648) : ¬ nI a < 0 ∧ (nI a).toNatClampNeg = a := by
  have e := nI_ti ha
  refine ⟨fun q => ?_, ?_⟩
  · rw [i_lt] at q
    have : (0 : Int32).toInt = 0 := rfl
    omega
  · show (nI a).toInt.toNat = a
    omega
set_option maxHeartbeats 800000 in
theorem g_cpI {k0 k1 n0 n1 ix : Nat} {f g : Nat → Int32} (sp dp q : Nat) (hl : Cond.methodLink M.1.cls ix ⟨"java/lang/System", "arraycopy", "(Ljava/lang/Object;ILjava/lang/Object;II)V"⟩ ∈ tblG) (ha0 : aI h k0 0 = some (n0, f)) (ha1 : aI h k1 0 = some (n1, g)) (hs : sp + q ≤ n0) (ht : dp + q ≤ n1) (b0 : n0 < 2147483648) (b1 : n1 < 2147483648) (hh : h.set k1 (.inl (0, n1, .inl (va_cpy f g sp dp q))) = h2) (hd1 : 1 ≤ d) (hW : (st.map fun v => v.category).sum ≤ 8) (hd : dc M pc (.invokestatic ix) 3 n) (kk : GL l K M d kc ks n lo st h2 Q) : GL l K M d kc ks pc lo (.int (nI q) :: .int (nI dp) :: .ref k1 :: .int (nI sp) :: .ref k0 :: st) h Q := by
  subst hh
  intro p e R s m args below meth c H locs cells slots mc ms ls hB h1 h2 h3 h4 h5 h6 h7 h8 h9 h10
  obtain ⟨hdg, rfl⟩ := hd
  have hts := hB.2.2.2.2.2.1
  have hK := hB.2.2.2.2.2.2.2.2.1.1
  have hc0 : H[K.1.size + k0]? = some (vp_cell (K.2.2.2.1 0) (n0, .inl f)) := h7.2.1 k0 _ (wl_at (aI_of ha0))
  have hc1 : H[K.1.size + k1]? = some (vp_cell (K.2.2.2.1 0) (n1, .inl g)) := h7.2.1 k1 _ (wl_at (aI_of ha1))
  obtain ⟨s0, s1⟩ := nn_nI (a := sp) (by omega)
  obtain ⟨d0, d1⟩ := nn_nI (a := dp) (by omega)
  obtain ⟨m0, m1⟩ := nn_nI (a := q) (by omega)
  intro T hT X
  obtain ⟨-, kd, hkd, cm, hkk⟩ := (hK.2 0 _ rfl).1 n0 (fun j => .int (f j))
  obtain ⟨-, kd1, hkd1, cm1, hkk1⟩ := (hK.2 0 _ rfl).1 n1 (fun j => .int (g j))
  obtain ⟨vm', X', step⟩ := X.arraycopy hB.1 hB.2.2.2.2.1 (hts _ hl) (hts _ (tg_at 42 (by decide +kernel) rfl)) (hts _ (tg_at 41 (by decide +kernel) rfl)) (hts _ (tg_at 3 (by decide +kernel) rfl)) (src := K.1.size + k0) (dst := K.1.size + k1) (cs := vp_cell (K.2.2.2.1 0) (n0, .inl f)) (cd := vp_cell (K.2.2.2.1 0) (n1, .inl g)) (srcPos := nI sp) (destPos := nI dp) (n := nI q) (by rw [hT]; exact hc0) (by rw [hT]; exact hc1)
    (fun _ h => by cases h) (fun _ h => by cases h) (fun h => by cases h) (fun h => by cases h) hkd hkd1 hkk hkk1 (by rfl) s0 d0 m0
    (by rw [nI_ti (by omega), nI_ti (by omega)]; show ¬ _ > ((arrV (K.2.2.2.1 0) n0 (fun j => .int (f j))).slots.size : Int); rw [arrV_size]; omega)
    (by rw [nI_ti (by omega), nI_ti (by omega)]; show ¬ _ > ((arrV (K.2.2.2.1 0) n1 (fun j => .int (g j))).slots.size : Int); rw [arrV_size]; omega)
    (fun vm₁ _ i hi => by
      rw [m1] at hi
      have e : (vp_cell (K.2.2.2.1 0) (n0, .inl f)).slots.getD ((nI sp).toNatClampNeg + i) .null = .int (f (sp + i)) := by
        show (arrV _ n0 (fun j => .int (f j))).slots.getD _ _ = _
        rw [s1, Array.getD_eq_getD_getElem?, arrV_read _ _ (by omega)]
        rfl
      rw [e]
      exact ⟨rfl, trivial⟩)
    (g := F0 m pc ls ((Value.int (nI q) :: .int (nI dp) :: .ref k1 :: .int (nI sp) :: .ref k0 :: st).map (cv K))) rfl (by rw [hB.2.2.1, h10.1]) (rest := st.map (cv K)) rfl (by rw [hB.2.1]; exact hdg) (by omega) (by show 2 * 0 + _ + (5 + 2 + 11) ≤ _; rw [cat_sum]; omega)
  have e1 : copied (vp_cell (K.2.2.2.1 0) (n0, .inl f)) (vp_cell (K.2.2.2.1 0) (n1, .inl g)) (nI sp) (nI dp) (nI q) = vp_cell (K.2.2.2.1 0) (n1, .inl (va_cpy f g sp dp q)) := by
    have z := va_copied (fun z => .int z) (K.2.2.2.1 0) (K.2.2.2.1 0) (n1 := n1) (dp := dp) f g hs
    show Cell.storeRun _ (nI dp).toNatClampNeg (Cell.stretch _ (nI sp).toNatClampNeg (nI q).toNatClampNeg) = _
    rw [s1, d1, m1]
    exact z
  rw [e1] at X' step
  have hll : K.1.size + k1 < H.size := (Array.getElem?_eq_some_iff.mp hc1).1
  generalize hV : vp_cell (K.2.2.2.1 0) (n1, .inl (va_cpy f g sp dp q)) = V at X' step
  have hheap : ((T.setVm vm').setCell (K.1.size + k1) V).heap = H.setIfInBounds (K.1.size + k1) V := by rw [← hT]; rfl
  have oq : ∀ q : Nat, q ≠ K.1.size + k1 → (H.setIfInBounds (K.1.size + k1) V)[q]? = H[q]? := fun q hq => by simp [Array.getElem?_setIfInBounds, Ne.symm hq]
  have z : (H.setIfInBounds (K.1.size + k1) V).size = H.size := by simp
  obtain ⟨t, a1, b1⟩ := kk p e R s m args below meth c (H.setIfInBounds (K.1.size + k1) V) _ cells slots mc ms ls hB h1 h2 h3 h4 h5 h6 (cR_set h7 (aI_of ha1) z oq (by
    show (H.setIfInBounds (K.1.size + k1) V)[K.1.size + k1]? = some _
    rw [Array.getElem?_setIfInBounds_self_of_lt hll, ← hV]; rfl)) (by rw [z]; exact h8) (fun q hq => by
      rcases List.mem_append.mp hq with hq | hq
      · exact h9 q hq
      · obtain ⟨y, -, hy⟩ := List.mem_map.mp hq
        rw [← hy]; exact Nat.le_add_right _ _) h10 _ hheap X'
  exact ⟨t, step t a1, b1⟩
set_option maxHeartbeats 800000 in
theorem g_cpL {k0 k1 n0 n1 ix : Nat} {f g : Nat → Int64} (sp dp q : Nat) (hl : Cond.methodLink M.1.cls ix ⟨"java/lang/System", "arraycopy", "(Ljava/lang/Object;ILjava/lang/Object;II)V"⟩ ∈ tblG) (ha0 : aL h k0 = some (n0, f)) (ha1 : aL h k1 = some (n1, g)) (hs : sp + q ≤ n0) (ht : dp + q ≤ n1) (b0 : n0 < 2147483648) (b1 : n1 < 2147483648) (hh : h.set k1 (.inl (1, n1, .inr (.inl (va_cpy f g sp dp q)))) = h2) (hd1 : 1 ≤ d) (hW : (st.map fun v => v.category).sum ≤ 8) (hd : dc M pc (.invokestatic ix) 3 n) (kk : GL l K M d kc ks n lo st h2 Q) : GL l K M d kc ks pc lo (.int (nI q) :: .int (nI dp) :: .ref k1 :: .int (nI sp) :: .ref k0 :: st) h Q := by
  subst hh
  intro p e R s m args below meth c H locs cells slots mc ms ls hB h1 h2 h3 h4 h5 h6 h7 h8 h9 h10
  obtain ⟨hdg, rfl⟩ := hd
  have hts := hB.2.2.2.2.2.1
  have hK := hB.2.2.2.2.2.2.2.2.1.1
  have hc0 : H[K.1.size + k0]? = some (vp_cell (K.2.2.2.1 1) (n0, .inr (.inl f))) := h7.2.1 k0 _ (wl_at (aL_of ha0))
  have hc1 : H[K.1.size + k1]? = some (vp_cell (K.2.2.2.1 1) (n1, .inr (.inl g))) := h7.2.1 k1 _ (wl_at (aL_of ha1))
  obtain ⟨s0, s1⟩ := nn_nI (a := sp) (by omega)
  obtain ⟨d0, d1⟩ := nn_nI (a := dp) (by omega)
  obtain ⟨m0, m1⟩ := nn_nI (a := q) (by omega)
  intro T hT X
  obtain ⟨-, kd, hkd, cm, hkk⟩ := (hK.2 1 _ rfl).1 n0 (fun j => .long (f j))
  obtain ⟨-, kd1, hkd1, cm1, hkk1⟩ := (hK.2 1 _ rfl).1 n1 (fun j => .long (g j))
  obtain ⟨vm', X', step⟩ := X.arraycopy hB.1 hB.2.2.2.2.1 (hts _ hl) (hts _ (tg_at 42 (by decide +kernel) rfl)) (hts _ (tg_at 41 (by decide +kernel) rfl)) (hts _ (tg_at 3 (by decide +kernel) rfl)) (src := K.1.size + k0) (dst := K.1.size + k1) (cs := vp_cell (K.2.2.2.1 1) (n0, .inr (.inl f))) (cd := vp_cell (K.2.2.2.1 1) (n1, .inr (.inl g))) (srcPos := nI sp) (destPos := nI dp) (n := nI q) (by rw [hT]; exact hc0) (by rw [hT]; exact hc1)
    (fun _ h => by cases h) (fun _ h => by cases h) (fun h => by cases h) (fun h => by cases h) hkd hkd1 hkk hkk1 (by rfl) s0 d0 m0
    (by rw [nI_ti (by omega), nI_ti (by omega)]; show ¬ _ > ((arrV (K.2.2.2.1 1) n0 (fun j => .long (f j))).slots.size : Int); rw [arrV_size]; omega)
    (by rw [nI_ti (by omega), nI_ti (by omega)]; show ¬ _ > ((arrV (K.2.2.2.1 1) n1 (fun j => .long (g j))).slots.size : Int); rw [arrV_size]; omega)
    (fun vm₁ _ i hi => by
      rw [m1] at hi
      have e : (vp_cell (K.2.2.2.1 1) (n0, .inr (.inl f))).slots.getD ((nI sp).toNatClampNeg + i) .null = .long (f (sp + i)) := by
        show (arrV _ n0 (fun j => .long (f j))).slots.getD _ _ = _
        rw [s1, Array.getD_eq_getD_getElem?, arrV_read _ _ (by omega)]
        rfl
      rw [e]
      exact ⟨rfl, trivial⟩)
    (g := F0 m pc ls ((Value.int (nI q) :: .int (nI dp) :: .ref k1 :: .int (nI sp) :: .ref k0 :: st).map (cv K))) rfl (by rw [hB.2.2.1, h10.1]) (rest := st.map (cv K)) rfl (by rw [hB.2.1]; exact hdg) (by omega) (by show 2 * 0 + _ + (5 + 2 + 11) ≤ _; rw [cat_sum]; omega)
  have e1 : copied (vp_cell (K.2.2.2.1 1) (n0, .inr (.inl f))) (vp_cell (K.2.2.2.1 1) (n1, .inr (.inl g))) (nI sp) (nI dp) (nI q) = vp_cell (K.2.2.2.1 1) (n1, .inr (.inl (va_cpy f g sp dp q))) := by
    have z := va_copied (fun z => .long z) (K.2.2.2.1 1) (K.2.2.2.1 1) (n1 := n1) (dp := dp) f g hs
    show Cell.storeRun _ (nI dp).toNatClampNeg (Cell.stretch _ (nI sp).toNatClampNeg (nI q).toNatClampNeg) = _
    rw [s1, d1, m1]
    exact z
  rw [e1] at X' step
  have hll : K.1.size + k1 < H.size := (Array.getElem?_eq_some_iff.mp hc1).1
  generalize hV : vp_cell (K.2.2.2.1 1) (n1, .inr (.inl (va_cpy f g sp dp q))) = V at X' step
  have hheap : ((T.setVm vm').setCell (K.1.size + k1) V).heap = H.setIfInBounds (K.1.size + k1) V := by rw [← hT]; rfl
  have oq : ∀ q : Nat, q ≠ K.1.size + k1 → (H.setIfInBounds (K.1.size + k1) V)[q]? = H[q]? := fun q hq => by simp [Array.getElem?_setIfInBounds, Ne.symm hq]
  have z : (H.setIfInBounds (K.1.size + k1) V).size = H.size := by simp
  obtain ⟨t, a1, b1⟩ := kk p e R s m args below meth c (H.setIfInBounds (K.1.size + k1) V) _ cells slots mc ms ls hB h1 h2 h3 h4 h5 h6 (cR_set h7 (aL_of ha1) z oq (by
    show (H.setIfInBounds (K.1.size + k1) V)[K.1.size + k1]? = some _
    rw [Array.getElem?_setIfInBounds_self_of_lt hll, ← hV]; rfl)) (by rw [z]; exact h8) (fun q hq => by
      rcases List.mem_append.mp hq with hq | hq
      · exact h9 q hq
      · obtain ⟨y, -, hy⟩ := List.mem_map.mp hq
        rw [← hy]; exact Nat.le_add_right _ _) h10 _ hheap X'
  exact ⟨t, step t a1, b1⟩
end RZ
def cI (I : wI) (k : Nat) (F : Nat → Int32) : wI := fun a => if a = k then F else I a
def cL (L : wL) (k : Nat) (F : Nat → Int64) : wL := fun a => if a = k then F else L a
theorem cI_s {I : wI} {k : Nat} {F : Nat → Int32} : cI I k F k = F := if_pos rfl
theorem cI_n {I : wI} {k a : Nat} {F : Nat → Int32} (h : a ≠ k) : cI I k F a = I a := if_neg h
theorem cL_s {L : wL} {k : Nat} {F : Nat → Int64} : cL L k F k = F := if_pos rfl
theorem cL_n {L : wL} {k a : Nat} {F : Nat → Int64} (h : a ≠ k) : cL L k F a = L a := if_neg h
def fil {α : Type} (f : Nat → α) (x : α) (i : Nat) : Nat → α := fun j => if j < i then x else f j
theorem fil_0 {α : Type} (f : Nat → α) (x : α) : fil f x 0 = f := by funext j; exact if_neg (Nat.not_lt_zero _)
theorem fil_s (f : Nat → Int32) (x : Int32) (i : Nat) : upd (fil f x i) i x = fil f x (i + 1) := by
  funext j; unfold upd fil
  by_cases h : j = i
  · rw [if_pos h, if_pos (by omega)]
  · rw [if_neg h]
    by_cases h2 : j < i
    · rw [if_pos h2, if_pos (by omega)]
    · rw [if_neg h2, if_neg (by omega)]
theorem fil_sL (f : Nat → Int64) (x : Int64) (i : Nat) : vp_updL (fil f x i) i x = fil f x (i + 1) := by
  funext j; unfold vp_updL fil
  by_cases h : j = i
  · rw [if_pos h, if_pos (by omega)]
  · rw [if_neg h]
    by_cases h2 : j < i
    · rw [if_pos h2, if_pos (by omega)]
    · rw [if_neg h2, if_neg (by omega)]
theorem set_same {h : cH} {k : Nat} {e : cE} (he : h[k]? = some e) : h.set k e = h := by
  obtain ⟨hl, hx⟩ := List.getElem?_eq_some_iff.mp he
  rw [← hx]; exact List.set_getElem_self hl
theorem aI_lt {h : cH} {k t n : Nat} {f : Nat → Int32} (ha : aI h k t = some (n, f)) : k < h.length := (List.getElem?_eq_some_iff.mp (aI_of ha)).1
theorem aL_lt {h : cH} {k n : Nat} {f : Nat → Int64} (ha : aL h k = some (n, f)) : k < h.length := (List.getElem?_eq_some_iff.mp (aL_of ha)).1
theorem aI_st {h : cH} {k n : Nat} {f : Nat → Int32} (hk : k < h.length) : aI (h.set k (.inl (0, n, .inl f))) k 0 = some (n, f) := by
  unfold aI; rw [List.getElem?_set_self hk]; rfl
theorem aL_st {h : cH} {k n : Nat} {f : Nat → Int64} (hk : k < h.length) : aL (h.set k (.inl (1, n, .inr (.inl f)))) k = some (n, f) := by
  unfold aL; rw [List.getElem?_set_self hk]; rfl
set_option maxHeartbeats 400000 in
theorem rAr_lp {l : Launch} {K : cK} {d : Nat} {h : cH} (k n0 : Nat) (f : Nat → Int32) (x : Int32) (hk : k < h.length) (hn : n0 < 2147483648) : ∀ (m i : Nat), i + m = n0 → GL l K mAr_fill d 0 0 5 [(0, .ref k), (1, .int x), (2, .int (nI i)), (3, .int (nI n0))] [] (h.set k (.inl (0, n0, .inl (fil f x i)))) (fun r h1 => r = none ∧ h1 = h.set k (.inl (0, n0, .inl (fil f x n0)))) := by
  intro m
  induction m with
  | zero =>
    intro i hi
    obtain rfl : n0 = i := by omega
    refine g_iload_n dAr_fill_5 rfl ?_
    refine g_iload_n dAr_fill_6 rfl ?_
    refine g_ic_ge ((n0 : Nat) : Int) ((n0 : Nat) : Int) 20 (nI_ti (by omega)) (nI_ti (by omega)) dAr_fill_7 rfl (fun _ => ?_) (fun c => absurd (Int.le_refl _) c)
    exact g_vret rfl dAr_fill_20 ⟨rfl, rfl⟩
  | succ m ih =>
    intro i hi
    refine g_iload_n dAr_fill_5 rfl ?_
    refine g_iload_n dAr_fill_6 rfl ?_
    refine g_ic_ge ((i : Nat) : Int) ((n0 : Nat) : Int) 20 (nI_ti (by omega)) (nI_ti (by omega)) dAr_fill_7 rfl (fun c => absurd c (by omega)) (fun _ => ?_)
    refine g_aload_n dAr_fill_10 rfl ?_
    refine g_iload_n dAr_fill_11 rfl ?_
    refine g_iload_n dAr_fill_12 rfl ?_
    refine g_iastN i _ dAr_fill_13 (aI_st hk) rfl (by omega) hn rfl ?_
    refine g_iincN dAr_fill_14 rfl (by decide) ?_
    refine g_goto 5 dAr_fill_17 rfl ?_
    rw [List.set_set, fil_s]
    refine g_lo [(0, .ref k), (1, .int x), (2, .int (nI (i + 1))), (3, .int (nI n0))] ⟨rfl, rfl, rfl, rfl, trivial⟩ ?_
    exact ih (i + 1) (by omega)
theorem rAr_fill {l : Launch} {K : cK} {d : Nat} {h : cH} (k n0 : Nat) (f : Nat → Int32) (x : Int32) (ha : aI h k 0 = some (n0, f)) (hn : n0 < 2147483648) (h2 : cH) (hh : h.set k (.inl (0, n0, .inl (fil f x n0))) = h2) (hd : 0 ≤ d) : CV l K mAr_fill d [.ref k, .int x] h h2 := by
  refine CC.of okAr_fill (Nat.le_of_ble_eq_true rfl) ?_
  subst hh
  refine g_iconstv (nI 0) dAr_fill_0 rfl ?_
  refine g_istore_n dAr_fill_1 (by decide) ?_
  refine g_aload_n dAr_fill_2 rfl ?_
  refine g_alenI dAr_fill_3 (by decide) ha ?_
  refine g_istore_n dAr_fill_4 (by decide) ?_
  have e0 : h = h.set k (.inl (0, n0, .inl (fil f x 0))) := by rw [fil_0]; exact (set_same (aI_of ha)).symm
  have hk := aI_lt ha
  refine g_lo [(0, .ref k), (1, .int x), (2, .int (nI 0)), (3, .int (nI n0))] ⟨rfl, rfl, rfl, rfl, trivial⟩ ?_
  have z := rAr_lp (l := l) (K := K) (d := d) (h := h) k n0 f x hk hn n0 0 (by omega)
  rw [← e0] at z
  exact z
set_option maxHeartbeats 400000 in
theorem rAr_lpL {l : Launch} {K : cK} {d : Nat} {h : cH} (k n0 : Nat) (f : Nat → Int64) (x : Int64) (hk : k < h.length) (hn : n0 < 2147483648) : ∀ (m i : Nat), i + m = n0 → GL l K mAr_fillL d 0 0 6 [(0, .ref k), (1, .long x), (3, .int (nI i)), (4, .int (nI n0))] [] (h.set k (.inl (1, n0, .inr (.inl (fil f x i))))) (fun r h1 => r = none ∧ h1 = h.set k (.inl (1, n0, .inr (.inl (fil f x n0))))) := by
  intro m
  induction m with
  | zero =>
    intro i hi
    obtain rfl : n0 = i := by omega
    refine g_iload_n dAr_fillL_6 rfl ?_
    refine g_iload dAr_fillL_7 rfl ?_
    refine g_ic_ge ((n0 : Nat) : Int) ((n0 : Nat) : Int) 22 (nI_ti (by omega)) (nI_ti (by omega)) dAr_fillL_9 rfl (fun _ => ?_) (fun c => absurd (Int.le_refl _) c)
    exact g_vret rfl dAr_fillL_22 ⟨rfl, rfl⟩
  | succ m ih =>
    intro i hi
    refine g_iload_n dAr_fillL_6 rfl ?_
    refine g_iload dAr_fillL_7 rfl ?_
    refine g_ic_ge ((i : Nat) : Int) ((n0 : Nat) : Int) 22 (nI_ti (by omega)) (nI_ti (by omega)) dAr_fillL_9 rfl (fun c => absurd c (by omega)) (fun _ => ?_)
    refine g_aload_n dAr_fillL_12 rfl ?_
    refine g_iload_n dAr_fillL_13 rfl ?_
    refine g_lload_n dAr_fillL_14 rfl ?_
    refine g_lastN i _ dAr_fillL_15 (aL_st hk) rfl (by omega) hn rfl ?_
    refine g_iincN dAr_fillL_16 rfl (by decide) ?_
    refine g_goto 6 dAr_fillL_19 rfl ?_
    rw [List.set_set, fil_sL]
    refine g_lo [(0, .ref k), (1, .long x), (3, .int (nI (i + 1))), (4, .int (nI n0))] ⟨rfl, rfl, rfl, rfl, trivial⟩ ?_
    exact ih (i + 1) (by omega)
theorem rAr_fillL {l : Launch} {K : cK} {d : Nat} {h : cH} (k n0 : Nat) (f : Nat → Int64) (x : Int64) (ha : aL h k = some (n0, f)) (hn : n0 < 2147483648) (h2 : cH) (hh : h.set k (.inl (1, n0, .inr (.inl (fil f x n0)))) = h2) (hd : 0 ≤ d) : CV l K mAr_fillL d [.ref k, .long x] h h2 := by
  refine CC.of okAr_fillL (Nat.le_of_ble_eq_true rfl) ?_
  subst hh
  refine g_iconstv (nI 0) dAr_fillL_0 rfl ?_
  refine g_istore_n dAr_fillL_1 (by decide) ?_
  refine g_aload_n dAr_fillL_2 rfl ?_
  refine g_alenL dAr_fillL_3 ha ?_
  refine g_istore dAr_fillL_4 (by decide) ?_
  have e0 : h = h.set k (.inl (1, n0, .inr (.inl (fil f x 0)))) := by rw [fil_0]; exact (set_same (aL_of ha)).symm
  have hk := aL_lt ha
  refine g_lo [(0, .ref k), (1, .long x), (3, .int (nI 0)), (4, .int (nI n0))] ⟨rfl, rfl, rfl, rfl, trivial⟩ ?_
  have z := rAr_lpL (l := l) (K := K) (d := d) (h := h) k n0 f x hk hn n0 0 (by omega)
  rw [← e0] at z
  exact z
theorem rAr_fill_25 {l : Launch} {K : cK} {d : Nat} {I : wI} {L : wL} {R : wR} {dy : cH} (x : Int32) (hd : 0 ≤ d) : CV l K mAr_fill d [.ref 25, .int x] (hp I L R dy) (hp (cI I 25 (fil (I 25) x 12)) L R dy) := rAr_fill 25 12 (I 25) x a_25 (by decide) _ rfl hd
theorem rAr_fill_46 {l : Launch} {K : cK} {d : Nat} {I : wI} {L : wL} {R : wR} {dy : cH} (x : Int32) (hd : 0 ≤ d) : CV l K mAr_fill d [.ref 46, .int x] (hp I L R dy) (hp (cI I 46 (fil (I 46) x 6)) L R dy) := rAr_fill 46 6 (I 46) x a_46 (by decide) _ rfl hd
theorem rAr_fill_47 {l : Launch} {K : cK} {d : Nat} {I : wI} {L : wL} {R : wR} {dy : cH} (x : Int32) (hd : 0 ≤ d) : CV l K mAr_fill d [.ref 47, .int x] (hp I L R dy) (hp (cI I 47 (fil (I 47) x 6)) L R dy) := rAr_fill 47 6 (I 47) x a_47 (by decide) _ rfl hd
theorem rAr_fill_48 {l : Launch} {K : cK} {d : Nat} {I : wI} {L : wL} {R : wR} {dy : cH} (x : Int32) (hd : 0 ≤ d) : CV l K mAr_fill d [.ref 48, .int x] (hp I L R dy) (hp (cI I 48 (fil (I 48) x 6)) L R dy) := rAr_fill 48 6 (I 48) x a_48 (by decide) _ rfl hd
theorem rAr_fill_50 {l : Launch} {K : cK} {d : Nat} {I : wI} {L : wL} {R : wR} {dy : cH} (x : Int32) (hd : 0 ≤ d) : CV l K mAr_fill d [.ref 50, .int x] (hp I L R dy) (hp (cI I 50 (fil (I 50) x 6)) L R dy) := rAr_fill 50 6 (I 50) x a_50 (by decide) _ rfl hd
theorem rAr_fill_27 {l : Launch} {K : cK} {d : Nat} {I : wI} {L : wL} {R : wR} {dy : cH} (x : Int64) (hd : 0 ≤ d) : CV l K mAr_fillL d [.ref 27, .long x] (hp I L R dy) (hp I (cL L 27 (fil (L 27) x 169)) R dy) := rAr_fillL 27 169 (L 27) x a_27 (by decide) _ rfl hd
theorem rAr_fill_33 {l : Launch} {K : cK} {d : Nat} {I : wI} {L : wL} {R : wR} {dy : cH} (x : Int64) (hd : 0 ≤ d) : CV l K mAr_fillL d [.ref 33, .long x] (hp I L R dy) (hp I (cL L 33 (fil (L 33) x 13)) R dy) := rAr_fillL 33 13 (L 33) x a_33 (by decide) _ rfl hd
theorem rAr_fill_34 {l : Launch} {K : cK} {d : Nat} {I : wI} {L : wL} {R : wR} {dy : cH} (x : Int64) (hd : 0 ≤ d) : CV l K mAr_fillL d [.ref 34, .long x] (hp I L R dy) (hp I (cL L 34 (fil (L 34) x 13)) R dy) := rAr_fillL 34 13 (L 34) x a_34 (by decide) _ rfl hd
theorem rAr_fill_35 {l : Launch} {K : cK} {d : Nat} {I : wI} {L : wL} {R : wR} {dy : cH} (x : Int64) (hd : 0 ≤ d) : CV l K mAr_fillL d [.ref 35, .long x] (hp I L R dy) (hp I (cL L 35 (fil (L 35) x 169)) R dy) := rAr_fillL 35 169 (L 35) x a_35 (by decide) _ rfl hd
theorem rAr_fill_37 {l : Launch} {K : cK} {d : Nat} {I : wI} {L : wL} {R : wR} {dy : cH} (x : Int64) (hd : 0 ≤ d) : CV l K mAr_fillL d [.ref 37, .long x] (hp I L R dy) (hp I (cL L 37 (fil (L 37) x 169)) R dy) := rAr_fillL 37 169 (L 37) x a_37 (by decide) _ rfl hd
theorem rAr_fill_38 {l : Launch} {K : cK} {d : Nat} {I : wI} {L : wL} {R : wR} {dy : cH} (x : Int64) (hd : 0 ≤ d) : CV l K mAr_fillL d [.ref 38, .long x] (hp I L R dy) (hp I (cL L 38 (fil (L 38) x 169)) R dy) := rAr_fillL 38 169 (L 38) x a_38 (by decide) _ rfl hd
theorem rAr_fill_43 {l : Launch} {K : cK} {d : Nat} {I : wI} {L : wL} {R : wR} {dy : cH} (x : Int64) (hd : 0 ≤ d) : CV l K mAr_fillL d [.ref 43, .long x] (hp I L R dy) (hp I (cL L 43 (fil (L 43) x 169)) R dy) := rAr_fillL 43 169 (L 43) x a_43 (by decide) _ rfl hd
theorem rAr_fill_53 {l : Launch} {K : cK} {d : Nat} {I : wI} {L : wL} {R : wR} {dy : cH} (x : Int64) (hd : 0 ≤ d) : CV l K mAr_fillL d [.ref 53, .long x] (hp I L R dy) (hp I (cL L 53 (fil (L 53) x 100)) R dy) := rAr_fillL 53 100 (L 53) x a_53 (by decide) _ rfl hd
