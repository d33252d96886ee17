theorem cv_cat (K : cK) (v : Value) : (cv K v).category = v.category := by cases v <;> rfl
/-- a local: the last one stored there -/
def lk : List (Nat × Value) → Nat → Option Value
  | [], _ => none
  | (j, v) :: r, i => if j = i then some v else if j + 1 = i ∧ v.category = 2 then none else if j = i + 1 then (match lk r i with | some w => if w.category = 2 then none else some w | none => none) else lk r i
theorem lk_in {lo : List (Nat × Value)} {i : Nat} {v : Value} (hv : lk lo i = some v) : (i, v) ∈ lo := by
  induction lo with
  | nil => cases hv
  | cons q r ih =>
    obtain ⟨j, w⟩ := q
    simp only [lk] at hv
    by_cases hj : j = i
    · simp only [hj, if_true, Option.some.injEq] at hv
      subst hj; subst hv
      exact List.mem_cons_self
    · simp only [hj, if_false] at hv
      by_cases h1 : j + 1 = i ∧ w.category = 2
      · simp [h1] at hv
      · simp only [h1, if_false] at hv
        by_cases h2 : j = i + 1
        · simp only [h2, if_true] at hv
          cases h3 : lk r i with
          | none => simp [h3] at hv
          | some z =>
            simp only [h3] at hv
            by_cases hz : z.category = 2
            · simp [hz] at hv
            · simp [hz] at hv
              subst hv
              exact List.mem_cons_of_mem _ (ih h3)
        · simp only [h2, if_false] at hv
          exact List.mem_cons_of_mem _ (ih hv)
def ll (lo : List (Nat × Value)) : List (Nat × Value) := lo.filterMap (fun q => (lk lo q.1).map (fun v => (q.1, v)))
theorem ll_mem {lo : List (Nat × Value)} {q : Nat × Value} : q ∈ ll lo ↔ lk lo q.1 = some q.2 := by
  simp only [ll, List.mem_filterMap, Option.map_eq_some_iff]
  constructor
  · rintro ⟨i, hi, v, hv, rfl⟩
    exact hv
  · intro h
    exact ⟨q, lk_in h, q.2, h, rfl⟩
theorem lk_ne1 {lo : List (Nat × Value)} {i j : Nat} {v w : Value} (hv : v.category = 1) (hj : ¬ i = j) (h : lk ((i, v) :: lo) j = some w) : lk lo j = some w ∧ ¬ (j + 1 = i ∧ w.category = 2) := by
  simp only [lk, hj, if_false, hv] at h
  by_cases h2 : i = j + 1
  · simp only [h2, if_true] at h
    simp at h
    cases h3 : lk lo j with
    | none => simp [h3] at h
    | some z =>
      simp only [h3] at h
      by_cases hz : z.category = 2
      · simp [hz] at h
      · simp [hz] at h
        subst h
        exact ⟨rfl, fun q => hz q.2⟩
  · simp [h2] at h
    exact ⟨h, fun q => h2 q.1.symm⟩
theorem lk_ne2 {lo : List (Nat × Value)} {i j : Nat} {v w : Value} (hv : v.category = 2) (hj : ¬ i = j) (h : lk ((i, v) :: lo) j = some w) : lk lo j = some w ∧ ¬ j = i + 1 ∧ ¬ (j + 1 = i ∧ w.category = 2) := by
  simp only [lk, hj, if_false, hv] at h
  by_cases h1 : i + 1 = j
  · simp [h1] at h
  · simp only [h1] at h
    by_cases h2 : i = j + 1
    · simp only [h2, if_true] at h
      simp at h
      cases h3 : lk lo j with
      | none => simp [h3] at h
      | some z =>
        simp only [h3] at h
        by_cases hz : z.category = 2
        · simp [hz] at h
        · simp [hz] at h
          subst h
          exact ⟨rfl, fun q => h1 q.symm, fun q => hz q.2⟩
    · simp [h2] at h
      exact ⟨h, fun q => h1 q.symm, fun q => h2 q.1.symm⟩
theorem lh_of {K : cK} {ls : Array Slot} {n : Nat} {lo : List (Nat × Value)} (h : lv_has ls n (lc K (ll lo))) {i : Nat} {v : Value} (hv : lk lo i = some v) : ls[i]? = some (.val (cv K v)) := by
  have h1 : (i, cv K v) ∈ lc K (ll lo) := List.mem_map.mpr ⟨(i, v), ll_mem.mpr hv, rfl⟩
  exact h.2.2 _ h1
theorem lh_sub {ls : Array Slot} {n : Nat} {a b : List (Nat × Value)} (h : lv_has ls n a) (hs : ∀ q ∈ b, q ∈ a) : lv_has ls n b := ⟨h.1, h.2.1, fun q hq => h.2.2 q (hs q hq)⟩
theorem lh_st1 {K : cK} {i : Nat} {v : Value} {lo : List (Nat × Value)} (hv : v.category = 1) : ∀ q ∈ lc K (ll ((i, v) :: lo)), q ∈ (i, cv K v) :: (lc K (ll lo)).filter (fun q => !(q.1 == i) && !(q.1 + 1 == i && q.2.category == 2)) := by
  intro q hq
  obtain ⟨⟨j, w⟩, h1, rfl⟩ := List.mem_map.mp hq
  have h3 := ll_mem.mp h1
  by_cases hj : i = j
  · subst hj
    have h4 : v = w := by simpa [lk] using h3
    subst h4
    exact List.mem_cons_self
  · obtain ⟨h4, h5⟩ := lk_ne1 hv hj h3
    refine List.mem_cons_of_mem _ (List.mem_filter.mpr ⟨List.mem_map.mpr ⟨(j, w), ll_mem.mpr h4, rfl⟩, ?_⟩)
    have h6 : ¬ j = i := fun h => hj h.symm
    simp only [cv_cat]
    simp [h6]
    exact Decidable.not_and_iff_or_not.mp h5
theorem lh_st2 {K : cK} {i : Nat} {v : Value} {lo : List (Nat × Value)} (hv : v.category = 2) : ∀ q ∈ lc K (ll ((i, v) :: lo)), q ∈ (i, cv K v) :: (lc K (ll lo)).filter (fun q => !(q.1 == i) && (!(q.1 == i + 1) && !(q.1 + 1 == i && q.2.category == 2))) := by
  intro q hq
  obtain ⟨⟨j, w⟩, h1, rfl⟩ := List.mem_map.mp hq
  have h3 := ll_mem.mp h1
  by_cases hj : i = j
  · subst hj
    have h4 : v = w := by simpa [lk] using h3
    subst h4
    exact List.mem_cons_self
  · obtain ⟨h4, h5, h9⟩ := lk_ne2 hv hj h3
    refine List.mem_cons_of_mem _ (List.mem_filter.mpr ⟨List.mem_map.mpr ⟨(j, w), ll_mem.mpr h4, rfl⟩, ?_⟩)
    have h6 : ¬ j = i := fun h => hj h.symm
    simp only [cv_cat]
    simp [h6, h5]
    exact Decidable.not_and_iff_or_not.mp h9
section RU
variable {l : Launch} {K : cK} {M : MI} {d kc ks pc n : Nat} {lo : List (Nat × Value)} {st : List Value} {h : cH} {Q : Option Value → cH → Prop}
/-- the judgement, with the locals by lk -/
def GL (l : Launch) (K : cK) (M : MI) (d kc ks pc : Nat) (lo : List (Nat × Value)) (st : List Value) (h : cH) (Q : Option Value → cH → Prop) : Prop := GG l K M d kc ks pc (ll lo) st h Q
def sb (lo : List (Nat × Value)) : List (Nat × Value) → Prop
  | [] => True
  | q :: r => lk lo q.1 = some q.2 ∧ sb lo r
theorem sb_all {lo : List (Nat × Value)} : ∀ {l2 : List (Nat × Value)}, sb lo l2 → ∀ q ∈ l2, lk lo q.1 = some q.2
  | [], _, q, hq => absurd hq List.not_mem_nil
  | a :: r, hs, q, hq => by
    rcases List.mem_cons.mp hq with rfl | hq
    · exact hs.1
    · exact sb_all hs.2 q hq
/-- fewer locals, in another order -/
theorem g_lo (lo2 : List (Nat × Value)) (hs : sb lo lo2) (k : GL l K M d kc ks pc lo2 st h Q) : GL l K M d kc ks pc lo st h Q := by
  intro p e R s m args below meth c H locs cells slots mc ms ls hB h1 h2 h3 h4 h5 h6 h7 h8 h9 h10
  refine k p e R s m args below meth c H locs cells slots mc ms ls hB h1 h2 h3 h4 h5 h6 h7 h8 h9 (lh_sub h10 (fun q hq => ?_))
  obtain ⟨⟨j, w⟩, g1, rfl⟩ := List.mem_map.mp hq
  exact List.mem_map.mpr ⟨(j, w), ll_mem.mpr (sb_all hs _ (lk_in (ll_mem.mp g1))), rfl⟩
theorem g_st (st2 : List Value) (hs : st = st2) (k : GL l K M d kc ks pc lo st2 h Q) : GL l K M d kc ks pc lo st h Q := hs ▸ k
theorem g_hp (h2 : cH) (hs : h = h2) (k : GL l K M d kc ks pc lo st h2 Q) : GL l K M d kc ks pc lo st h Q := hs ▸ k
/-- more room than is wanted -/
theorem g_room {d2 kc2 ks2 : Nat} (hd : d2 ≤ d) (hc : kc2 ≤ kc) (hk : ks2 ≤ ks) (k : GL l K M d2 kc2 ks2 pc lo st h Q) : GL l K M d kc ks pc lo st h Q := by
  intro p e R s m args below meth c H locs cells slots mc ms ls hB h1 h2 h3 h4 h5 h6 h7 h8 h9 h10
  exact k p e R s m args below meth c H locs cells slots mc ms ls hB (Nat.le_trans hd h1) (Nat.le_trans (Nat.mul_le_mul_left 64 hd) h2) h3 h4 (Nat.le_trans (Nat.add_le_add_left hc cells) h5) (Nat.le_trans (Nat.add_le_add_left hk slots) h6) h7 h8 h9 h10
theorem g_iconst {z : Int} (hd : dc M pc (.iconst z) 1 n) (k : GL l K M d kc ks n lo (.int (Int32.ofInt z) :: st) h Q) : GL l K M d kc ks pc lo (st) h Q := by
  intro p e R s m args below meth c H locs cells slots mc ms ls hB h1 h2 h3 h4 h5 h6 h7 h8 h9 h10
  obtain ⟨hdg, rfl⟩ := hd
  exact lv_iconst hB.1 hB.2.1 hdg rfl (k p e R s m args below meth c H locs cells slots mc ms ls hB h1 h2 h3 h4 h5 h6 h7 h8 h9 h10)
theorem g_bipush {z : Int} (hd : dc M pc (.bipush z) 2 n) (k : GL l K M d kc ks n lo (.int (Int8.ofInt z).toInt32 :: st) h Q) : GL l K M d kc ks pc lo (st) h Q := by
  intro p e R s m args below meth c H locs cells slots mc ms ls hB h1 h2 h3 h4 h5 h6 h7 h8 h9 h10
  obtain ⟨hdg, rfl⟩ := hd
  exact lv_bipush hB.1 hB.2.1 hdg rfl (k p e R s m args below meth c H locs cells slots mc ms ls hB h1 h2 h3 h4 h5 h6 h7 h8 h9 h10)
theorem g_sipush {z : Int} (hd : dc M pc (.sipush z) 3 n) (k : GL l K M d kc ks n lo (.int (Int16.ofInt z).toInt32 :: st) h Q) : GL l K M d kc ks pc lo (st) h Q := by
  intro p e R s m args below meth c H locs cells slots mc ms ls hB h1 h2 h3 h4 h5 h6 h7 h8 h9 h10
  obtain ⟨hdg, rfl⟩ := hd
  exact lv_sipush hB.1 hB.2.1 hdg rfl (k p e R s m args below meth c H locs cells slots mc ms ls hB h1 h2 h3 h4 h5 h6 h7 h8 h9 h10)
theorem g_iconstv {z : Int} (v : Int32) (hd : dc M pc (.iconst z) 1 n) (hv : Int32.ofInt z = v) (k : GL l K M d kc ks n lo (.int v :: st) h Q) : GL l K M d kc ks pc lo (st) h Q := by
  intro p e R s m args below meth c H locs cells slots mc ms ls hB h1 h2 h3 h4 h5 h6 h7 h8 h9 h10
  obtain ⟨hdg, rfl⟩ := hd
  exact lv_iconst hB.1 hB.2.1 hdg hv (k p e R s m args below meth c H locs cells slots mc ms ls hB h1 h2 h3 h4 h5 h6 h7 h8 h9 h10)
theorem g_bipushv {z : Int} (v : Int32) (hd : dc M pc (.bipush z) 2 n) (hv : (Int8.ofInt z).toInt32 = v) (k : GL l K M d kc ks n lo (.int v :: st) h Q) : GL l K M d kc ks pc lo (st) h Q := by
  intro p e R s m args below meth c H locs cells slots mc ms ls hB h1 h2 h3 h4 h5 h6 h7 h8 h9 h10
  obtain ⟨hdg, rfl⟩ := hd
  exact lv_bipush hB.1 hB.2.1 hdg hv (k p e R s m args below meth c H locs cells slots mc ms ls hB h1 h2 h3 h4 h5 h6 h7 h8 h9 h10)
theorem g_sipushv {z : Int} (v : Int32) (hd : dc M pc (.sipush z) 3 n) (hv : (Int16.ofInt z).toInt32 = v) (k : GL l K M d kc ks n lo (.int v :: st) h Q) : GL l K M d kc ks pc lo (st) h Q := by
  intro p e R s m args below meth c H locs cells slots mc ms ls hB h1 h2 h3 h4 h5 h6 h7 h8 h9 h10
  obtain ⟨hdg, rfl⟩ := hd
  exact lv_sipush hB.1 hB.2.1 hdg hv (k p e R s m args below meth c H locs cells slots mc ms ls hB h1 h2 h3 h4 h5 h6 h7 h8 h9 h10)
theorem g_lconstv {z : Fin 2} (v : Int64) (hd : dc M pc (.lconst z) 1 n) (hv : Int64.ofNat (z : Nat) = v) (k : GL l K M d kc ks n lo (.long v :: st) h Q) : GL l K M d kc ks pc lo (st) h Q := by
  intro p e R s m args below meth c H locs cells slots mc ms ls hB h1 h2 h3 h4 h5 h6 h7 h8 h9 h10
  obtain ⟨hdg, rfl⟩ := hd
  exact lv_lconst hB.1 hB.2.1 hdg hv (k p e R s m args below meth c H locs cells slots mc ms ls hB h1 h2 h3 h4 h5 h6 h7 h8 h9 h10)
theorem g_iload_n {z : Fin 4} {x : Int32} (hd : dc M pc (.iload_n z) 1 n) (hv : lk lo z = some (.int x)) (k : GL l K M d kc ks n lo (.int x :: st) h Q) : GL l K M d kc ks pc lo (st) h Q := by
  intro p e R s m args below meth c H locs cells slots mc ms ls hB h1 h2 h3 h4 h5 h6 h7 h8 h9 h10
  obtain ⟨hdg, rfl⟩ := hd
  exact lv_iload_n hB.1 hB.2.1 hdg rfl (lh_of h10 hv) (k p e R s m args below meth c H locs cells slots mc ms ls hB h1 h2 h3 h4 h5 h6 h7 h8 h9 h10)
theorem g_iload {z : Nat} {x : Int32} (hd : dc M pc (.iload z) 2 n) (hv : lk lo z = some (.int x)) (k : GL l K M d kc ks n lo (.int x :: st) h Q) : GL l K M d kc ks pc lo (st) h Q := by
  intro p e R s m args below meth c H locs cells slots mc ms ls hB h1 h2 h3 h4 h5 h6 h7 h8 h9 h10
  obtain ⟨hdg, rfl⟩ := hd
  exact lv_iload hB.1 hB.2.1 hdg (lh_of h10 hv) (k p e R s m args below meth c H locs cells slots mc ms ls hB h1 h2 h3 h4 h5 h6 h7 h8 h9 h10)
theorem g_lload_n {z : Fin 4} {x : Int64} (hd : dc M pc (.lload_n z) 1 n) (hv : lk lo z = some (.long x)) (k : GL l K M d kc ks n lo (.long x :: st) h Q) : GL l K M d kc ks pc lo (st) h Q := by
  intro p e R s m args below meth c H locs cells slots mc ms ls hB h1 h2 h3 h4 h5 h6 h7 h8 h9 h10
  obtain ⟨hdg, rfl⟩ := hd
  exact lv_lload_n hB.1 hB.2.1 hdg rfl (lh_of h10 hv) (k p e R s m args below meth c H locs cells slots mc ms ls hB h1 h2 h3 h4 h5 h6 h7 h8 h9 h10)
theorem g_lload {z : Nat} {x : Int64} (hd : dc M pc (.lload z) 2 n) (hv : lk lo z = some (.long x)) (k : GL l K M d kc ks n lo (.long x :: st) h Q) : GL l K M d kc ks pc lo (st) h Q := by
  intro p e R s m args below meth c H locs cells slots mc ms ls hB h1 h2 h3 h4 h5 h6 h7 h8 h9 h10
  obtain ⟨hdg, rfl⟩ := hd
  exact lv_lload hB.1 hB.2.1 hdg (lh_of h10 hv) (k p e R s m args below meth c H locs cells slots mc ms ls hB h1 h2 h3 h4 h5 h6 h7 h8 h9 h10)
theorem g_aload_n {z : Fin 4} {x : Nat} (hd : dc M pc (.aload_n z) 1 n) (hv : lk lo z = some (.ref x)) (k : GL l K M d kc ks n lo (.ref x :: st) h Q) : GL l K M d kc ks pc lo st h Q := by
  intro p e R s m args below meth c H locs cells slots mc ms ls hB h1 h2 h3 h4 h5 h6 h7 h8 h9 h10
  obtain ⟨hdg, rfl⟩ := hd
  exact lv_aload_n hB.1 hB.2.1 hdg rfl (lh_of h10 hv) (k p e R s m args below meth c H locs cells slots mc ms ls hB h1 h2 h3 h4 h5 h6 h7 h8 h9 h10)
theorem g_aload {z : Nat} {x : Nat} (hd : dc M pc (.aload z) 2 n) (hv : lk lo z = some (.ref x)) (k : GL l K M d kc ks n lo (.ref x :: st) h Q) : GL l K M d kc ks pc lo st h Q := by
  intro p e R s m args below meth c H locs cells slots mc ms ls hB h1 h2 h3 h4 h5 h6 h7 h8 h9 h10
  obtain ⟨hdg, rfl⟩ := hd
  exact lv_aload hB.1 hB.2.1 hdg (lh_of h10 hv) (k p e R s m args below meth c H locs cells slots mc ms ls hB h1 h2 h3 h4 h5 h6 h7 h8 h9 h10)
theorem g_sload_n {z : Fin 4} {x : Nat} (hd : dc M pc (.aload_n z) 1 n) (hv : lk lo z = some (.retAddr x)) (k : GL l K M d kc ks n lo (.retAddr x :: st) h Q) : GL l K M d kc ks pc lo st h Q := by
  intro p e R s m args below meth c H locs cells slots mc ms ls hB h1 h2 h3 h4 h5 h6 h7 h8 h9 h10
  obtain ⟨hdg, rfl⟩ := hd
  exact lv_aload_n hB.1 hB.2.1 hdg rfl (lh_of h10 hv) (k p e R s m args below meth c H locs cells slots mc ms ls hB h1 h2 h3 h4 h5 h6 h7 h8 h9 h10)
theorem g_sload {z : Nat} {x : Nat} (hd : dc M pc (.aload z) 2 n) (hv : lk lo z = some (.retAddr x)) (k : GL l K M d kc ks n lo (.retAddr x :: st) h Q) : GL l K M d kc ks pc lo st h Q := by
  intro p e R s m args below meth c H locs cells slots mc ms ls hB h1 h2 h3 h4 h5 h6 h7 h8 h9 h10
  obtain ⟨hdg, rfl⟩ := hd
  exact lv_aload hB.1 hB.2.1 hdg (lh_of h10 hv) (k p e R s m args below meth c H locs cells slots mc ms ls hB h1 h2 h3 h4 h5 h6 h7 h8 h9 h10)
theorem g_istore_n {z : Fin 4} {x : Int32} (hd : dc M pc (.istore_n z) 1 n) (hi : (z : Nat) < M.2.2.1) (k : GL l K M d kc ks n ((z, .int x) :: lo) st h Q) : GL l K M d kc ks pc lo (.int x :: st) h Q := by
  intro p e R s m args below meth c H locs cells slots mc ms ls hB h1 h2 h3 h4 h5 h6 h7 h8 h9 h10
  obtain ⟨hdg, rfl⟩ := hd
  refine lv_istore_n hB.1 hB.2.1 hdg rfl h10 hi rfl (fun ls2 hl2 => ?_)
  exact k p e R s m args below meth c H locs cells slots mc ms ls2 hB h1 h2 h3 h4 h5 h6 h7 h8 h9 (lh_sub hl2 (lh_st1 (v := .int x) (by rfl)))
theorem g_istore {z : Nat} {x : Int32} (hd : dc M pc (.istore z) 2 n) (hi : z < M.2.2.1) (k : GL l K M d kc ks n ((z, .int x) :: lo) st h Q) : GL l K M d kc ks pc lo (.int x :: st) h Q := by
  intro p e R s m args below meth c H locs cells slots mc ms ls hB h1 h2 h3 h4 h5 h6 h7 h8 h9 h10
  obtain ⟨hdg, rfl⟩ := hd
  refine lv_istore hB.1 hB.2.1 hdg h10 hi rfl (fun ls2 hl2 => ?_)
  exact k p e R s m args below meth c H locs cells slots mc ms ls2 hB h1 h2 h3 h4 h5 h6 h7 h8 h9 (lh_sub hl2 (lh_st1 (v := .int x) (by rfl)))
theorem g_lstore_n {z : Fin 4} {x : Int64} (hd : dc M pc (.lstore_n z) 1 n) (hi : (z : Nat) + 1 < M.2.2.1) (k : GL l K M d kc ks n ((z, .long x) :: lo) st h Q) : GL l K M d kc ks pc lo (.long x :: st) h Q := by
  intro p e R s m args below meth c H locs cells slots mc ms ls hB h1 h2 h3 h4 h5 h6 h7 h8 h9 h10
  obtain ⟨hdg, rfl⟩ := hd
  refine lv_lstore_n hB.1 hB.2.1 hdg rfl h10 hi rfl (fun ls2 hl2 => ?_)
  exact k p e R s m args below meth c H locs cells slots mc ms ls2 hB h1 h2 h3 h4 h5 h6 h7 h8 h9 (lh_sub hl2 (lh_st2 (v := .long x) (by rfl)))
theorem g_lstore {z : Nat} {x : Int64} (hd : dc M pc (.lstore z) 2 n) (hi : z + 1 < M.2.2.1) (k : GL l K M d kc ks n ((z, .long x) :: lo) st h Q) : GL l K M d kc ks pc lo (.long x :: st) h Q := by
  intro p e R s m args below meth c H locs cells slots mc ms ls hB h1 h2 h3 h4 h5 h6 h7 h8 h9 h10
  obtain ⟨hdg, rfl⟩ := hd
  refine lv_lstore hB.1 hB.2.1 hdg h10 hi rfl (fun ls2 hl2 => ?_)
  exact k p e R s m args below meth c H locs cells slots mc ms ls2 hB h1 h2 h3 h4 h5 h6 h7 h8 h9 (lh_sub hl2 (lh_st2 (v := .long x) (by rfl)))
theorem g_astore_n {z : Fin 4} {x : Nat} (hd : dc M pc (.astore_n z) 1 n) (hi : (z : Nat) < M.2.2.1) (k : GL l K M d kc ks n ((z, .ref x) :: lo) st h Q) : GL l K M d kc ks pc lo (.ref x :: st) h Q := by
  intro p e R s m args below meth c H locs cells slots mc ms ls hB h1 h2 h3 h4 h5 h6 h7 h8 h9 h10
  obtain ⟨hdg, rfl⟩ := hd
  refine lv_astore_n hB.1 hB.2.1 hdg rfl h10 hi rfl (fun ls2 hl2 => ?_)
  exact k p e R s m args below meth c H locs cells slots mc ms ls2 hB h1 h2 h3 h4 h5 h6 h7 h8 h9 (lh_sub hl2 (lh_st1 (v := .ref x) (by rfl)))
theorem g_astore {z : Nat} {x : Nat} (hd : dc M pc (.astore z) 2 n) (hi : z < M.2.2.1) (k : GL l K M d kc ks n ((z, .ref x) :: lo) st h Q) : GL l K M d kc ks pc lo (.ref x :: st) h Q := by
  intro p e R s m args below meth c H locs cells slots mc ms ls hB h1 h2 h3 h4 h5 h6 h7 h8 h9 h10
  obtain ⟨hdg, rfl⟩ := hd
  refine lv_astore hB.1 hB.2.1 hdg h10 hi rfl (fun ls2 hl2 => ?_)
  exact k p e R s m args below meth c H locs cells slots mc ms ls2 hB h1 h2 h3 h4 h5 h6 h7 h8 h9 (lh_sub hl2 (lh_st1 (v := .ref x) (by rfl)))
theorem g_iinc {z : Nat} {a : Int} {x : Int32} (v : Int32) (hd : dc M pc (.iinc z a) 3 n) (hv : lk lo z = some (.int x)) (hx : x + Int32.ofInt a = v) (hi : z < M.2.2.1) (k : GL l K M d kc ks n ((z, .int v) :: lo) st h Q) : GL l K M d kc ks pc lo st h Q := by
  intro p e R s m args below meth c H locs cells slots mc ms ls hB h1 h2 h3 h4 h5 h6 h7 h8 h9 h10
  obtain ⟨hdg, rfl⟩ := hd
  have hm : (z, Value.int x) ∈ lc K (ll lo) := List.mem_map.mpr ⟨(z, .int x), ll_mem.mpr hv, rfl⟩
  obtain ⟨i, hi2⟩ := List.getElem?_of_mem hm
  refine lv_iinc (v := v) hB.1 hB.2.1 hdg h10 hi2 hx hi rfl (fun ls2 hl2 => ?_)
  exact k p e R s m args below meth c H locs cells slots mc ms ls2 hB h1 h2 h3 h4 h5 h6 h7 h8 h9 (lh_sub hl2 (lh_st1 (v := .int v) (by rfl)))
theorem g_iadd {x y : Int32} (hd : dc M pc (.iadd) 1 n) (k : GL l K M d kc ks n lo (.int (x + y) :: st) h Q) : GL l K M d kc ks pc lo (.int y :: .int x :: st) h Q := by
  intro p e R s m args below meth c H locs cells slots mc ms ls hB h1 h2 h3 h4 h5 h6 h7 h8 h9 h10
  obtain ⟨hdg, rfl⟩ := hd
  exact lv_iadd hB.1 hB.2.1 hdg (k p e R s m args below meth c H locs cells slots mc ms ls hB h1 h2 h3 h4 h5 h6 h7 h8 h9 h10)
theorem g_isub {x y : Int32} (hd : dc M pc (.isub) 1 n) (k : GL l K M d kc ks n lo (.int (x - y) :: st) h Q) : GL l K M d kc ks pc lo (.int y :: .int x :: st) h Q := by
  intro p e R s m args below meth c H locs cells slots mc ms ls hB h1 h2 h3 h4 h5 h6 h7 h8 h9 h10
  obtain ⟨hdg, rfl⟩ := hd
  exact lv_isub hB.1 hB.2.1 hdg (k p e R s m args below meth c H locs cells slots mc ms ls hB h1 h2 h3 h4 h5 h6 h7 h8 h9 h10)
theorem g_imul {x y : Int32} (hd : dc M pc (.imul) 1 n) (k : GL l K M d kc ks n lo (.int (x * y) :: st) h Q) : GL l K M d kc ks pc lo (.int y :: .int x :: st) h Q := by
  intro p e R s m args below meth c H locs cells slots mc ms ls hB h1 h2 h3 h4 h5 h6 h7 h8 h9 h10
  obtain ⟨hdg, rfl⟩ := hd
  exact lv_imul hB.1 hB.2.1 hdg (k p e R s m args below meth c H locs cells slots mc ms ls hB h1 h2 h3 h4 h5 h6 h7 h8 h9 h10)
theorem g_iand {x y : Int32} (hd : dc M pc (.iand) 1 n) (k : GL l K M d kc ks n lo (.int (x &&& y) :: st) h Q) : GL l K M d kc ks pc lo (.int y :: .int x :: st) h Q := by
  intro p e R s m args below meth c H locs cells slots mc ms ls hB h1 h2 h3 h4 h5 h6 h7 h8 h9 h10
  obtain ⟨hdg, rfl⟩ := hd
  exact lv_iand hB.1 hB.2.1 hdg (k p e R s m args below meth c H locs cells slots mc ms ls hB h1 h2 h3 h4 h5 h6 h7 h8 h9 h10)
theorem g_ior {x y : Int32} (hd : dc M pc (.ior) 1 n) (k : GL l K M d kc ks n lo (.int (x ||| y) :: st) h Q) : GL l K M d kc ks pc lo (.int y :: .int x :: st) h Q := by
  intro p e R s m args below meth c H locs cells slots mc ms ls hB h1 h2 h3 h4 h5 h6 h7 h8 h9 h10
  obtain ⟨hdg, rfl⟩ := hd
  exact lv_ior hB.1 hB.2.1 hdg (k p e R s m args below meth c H locs cells slots mc ms ls hB h1 h2 h3 h4 h5 h6 h7 h8 h9 h10)
theorem g_ladd {x y : Int64} (hd : dc M pc (.ladd) 1 n) (k : GL l K M d kc ks n lo (.long (x + y) :: st) h Q) : GL l K M d kc ks pc lo (.long y :: .long x :: st) h Q := by
  intro p e R s m args below meth c H locs cells slots mc ms ls hB h1 h2 h3 h4 h5 h6 h7 h8 h9 h10
  obtain ⟨hdg, rfl⟩ := hd
  exact lv_ladd hB.1 hB.2.1 hdg (k p e R s m args below meth c H locs cells slots mc ms ls hB h1 h2 h3 h4 h5 h6 h7 h8 h9 h10)
theorem g_lsub {x y : Int64} (hd : dc M pc (.lsub) 1 n) (k : GL l K M d kc ks n lo (.long (x - y) :: st) h Q) : GL l K M d kc ks pc lo (.long y :: .long x :: st) h Q := by
  intro p e R s m args below meth c H locs cells slots mc ms ls hB h1 h2 h3 h4 h5 h6 h7 h8 h9 h10
  obtain ⟨hdg, rfl⟩ := hd
  exact lv_lsub hB.1 hB.2.1 hdg (k p e R s m args below meth c H locs cells slots mc ms ls hB h1 h2 h3 h4 h5 h6 h7 h8 h9 h10)
theorem g_lmul {x y : Int64} (hd : dc M pc (.lmul) 1 n) (k : GL l K M d kc ks n lo (.long (x * y) :: st) h Q) : GL l K M d kc ks pc lo (.long y :: .long x :: st) h Q := by
  intro p e R s m args below meth c H locs cells slots mc ms ls hB h1 h2 h3 h4 h5 h6 h7 h8 h9 h10
  obtain ⟨hdg, rfl⟩ := hd
  exact lv_lmul hB.1 hB.2.1 hdg (k p e R s m args below meth c H locs cells slots mc ms ls hB h1 h2 h3 h4 h5 h6 h7 h8 h9 h10)
theorem g_idiv {x y : Int32} (hd : dc M pc (.idiv) 1 n) (hne : ¬ y = 0) (k : GL l K M d kc ks n lo (.int (x / y) :: st) h Q) : GL l K M d kc ks pc lo (.int y :: .int x :: st) h Q := by
  intro p e R s m args below meth c H locs cells slots mc ms ls hB h1 h2 h3 h4 h5 h6 h7 h8 h9 h10
  obtain ⟨hdg, rfl⟩ := hd
  exact lv_idiv hB.1 hB.2.1 hdg hne (k p e R s m args below meth c H locs cells slots mc ms ls hB h1 h2 h3 h4 h5 h6 h7 h8 h9 h10)
theorem g_irem {x y : Int32} (hd : dc M pc (.irem) 1 n) (hne : ¬ y = 0) (k : GL l K M d kc ks n lo (.int (x - x / y * y) :: st) h Q) : GL l K M d kc ks pc lo (.int y :: .int x :: st) h Q := by
  intro p e R s m args below meth c H locs cells slots mc ms ls hB h1 h2 h3 h4 h5 h6 h7 h8 h9 h10
  obtain ⟨hdg, rfl⟩ := hd
  exact lv_irem hB.1 hB.2.1 hdg hne (k p e R s m args below meth c H locs cells slots mc ms ls hB h1 h2 h3 h4 h5 h6 h7 h8 h9 h10)
theorem g_ldiv {x y : Int64} (hd : dc M pc (.ldiv) 1 n) (hne : ¬ y = 0) (k : GL l K M d kc ks n lo (.long (x / y) :: st) h Q) : GL l K M d kc ks pc lo (.long y :: .long x :: st) h Q := by
  intro p e R s m args below meth c H locs cells slots mc ms ls hB h1 h2 h3 h4 h5 h6 h7 h8 h9 h10
  obtain ⟨hdg, rfl⟩ := hd
  exact lv_ldiv hB.1 hB.2.1 hdg hne (k p e R s m args below meth c H locs cells slots mc ms ls hB h1 h2 h3 h4 h5 h6 h7 h8 h9 h10)
theorem g_lrem {x y : Int64} (hd : dc M pc (.lrem) 1 n) (hne : ¬ y = 0) (k : GL l K M d kc ks n lo (.long (x - x / y * y) :: st) h Q) : GL l K M d kc ks pc lo (.long y :: .long x :: st) h Q := by
  intro p e R s m args below meth c H locs cells slots mc ms ls hB h1 h2 h3 h4 h5 h6 h7 h8 h9 h10
  obtain ⟨hdg, rfl⟩ := hd
  exact lv_lrem hB.1 hB.2.1 hdg hne (k p e R s m args below meth c H locs cells slots mc ms ls hB h1 h2 h3 h4 h5 h6 h7 h8 h9 h10)
theorem g_ineg {x : Int32} (hd : dc M pc (.ineg) 1 n) (k : GL l K M d kc ks n lo (.int (-x) :: st) h Q) : GL l K M d kc ks pc lo (.int x :: st) h Q := by
  intro p e R s m args below meth c H locs cells slots mc ms ls hB h1 h2 h3 h4 h5 h6 h7 h8 h9 h10
  obtain ⟨hdg, rfl⟩ := hd
  exact lv_ineg hB.1 hB.2.1 hdg (k p e R s m args below meth c H locs cells slots mc ms ls hB h1 h2 h3 h4 h5 h6 h7 h8 h9 h10)
theorem g_ishl {x y : Int32} (hd : dc M pc (.ishl) 1 n) (k : GL l K M d kc ks n lo (.int (x <<< (y &&& 31)) :: st) h Q) : GL l K M d kc ks pc lo (.int y :: .int x :: st) h Q := by
  intro p e R s m args below meth c H locs cells slots mc ms ls hB h1 h2 h3 h4 h5 h6 h7 h8 h9 h10
  obtain ⟨hdg, rfl⟩ := hd
  exact lv_ishl hB.1 hB.2.1 hdg (k p e R s m args below meth c H locs cells slots mc ms ls hB h1 h2 h3 h4 h5 h6 h7 h8 h9 h10)
theorem g_ishr {x y : Int32} (hd : dc M pc (.ishr) 1 n) (k : GL l K M d kc ks n lo (.int (x >>> (y &&& 31)) :: st) h Q) : GL l K M d kc ks pc lo (.int y :: .int x :: st) h Q := by
  intro p e R s m args below meth c H locs cells slots mc ms ls hB h1 h2 h3 h4 h5 h6 h7 h8 h9 h10
  obtain ⟨hdg, rfl⟩ := hd
  exact lv_ishr hB.1 hB.2.1 hdg (k p e R s m args below meth c H locs cells slots mc ms ls hB h1 h2 h3 h4 h5 h6 h7 h8 h9 h10)
theorem g_iushr {x y : Int32} (hd : dc M pc (.iushr) 1 n) (k : GL l K M d kc ks n lo (.int (x.toUInt32 >>> (y.toUInt32 &&& Int32.toUInt32 31)).toInt32 :: st) h Q) : GL l K M d kc ks pc lo (.int y :: .int x :: st) h Q := by
  intro p e R s m args below meth c H locs cells slots mc ms ls hB h1 h2 h3 h4 h5 h6 h7 h8 h9 h10
  obtain ⟨hdg, rfl⟩ := hd
  exact lv_iushr hB.1 hB.2.1 hdg rfl (k p e R s m args below meth c H locs cells slots mc ms ls hB h1 h2 h3 h4 h5 h6 h7 h8 h9 h10)
theorem g_i2l {x : Int32} (hd : dc M pc (.i2l) 1 n) (k : GL l K M d kc ks n lo (.long x.toInt64 :: st) h Q) : GL l K M d kc ks pc lo (.int x :: st) h Q := by
  intro p e R s m args below meth c H locs cells slots mc ms ls hB h1 h2 h3 h4 h5 h6 h7 h8 h9 h10
  obtain ⟨hdg, rfl⟩ := hd
  exact lv_i2l hB.1 hB.2.1 hdg rfl (k p e R s m args below meth c H locs cells slots mc ms ls hB h1 h2 h3 h4 h5 h6 h7 h8 h9 h10)
theorem g_l2i {x : Int64} (hd : dc M pc (.l2i) 1 n) (k : GL l K M d kc ks n lo (.int x.toInt32 :: st) h Q) : GL l K M d kc ks pc lo (.long x :: st) h Q := by
  intro p e R s m args below meth c H locs cells slots mc ms ls hB h1 h2 h3 h4 h5 h6 h7 h8 h9 h10
  obtain ⟨hdg, rfl⟩ := hd
  exact lv_l2i hB.1 hB.2.1 hdg rfl (k p e R s m args below meth c H locs cells slots mc ms ls hB h1 h2 h3 h4 h5 h6 h7 h8 h9 h10)
theorem g_i2c {x : Int32} (hd : dc M pc (.i2c) 1 n) (k : GL l K M d kc ks n lo (.int (x.toUInt32 % 65536).toInt32 :: st) h Q) : GL l K M d kc ks pc lo (.int x :: st) h Q := by
  intro p e R s m args below meth c H locs cells slots mc ms ls hB h1 h2 h3 h4 h5 h6 h7 h8 h9 h10
  obtain ⟨hdg, rfl⟩ := hd
  exact lv_i2c hB.1 hB.2.1 hdg rfl (k p e R s m args below meth c H locs cells slots mc ms ls hB h1 h2 h3 h4 h5 h6 h7 h8 h9 h10)
theorem g_dup {v : Value} (hd : dc M pc (.dup) 1 n) (hv : v.category = 1) (k : GL l K M d kc ks n lo (v :: v :: st) h Q) : GL l K M d kc ks pc lo (v :: st) h Q := by
  intro p e R s m args below meth c H locs cells slots mc ms ls hB h1 h2 h3 h4 h5 h6 h7 h8 h9 h10
  obtain ⟨hdg, rfl⟩ := hd
  exact lv_dup hB.1 hB.2.1 hdg (by rw [cv_cat]; exact hv) (k p e R s m args below meth c H locs cells slots mc ms ls hB h1 h2 h3 h4 h5 h6 h7 h8 h9 h10)
theorem g_pop {v : Value} (hd : dc M pc (.pop) 1 n) (hv : v.category = 1) (k : GL l K M d kc ks n lo (st) h Q) : GL l K M d kc ks pc lo (v :: st) h Q := by
  intro p e R s m args below meth c H locs cells slots mc ms ls hB h1 h2 h3 h4 h5 h6 h7 h8 h9 h10
  obtain ⟨hdg, rfl⟩ := hd
  exact lv_pop hB.1 hB.2.1 hdg (by rw [cv_cat]; exact hv) (k p e R s m args below meth c H locs cells slots mc ms ls hB h1 h2 h3 h4 h5 h6 h7 h8 h9 h10)
theorem g_dup2 {v w : Value} (hd : dc M pc (.dup2) 1 n) (hv : v.category = 1) (hw : w.category = 1) (k : GL l K M d kc ks n lo (v :: w :: v :: w :: st) h Q) : GL l K M d kc ks pc lo (v :: w :: st) h Q := by
  intro p e R s m args below meth c H locs cells slots mc ms ls hB h1 h2 h3 h4 h5 h6 h7 h8 h9 h10
  obtain ⟨hdg, rfl⟩ := hd
  exact lv_dup2_11 hB.1 hB.2.1 hdg (by rw [cv_cat]; exact hv) (by rw [cv_cat]; exact hw) (k p e R s m args below meth c H locs cells slots mc ms ls hB h1 h2 h3 h4 h5 h6 h7 h8 h9 h10)
theorem g_dup2L {v : Value} (hd : dc M pc (.dup2) 1 n) (hv : v.category = 2) (k : GL l K M d kc ks n lo (v :: v :: st) h Q) : GL l K M d kc ks pc lo (v :: st) h Q := by
  intro p e R s m args below meth c H locs cells slots mc ms ls hB h1 h2 h3 h4 h5 h6 h7 h8 h9 h10
  obtain ⟨hdg, rfl⟩ := hd
  exact lv_dup2_2 hB.1 hB.2.1 hdg (by rw [cv_cat]; exact hv) (k p e R s m args below meth c H locs cells slots mc ms ls hB h1 h2 h3 h4 h5 h6 h7 h8 h9 h10)
theorem g_pop2L {v : Value} (hd : dc M pc (.pop2) 1 n) (hv : v.category = 2) (k : GL l K M d kc ks n lo (st) h Q) : GL l K M d kc ks pc lo (v :: st) h Q := by
  intro p e R s m args below meth c H locs cells slots mc ms ls hB h1 h2 h3 h4 h5 h6 h7 h8 h9 h10
  obtain ⟨hdg, rfl⟩ := hd
  exact lv_pop2_2 hB.1 hB.2.1 hdg (by rw [cv_cat]; exact hv) (k p e R s m args below meth c H locs cells slots mc ms ls hB h1 h2 h3 h4 h5 h6 h7 h8 h9 h10)
theorem g_pop2 {v w : Value} (hd : dc M pc (.pop2) 1 n) (hv : v.category = 1) (hw : w.category = 1) (k : GL l K M d kc ks n lo (st) h Q) : GL l K M d kc ks pc lo (v :: w :: st) h Q := by
  intro p e R s m args below meth c H locs cells slots mc ms ls hB h1 h2 h3 h4 h5 h6 h7 h8 h9 h10
  obtain ⟨hdg, rfl⟩ := hd
  exact lv_pop2_11 hB.1 hB.2.1 hdg (by rw [cv_cat]; exact hv) (by rw [cv_cat]; exact hw) (k p e R s m args below meth c H locs cells slots mc ms ls hB h1 h2 h3 h4 h5 h6 h7 h8 h9 h10)
theorem g_lcmp {x y : Int64} (hd : dc M pc (.lcmp) 1 n) (k : GL l K M d kc ks n lo (.int (lg_cmp x y) :: st) h Q) : GL l K M d kc ks pc lo (.long y :: .long x :: st) h Q := by
  intro p e R s m args below meth c H locs cells slots mc ms ls hB h1 h2 h3 h4 h5 h6 h7 h8 h9 h10
  obtain ⟨hdg, rfl⟩ := hd
  exact W.lcmp hB.1 hB.2.1 hdg (k p e R s m args below meth c H locs cells slots mc ms ls hB h1 h2 h3 h4 h5 h6 h7 h8 h9 h10)
theorem g_null (hd : dc M pc (.aconst_null) 1 n) (k : GL l K M d kc ks n lo (.null :: st) h Q) : GL l K M d kc ks pc lo (st) h Q := by
  intro p e R s m args below meth c H locs cells slots mc ms ls hB h1 h2 h3 h4 h5 h6 h7 h8 h9 h10
  obtain ⟨hdg, rfl⟩ := hd
  exact lv_null hB.1 hB.2.1 hdg (k p e R s m args below meth c H locs cells slots mc ms ls hB h1 h2 h3 h4 h5 h6 h7 h8 h9 h10)
theorem g_if_eq {x : Int32} {z : Int} (t : Nat) (hd : dc M pc (.ifCond .eq z) 3 n) (ht : (pc : Int) + z = (t : Int)) (kt : x = 0 → GL l K M d kc ks t lo st h Q) (kf : ¬ (x = 0) → GL l K M d kc ks n lo st h Q) : GL l K M d kc ks pc lo (.int x :: st) h Q := by
  intro p e R s m args below meth c H locs cells slots mc ms ls hB h1 h2 h3 h4 h5 h6 h7 h8 h9 h10
  obtain ⟨hdg, rfl⟩ := hd
  exact lv_if_eq hB.1 hB.2.1 hdg ht (fun hc => kt hc p e R s m args below meth c H locs cells slots mc ms ls hB h1 h2 h3 h4 h5 h6 h7 h8 h9 h10) (fun hc => kf hc p e R s m args below meth c H locs cells slots mc ms ls hB h1 h2 h3 h4 h5 h6 h7 h8 h9 h10)
theorem g_icmp_eq {x y : Int32} {z : Int} (t : Nat) (hd : dc M pc (.if_icmp .eq z) 3 n) (ht : (pc : Int) + z = (t : Int)) (kt : x = y → GL l K M d kc ks t lo st h Q) (kf : ¬ (x = y) → GL l K M d kc ks n lo st h Q) : GL l K M d kc ks pc lo (.int y :: .int x :: st) h Q := by
  intro p e R s m args below meth c H locs cells slots mc ms ls hB h1 h2 h3 h4 h5 h6 h7 h8 h9 h10
  obtain ⟨hdg, rfl⟩ := hd
  exact lv_icmp_eq hB.1 hB.2.1 hdg ht (fun hc => kt hc p e R s m args below meth c H locs cells slots mc ms ls hB h1 h2 h3 h4 h5 h6 h7 h8 h9 h10) (fun hc => kf hc p e R s m args below meth c H locs cells slots mc ms ls hB h1 h2 h3 h4 h5 h6 h7 h8 h9 h10)
theorem g_if_ne {x : Int32} {z : Int} (t : Nat) (hd : dc M pc (.ifCond .ne z) 3 n) (ht : (pc : Int) + z = (t : Int)) (kt : ¬ x = 0 → GL l K M d kc ks t lo st h Q) (kf : x = 0 → GL l K M d kc ks n lo st h Q) : GL l K M d kc ks pc lo (.int x :: st) h Q := by
  intro p e R s m args below meth c H locs cells slots mc ms ls hB h1 h2 h3 h4 h5 h6 h7 h8 h9 h10
  obtain ⟨hdg, rfl⟩ := hd
  exact lv_if_ne hB.1 hB.2.1 hdg ht (fun hc => kt hc p e R s m args below meth c H locs cells slots mc ms ls hB h1 h2 h3 h4 h5 h6 h7 h8 h9 h10) (fun hc => kf hc p e R s m args below meth c H locs cells slots mc ms ls hB h1 h2 h3 h4 h5 h6 h7 h8 h9 h10)
theorem g_icmp_ne {x y : Int32} {z : Int} (t : Nat) (hd : dc M pc (.if_icmp .ne z) 3 n) (ht : (pc : Int) + z = (t : Int)) (kt : ¬ x = y → GL l K M d kc ks t lo st h Q) (kf : x = y → GL l K M d kc ks n lo st h Q) : GL l K M d kc ks pc lo (.int y :: .int x :: st) h Q := by
  intro p e R s m args below meth c H locs cells slots mc ms ls hB h1 h2 h3 h4 h5 h6 h7 h8 h9 h10
  obtain ⟨hdg, rfl⟩ := hd
  exact lv_icmp_ne hB.1 hB.2.1 hdg ht (fun hc => kt hc p e R s m args below meth c H locs cells slots mc ms ls hB h1 h2 h3 h4 h5 h6 h7 h8 h9 h10) (fun hc => kf hc p e R s m args below meth c H locs cells slots mc ms ls hB h1 h2 h3 h4 h5 h6 h7 h8 h9 h10)
theorem g_if_lt {x : Int32} {z : Int} (t : Nat) (hd : dc M pc (.ifCond .lt z) 3 n) (ht : (pc : Int) + z = (t : Int)) (kt : x < 0 → GL l K M d kc ks t lo st h Q) (kf : ¬ (x < 0) → GL l K M d kc ks n lo st h Q) : GL l K M d kc ks pc lo (.int x :: st) h Q := by
  intro p e R s m args below meth c H locs cells slots mc ms ls hB h1 h2 h3 h4 h5 h6 h7 h8 h9 h10
  obtain ⟨hdg, rfl⟩ := hd
  exact lv_if_lt hB.1 hB.2.1 hdg ht (fun hc => kt hc p e R s m args below meth c H locs cells slots mc ms ls hB h1 h2 h3 h4 h5 h6 h7 h8 h9 h10) (fun hc => kf hc p e R s m args below meth c H locs cells slots mc ms ls hB h1 h2 h3 h4 h5 h6 h7 h8 h9 h10)
theorem g_icmp_lt {x y : Int32} {z : Int} (t : Nat) (hd : dc M pc (.if_icmp .lt z) 3 n) (ht : (pc : Int) + z = (t : Int)) (kt : x < y → GL l K M d kc ks t lo st h Q) (kf : ¬ (x < y) → GL l K M d kc ks n lo st h Q) : GL l K M d kc ks pc lo (.int y :: .int x :: st) h Q := by
  intro p e R s m args below meth c H locs cells slots mc ms ls hB h1 h2 h3 h4 h5 h6 h7 h8 h9 h10
  obtain ⟨hdg, rfl⟩ := hd
  exact lv_icmp_lt hB.1 hB.2.1 hdg ht (fun hc => kt hc p e R s m args below meth c H locs cells slots mc ms ls hB h1 h2 h3 h4 h5 h6 h7 h8 h9 h10) (fun hc => kf hc p e R s m args below meth c H locs cells slots mc ms ls hB h1 h2 h3 h4 h5 h6 h7 h8 h9 h10)
theorem g_if_ge {x : Int32} {z : Int} (t : Nat) (hd : dc M pc (.ifCond .ge z) 3 n) (ht : (pc : Int) + z = (t : Int)) (kt : 0 ≤ x → GL l K M d kc ks t lo st h Q) (kf : ¬ (0 ≤ x) → GL l K M d kc ks n lo st h Q) : GL l K M d kc ks pc lo (.int x :: st) h Q := by
  intro p e R s m args below meth c H locs cells slots mc ms ls hB h1 h2 h3 h4 h5 h6 h7 h8 h9 h10
  obtain ⟨hdg, rfl⟩ := hd
  exact lv_if_ge hB.1 hB.2.1 hdg ht (fun hc => kt hc p e R s m args below meth c H locs cells slots mc ms ls hB h1 h2 h3 h4 h5 h6 h7 h8 h9 h10) (fun hc => kf hc p e R s m args below meth c H locs cells slots mc ms ls hB h1 h2 h3 h4 h5 h6 h7 h8 h9 h10)
theorem g_icmp_ge {x y : Int32} {z : Int} (t : Nat) (hd : dc M pc (.if_icmp .ge z) 3 n) (ht : (pc : Int) + z = (t : Int)) (kt : y ≤ x → GL l K M d kc ks t lo st h Q) (kf : ¬ (y ≤ x) → GL l K M d kc ks n lo st h Q) : GL l K M d kc ks pc lo (.int y :: .int x :: st) h Q := by
  intro p e R s m args below meth c H locs cells slots mc ms ls hB h1 h2 h3 h4 h5 h6 h7 h8 h9 h10
  obtain ⟨hdg, rfl⟩ := hd
  exact lv_icmp_ge hB.1 hB.2.1 hdg ht (fun hc => kt hc p e R s m args below meth c H locs cells slots mc ms ls hB h1 h2 h3 h4 h5 h6 h7 h8 h9 h10) (fun hc => kf hc p e R s m args below meth c H locs cells slots mc ms ls hB h1 h2 h3 h4 h5 h6 h7 h8 h9 h10)
theorem g_if_gt {x : Int32} {z : Int} (t : Nat) (hd : dc M pc (.ifCond .gt z) 3 n) (ht : (pc : Int) + z = (t : Int)) (kt : 0 < x → GL l K M d kc ks t lo st h Q) (kf : ¬ (0 < x) → GL l K M d kc ks n lo st h Q) : GL l K M d kc ks pc lo (.int x :: st) h Q := by
  intro p e R s m args below meth c H locs cells slots mc ms ls hB h1 h2 h3 h4 h5 h6 h7 h8 h9 h10
  obtain ⟨hdg, rfl⟩ := hd
  exact lv_if_gt hB.1 hB.2.1 hdg ht (fun hc => kt hc p e R s m args below meth c H locs cells slots mc ms ls hB h1 h2 h3 h4 h5 h6 h7 h8 h9 h10) (fun hc => kf hc p e R s m args below meth c H locs cells slots mc ms ls hB h1 h2 h3 h4 h5 h6 h7 h8 h9 h10)
theorem g_icmp_gt {x y : Int32} {z : Int} (t : Nat) (hd : dc M pc (.if_icmp .gt z) 3 n) (ht : (pc : Int) + z = (t : Int)) (kt : y < x → GL l K M d kc ks t lo st h Q) (kf : ¬ (y < x) → GL l K M d kc ks n lo st h Q) : GL l K M d kc ks pc lo (.int y :: .int x :: st) h Q := by
  intro p e R s m args below meth c H locs cells slots mc ms ls hB h1 h2 h3 h4 h5 h6 h7 h8 h9 h10
  obtain ⟨hdg, rfl⟩ := hd
  exact lv_icmp_gt hB.1 hB.2.1 hdg ht (fun hc => kt hc p e R s m args below meth c H locs cells slots mc ms ls hB h1 h2 h3 h4 h5 h6 h7 h8 h9 h10) (fun hc => kf hc p e R s m args below meth c H locs cells slots mc ms ls hB h1 h2 h3 h4 h5 h6 h7 h8 h9 h10)
theorem g_if_le {x : Int32} {z : Int} (t : Nat) (hd : dc M pc (.ifCond .le z) 3 n) (ht : (pc : Int) + z = (t : Int)) (kt : x ≤ 0 → GL l K M d kc ks t lo st h Q) (kf : ¬ (x ≤ 0) → GL l K M d kc ks n lo st h Q) : GL l K M d kc ks pc lo (.int x :: st) h Q := by
  intro p e R s m args below meth c H locs cells slots mc ms ls hB h1 h2 h3 h4 h5 h6 h7 h8 h9 h10
  obtain ⟨hdg, rfl⟩ := hd
  exact lv_if_le hB.1 hB.2.1 hdg ht (fun hc => kt hc p e R s m args below meth c H locs cells slots mc ms ls hB h1 h2 h3 h4 h5 h6 h7 h8 h9 h10) (fun hc => kf hc p e R s m args below meth c H locs cells slots mc ms ls hB h1 h2 h3 h4 h5 h6 h7 h8 h9 h10)
theorem g_icmp_le {x y : Int32} {z : Int} (t : Nat) (hd : dc M pc (.if_icmp .le z) 3 n) (ht : (pc : Int) + z = (t : Int)) (kt : x ≤ y → GL l K M d kc ks t lo st h Q) (kf : ¬ (x ≤ y) → GL l K M d kc ks n lo st h Q) : GL l K M d kc ks pc lo (.int y :: .int x :: st) h Q := by
  intro p e R s m args below meth c H locs cells slots mc ms ls hB h1 h2 h3 h4 h5 h6 h7 h8 h9 h10
  obtain ⟨hdg, rfl⟩ := hd
  exact lv_icmp_le hB.1 hB.2.1 hdg ht (fun hc => kt hc p e R s m args below meth c H locs cells slots mc ms ls hB h1 h2 h3 h4 h5 h6 h7 h8 h9 h10) (fun hc => kf hc p e R s m args below meth c H locs cells slots mc ms ls hB h1 h2 h3 h4 h5 h6 h7 h8 h9 h10)
theorem g_goto {z : Int} (t : Nat) (hd : dc M pc (.goto z) 3 n) (ht : (pc : Int) + z = (t : Int)) (k : GL l K M d kc ks t lo st h Q) : GL l K M d kc ks pc lo st h Q := by
  intro p e R s m args below meth c H locs cells slots mc ms ls hB h1 h2 h3 h4 h5 h6 h7 h8 h9 h10
  obtain ⟨hdg, rfl⟩ := hd
  exact lv_goto hB.1 hB.2.1 hdg ht (k p e R s m args below meth c H locs cells slots mc ms ls hB h1 h2 h3 h4 h5 h6 h7 h8 h9 h10)
theorem g_ifnull {z : Int} {x : Nat} (hd : dc M pc (.ifnull z) 3 n) (k : GL l K M d kc ks n lo st h Q) : GL l K M d kc ks pc lo (.ref x :: st) h Q := by
  intro p e R s m args below meth c H locs cells slots mc ms ls hB h1 h2 h3 h4 h5 h6 h7 h8 h9 h10
  obtain ⟨hdg, rfl⟩ := hd
  exact lv_ifnull hB.1 hB.2.1 hdg (k p e R s m args below meth c H locs cells slots mc ms ls hB h1 h2 h3 h4 h5 h6 h7 h8 h9 h10)
theorem g_ifnullN {z : Int} (t : Nat) (hd : dc M pc (.ifnull z) 3 n) (ht : (pc : Int) + z = (t : Int)) (k : GL l K M d kc ks t lo st h Q) : GL l K M d kc ks pc lo (.null :: st) h Q := by
  intro p e R s m args below meth c H locs cells slots mc ms ls hB h1 h2 h3 h4 h5 h6 h7 h8 h9 h10
  obtain ⟨hdg, rfl⟩ := hd
  exact lv_ifnullN hB.1 hB.2.1 hdg ht (k p e R s m args below meth c H locs cells slots mc ms ls hB h1 h2 h3 h4 h5 h6 h7 h8 h9 h10)
theorem g_ifnonnull {z : Int} {x : Nat} (t : Nat) (hd : dc M pc (.ifnonnull z) 3 n) (ht : (pc : Int) + z = (t : Int)) (k : GL l K M d kc ks t lo st h Q) : GL l K M d kc ks pc lo (.ref x :: st) h Q := by
  intro p e R s m args below meth c H locs cells slots mc ms ls hB h1 h2 h3 h4 h5 h6 h7 h8 h9 h10
  obtain ⟨hdg, rfl⟩ := hd
  exact lv_ifnonnull hB.1 hB.2.1 hdg ht (k p e R s m args below meth c H locs cells slots mc ms ls hB h1 h2 h3 h4 h5 h6 h7 h8 h9 h10)
theorem g_ifnonnullN {z : Int} (hd : dc M pc (.ifnonnull z) 3 n) (k : GL l K M d kc ks n lo st h Q) : GL l K M d kc ks pc lo (.null :: st) h Q := by
  intro p e R s m args below meth c H locs cells slots mc ms ls hB h1 h2 h3 h4 h5 h6 h7 h8 h9 h10
  obtain ⟨hdg, rfl⟩ := hd
  exact lv_ifnonnullN hB.1 hB.2.1 hdg (k p e R s m args below meth c H locs cells slots mc ms ls hB h1 h2 h3 h4 h5 h6 h7 h8 h9 h10)
theorem g_tabOut {dflt lo1 hi1 : Int} {offs : Array Int} {len : Nat} {x : Int32} (t : Nat) (hd : dc M pc (.tableswitch dflt lo1 hi1 offs) len n) (hx : x.toInt < lo1 ∨ hi1 < x.toInt) (ht : (pc : Int) + dflt = (t : Int)) (k : GL l K M d kc ks t lo st h Q) : GL l K M d kc ks pc lo (.int x :: st) h Q := by
  intro p e R s m args below meth c H locs cells slots mc ms ls hB h1 h2 h3 h4 h5 h6 h7 h8 h9 h10
  obtain ⟨hdg, rfl⟩ := hd
  exact lv_tableOut hB.1 hB.2.1 hdg hx ht (k p e R s m args below meth c H locs cells slots mc ms ls hB h1 h2 h3 h4 h5 h6 h7 h8 h9 h10)
theorem g_tabIn {dflt lo1 hi1 off : Int} {offs : Array Int} {len : Nat} {x : Int32} (t : Nat) (hd : dc M pc (.tableswitch dflt lo1 hi1 offs) len n) (hx1 : ¬ x.toInt < lo1) (hx2 : ¬ hi1 < x.toInt) (ho : offs[(x.toInt - lo1).toNat]? = some off) (ht : (pc : Int) + off = (t : Int)) (k : GL l K M d kc ks t lo st h Q) : GL l K M d kc ks pc lo (.int x :: st) h Q := by
  intro p e R s m args below meth c H locs cells slots mc ms ls hB h1 h2 h3 h4 h5 h6 h7 h8 h9 h10
  obtain ⟨hdg, rfl⟩ := hd
  exact lv_tableIn hB.1 hB.2.1 hdg hx1 hx2 ho ht (k p e R s m args below meth c H locs cells slots mc ms ls hB h1 h2 h3 h4 h5 h6 h7 h8 h9 h10)
theorem g_lookup {dflt off : Int} {ps : Array (Int × Int)} {len : Nat} {x : Int32} (t : Nat) (hd : dc M pc (.lookupswitch dflt ps) len n) (hp : (ps.toList.zip (ps.toList.drop 1)).all (fun (a, next) => a.1 < next.1) = true) (ho : Op.lookupswitch.offset ps.toList dflt x.toInt = off) (ht : (pc : Int) + off = (t : Int)) (k : GL l K M d kc ks t lo st h Q) : GL l K M d kc ks pc lo (.int x :: st) h Q := by
  intro p e R s m args below meth c H locs cells slots mc ms ls hB h1 h2 h3 h4 h5 h6 h7 h8 h9 h10
  obtain ⟨hdg, rfl⟩ := hd
  exact lv_lookup hB.1 hB.2.1 hdg hp ho ht (k p e R s m args below meth c H locs cells slots mc ms ls hB h1 h2 h3 h4 h5 h6 h7 h8 h9 h10)
theorem g_ldc2 {ix : Nat} {v : Int64} (hd : dc M pc (.ldc2_w ix) 3 n) (hw : Cond.constantLong M.1.cls ix v ∈ tblG) (k : GL l K M d kc ks n lo (.long v :: st) h Q) : GL l K M d kc ks pc lo st h Q := by
  intro p e R s m args below meth c H locs cells slots mc ms ls hB h1 h2 h3 h4 h5 h6 h7 h8 h9 h10
  obtain ⟨hdg, rfl⟩ := hd
  exact lv_ldc2 hB.1 hB.2.1 hB.2.2.2.2.1 (hB.2.2.2.2.2.1 _ hw) hdg (k p e R s m args below meth c H locs cells slots mc ms ls hB h1 h2 h3 h4 h5 h6 h7 h8 h9 h10)
theorem g_ldc {ix : Nat} {v : Int32} (hd : dc M pc (.ldc ix) 2 n) (hw : Cond.constant M.1.cls ix v ∈ tblG) (k : GL l K M d kc ks n lo (.int v :: st) h Q) : GL l K M d kc ks pc lo st h Q := by
  intro p e R s m args below meth c H locs cells slots mc ms ls hB h1 h2 h3 h4 h5 h6 h7 h8 h9 h10
  obtain ⟨hdg, rfl⟩ := hd
  exact lv_ldc hB.1 hB.2.1 hB.2.2.2.2.1 (hB.2.2.2.2.2.1 _ hw) hdg (k p e R s m args below meth c H locs cells slots mc ms ls hB h1 h2 h3 h4 h5 h6 h7 h8 h9 h10)
theorem g_ldcw {ix : Nat} {v : Int32} (hd : dc M pc (.ldc_w ix) 3 n) (hw : Cond.constant M.1.cls ix v ∈ tblG) (k : GL l K M d kc ks n lo (.int v :: st) h Q) : GL l K M d kc ks pc lo st h Q := by
  intro p e R s m args below meth c H locs cells slots mc ms ls hB h1 h2 h3 h4 h5 h6 h7 h8 h9 h10
  obtain ⟨hdg, rfl⟩ := hd
  exact lv_ldcw hB.1 hB.2.1 hB.2.2.2.2.1 (hB.2.2.2.2.2.1 _ hw) hdg (k p e R s m args below meth c H locs cells slots mc ms ls hB h1 h2 h3 h4 h5 h6 h7 h8 h9 h10)
def fld (h : cH) (k ci j : Nat) : Option Value := match h[k]? with
  | some (.inr (c, fs)) => if c = ci then fs[j]? else none
  | _ => none
def sfl (h : cH) (k j : Nat) (v : Value) : cH := match h[k]? with
  | some (.inr (c, fs)) => h.set k (.inr (c, fs.set j v))
  | _ => h
theorem fld_of {h : cH} {k ci j : Nat} {v : Value} (hv : fld h k ci j = some v) : ∃ fs : List Value, h[k]? = some (.inr (ci, fs)) ∧ fs[j]? = some v := by
  unfold fld at hv
  cases he : h[k]? with
  | none => simp [he] at hv
  | some e =>
    cases e with
    | inl a => simp [he] at hv
    | inr o =>
      obtain ⟨c, fs⟩ := o
      simp only [he] at hv
      by_cases hc : c = ci
      · subst hc
        exact ⟨fs, rfl, by simpa using hv⟩
      · simp [hc] at hv
theorem g_get {ix k ci j : Nat} {ty : FieldType} {fin : Bool} {v : Value} (hf : fl M.1.cls ix ci j ty fin) (hd : dc M pc (.getfield ix) 3 n) (hv : fld h k ci j = some v) (kk : GL l K M d kc ks n lo (v :: st) h Q) : GL l K M d kc ks pc lo (.ref k :: st) h Q := by
  intro p e R s m args below meth c H locs cells slots mc ms ls hB h1 h2 h3 h4 h5 h6 h7 h8 h9 h10
  obtain ⟨hdg, rfl⟩ := hd
  obtain ⟨r, hc, hj, hl, -⟩ := hf
  obtain ⟨fs, he, hv⟩ := fld_of hv
  obtain ⟨C, T, N⟩ := r
  exact va_get (ci := ci) (C := C) (T := T) (N := N) hB.1 hB.2.1 hB.2.2.2.2.2.1 (cl_ok hc).1 hB.2.2.2.2.1 hB.2.2.2.2.2.2.2.2.1.1 h7.2.1 k (wl_at he) hc j hj (hB.2.2.2.2.2.1 _ hl) (fun _ q => q) (by simp [hv]) hdg (kk p e R s m args below meth c H locs cells slots mc ms ls hB h1 h2 h3 h4 h5 h6 h7 h8 h9 h10)
theorem cR_set {k : Nat} {e e2 : cE} {H H1 : Heap} (hR : cR K h H) (he : h[k]? = some e) (z : H1.size = H.size) (oq : ∀ q, q ≠ K.1.size + k → H1[q]? = H[q]?) (hnew : va_at K.2.2.1 classes (K.1.size + k, ce K e2) H1) : cR K (h.set k e2) H1 := by
  refine ⟨by rw [z, hR.1, List.length_set], ?_, fun q hq => (oq q (by omega)).trans (hR.2.2 q hq)⟩
  rw [← wl_set]
  exact hR.2.1.set wl_D (wl_at he) hnew oq
theorem cR_push {e2 : cE} {H H1 : Heap} (hR : cR K h H) (z : H1.size = H.size + 1) (oq : ∀ q, q < H.size → H1[q]? = H[q]?) (hnew : va_at K.2.2.1 classes (K.1.size + h.length, ce K e2) H1) : cR K (h ++ [e2]) H1 := by
  refine ⟨by rw [z, hR.1, List.length_append]; simp [Nat.add_assoc], ?_, fun q hq => (oq q (by rw [hR.1]; omega)).trans (hR.2.2 q hq)⟩
  rw [wl_app]
  refine (hR.2.1.kept (fun k x hx => oq x.1 ((hR.2.1 k x hx).lt))).app (fun k x hx => ?_)
  have hz : k < 1 := (List.getElem?_eq_some_iff.mp hx).1
  rw [show k = 0 by omega] at hx
  cases hx
  exact hnew
theorem g_putG {ix k ci j : Nat} {ty : FieldType} {v w : Value} (hf : fl M.1.cls ix ci j ty false) (hd : dc M pc (.putfield ix) 3 n) (hv : fld h k ci j = some w) (hn : narrow ty (cv K v) = cv K v) (hfit : fits ty (cv K v) = true) (kk : GL l K M d kc ks n lo st (sfl h k j v) Q) : GL l K M d kc ks pc lo (v :: .ref k :: st) h Q := by
  intro p e R s m args below meth c H locs cells slots mc ms ls hB h1 h2 h3 h4 h5 h6 h7 h8 h9 h10
  obtain ⟨hdg, rfl⟩ := hd
  obtain ⟨r, hc, hj, hl, hty, hfin, hself⟩ := hf
  obtain ⟨fs, he, hv⟩ := fld_of hv
  obtain ⟨C, T, N⟩ := r
  have hts := hB.2.2.2.2.2.1
  have hK := hB.2.2.2.2.2.2.2.2.1.1
  obtain ⟨hin, hnm, ty0, hty0⟩ := cl_ok hc
  have hap := va_apart (own := M.1.cls) hts hin ty0 hty0 hnm hK hc
  obtain ⟨r, g1, cell, q1, q2, q3, q4⟩ := h7.2.1 k _ (wl_at he)
  have hr : r = (C, T, N) := Option.some.inj (g1.symm.trans hc)
  subst hr
  obtain ⟨hS, hfc, kC, hkC, hkind⟩ := hK.1 ci _ hc
  obtain ⟨cf, kf, fi, f, hi, hsl⟩ := hS j hj
  have hlay := hts _ (hin _ (u_in_lay hj))
  unfold u_lay at hlay
  rw [if_neg (by rw [hfin]; decide)] at hlay
  have hst := (u_facts hfc hkC (u_lays hts hin hj) hi).1
  have h6' := u_store hfc hkC hkind hlay hi hty hn hfit
  refine W.putK hB.1 hB.2.1 (f := f) ⟨hB.2.2.2.2.1, hts _ hl, ⟨_, _, _, hi⟩, hst⟩ (by rw [q2]; exact h6') q1 q3 (by rw [hsl]; exact k2_hasslot (q4 j hj)) rfl rfl hdg fun H' e1 e2 e3 => ?_
  rw [hsl] at e1 ⊢
  have hjl : j < fs.length := (List.getElem?_eq_some_iff.mp hv).1
  have hsf : sfl h k j v = h.set k (.inr (ci, fs.set j v)) := by simp [sfl, he]
  rw [hsf] at kk
  have hnew : va_at K.2.2.1 classes (K.1.size + k, ce K (.inr (ci, fs.set j v))) H' := by
    refine ⟨_, hc, t_OB.to (V := updV (vp_V (fs.map (cv K))) j (cv K v)) ⟨_, e1, q2, q3, t_set q4 hap hj _⟩ (fun i _ => ?_)⟩
    show _ = vp_V ((fs.set j v).map (cv K)) i
    rw [List.map_set]
    exact vp_updV_set (by simpa using hjl) (cv K v) i
  exact kk p e R s m args below meth c H' _ cells slots mc ms ls hB h1 h2 h3 h4 h5 h6 (cR_set h7 he e2 e3 hnew) (by rw [e2]; exact h8) (fun q hq => by
    rcases List.mem_append.mp hq with hq | hq
    · exact h9 q hq
    · rw [List.mem_singleton.mp hq]; exact Nat.le_add_right _ _) h10
theorem g_putFG {ix k ci j : Nat} {ty : FieldType} {v w : Value} (hf : fl M.1.cls ix ci j ty true) (hini : M.1.name = "<init>") (hcn : (classes[ci]?).map (fun r => r.1) = some M.1.cls) (hd : dc M pc (.putfield ix) 3 n) (hv : fld h k ci j = some w) (hn : narrow ty (cv K v) = cv K v) (hfit : fits ty (cv K v) = true) (kk : GL l K M d kc ks n lo st (sfl h k j v) Q) : GL l K M d kc ks pc lo (v :: .ref k :: st) h Q := by
  intro p e R s m args below meth c H locs cells slots mc ms ls hB h1 h2 h3 h4 h5 h6 h7 h8 h9 h10
  obtain ⟨hdg, rfl⟩ := hd
  obtain ⟨r, hc, hj, hl, hty, hfin, hself⟩ := hf
  obtain ⟨fs, he, hv⟩ := fld_of hv
  obtain ⟨C, T, N⟩ := r
  rw [hc] at hcn
  have hC : C = M.1.cls := Option.some.inj hcn
  have hts := hB.2.2.2.2.2.1
  have hK := hB.2.2.2.2.2.2.2.2.1.1
  obtain ⟨hin, hnm, ty0, hty0⟩ := cl_ok hc
  have hap := va_apart (own := M.1.cls) hts hin ty0 hty0 hnm hK hc
  obtain ⟨r, g1, cell, q1, q2, q3, q4⟩ := h7.2.1 k _ (wl_at he)
  have hr : r = (C, T, N) := Option.some.inj (g1.symm.trans hc)
  subst hr
  obtain ⟨hS, hfc, kC, hkC, hkind⟩ := hK.1 ci _ hc
  obtain ⟨cf, kf, fi, f, hi, hsl⟩ := hS j hj
  have hlay := hts _ (hin _ (u_in_lay hj))
  unfold u_lay at hlay
  rw [if_pos hfin] at hlay
  have hst := (u_facts hfc hkC (u_lays hts hin hj) hi).1
  have hcf : m.cls = cf := by
    obtain ⟨_, _, c', _, _, _, -, -, hf', -, -, -, hown2, -⟩ := Cond.laysFinal_spec hlay
    have e1 : c' = cf := by have := hi.symm.trans hf'; simp at this; exact this.1.symm
    have hT : (T j).1 = M.1.cls := by rw [← hC]; exact hself
    rw [hT] at hown2
    rw [← e1]; exact Option.some.inj (hB.2.2.2.2.1.symm.trans hown2)
  have h6' := u_fits hfc hkC hkind (Or.inr hlay) hi hty hn hfit
  refine W.putFinK hB.1 hB.2.1 hB.2.2.2.2.1 (hts _ hl) hi hst hcf (hB.2.2.2.2.2.2.2.1.trans hini) (by rw [q2]; exact h6') q1 q3 (by rw [hsl]; exact k2_hasslot (q4 j hj)) rfl rfl hdg fun H' e1 e2 e3 => ?_
  rw [hsl] at e1 ⊢
  have hjl : j < fs.length := (List.getElem?_eq_some_iff.mp hv).1
  have hsf : sfl h k j v = h.set k (.inr (ci, fs.set j v)) := by simp [sfl, he]
  rw [hsf] at kk
  have hnew : va_at K.2.2.1 classes (K.1.size + k, ce K (.inr (ci, fs.set j v))) H' := by
    refine ⟨_, hc, t_OB.to (V := updV (vp_V (fs.map (cv K))) j (cv K v)) ⟨_, e1, q2, q3, t_set q4 hap hj _⟩ (fun i _ => ?_)⟩
    show _ = vp_V ((fs.set j v).map (cv K)) i
    rw [List.map_set]
    exact vp_updV_set (by simpa using hjl) (cv K v) i
  exact kk p e R s m args below meth c H' _ cells slots mc ms ls hB h1 h2 h3 h4 h5 h6 (cR_set h7 he e2 e3 hnew) (by rw [e2]; exact h8) (fun q hq => by
    rcases List.mem_append.mp hq with hq | hq
    · exact h9 q hq
    · rw [List.mem_singleton.mp hq]; exact Nat.le_add_right _ _) h10
theorem g_putI {ix k ci j : Nat} {x : Int32} {w : Value} (hf : fl M.1.cls ix ci j .int false) (hd : dc M pc (.putfield ix) 3 n) (hv : fld h k ci j = some w) (kk : GL l K M d kc ks n lo st (sfl h k j (.int x)) Q) : GL l K M d kc ks pc lo (.int x :: .ref k :: st) h Q := g_putG hf hd hv rfl rfl kk
theorem g_putL {ix k ci j : Nat} {x : Int64} {w : Value} (hf : fl M.1.cls ix ci j .long false) (hd : dc M pc (.putfield ix) 3 n) (hv : fld h k ci j = some w) (kk : GL l K M d kc ks n lo st (sfl h k j (.long x)) Q) : GL l K M d kc ks pc lo (.long x :: .ref k :: st) h Q := g_putG hf hd hv rfl rfl kk
theorem g_putZ {ix k ci j : Nat} {x : Int32} {w : Value} (hf : fl M.1.cls ix ci j .boolean false) (hd : dc M pc (.putfield ix) 3 n) (hv : fld h k ci j = some w) (hx : x = 0 ∨ x = 1) (kk : GL l K M d kc ks n lo st (sfl h k j (.int x)) Q) : GL l K M d kc ks pc lo (.int x :: .ref k :: st) h Q := g_putG hf hd hv (by rcases hx with rfl | rfl <;> rfl) (by rcases hx with rfl | rfl <;> rfl) kk
theorem g_putR {ix k ci j x : Nat} {C : String} {w : Value} (hf : fl M.1.cls ix ci j (.object C) false) (hd : dc M pc (.putfield ix) 3 n) (hv : fld h k ci j = some w) (kk : GL l K M d kc ks n lo st (sfl h k j (.ref x)) Q) : GL l K M d kc ks pc lo (.ref x :: .ref k :: st) h Q := g_putG hf hd hv rfl rfl kk
theorem g_putN {ix k ci j : Nat} {C : String} {w : Value} (hf : fl M.1.cls ix ci j (.object C) false) (hd : dc M pc (.putfield ix) 3 n) (hv : fld h k ci j = some w) (kk : GL l K M d kc ks n lo st (sfl h k j .null) Q) : GL l K M d kc ks pc lo (.null :: .ref k :: st) h Q := g_putG hf hd hv rfl rfl kk
-- arrays
def aI (h : cH) (k t : Nat) : Option (Nat × (Nat → Int32)) := match h[k]? with
  | some (.inl (u, n, .inl f)) => if u = t then some (n, f) else none
  | _ => none
def aL (h : cH) (k : Nat) : Option (Nat × (Nat → Int64)) := match h[k]? with
  | some (.inl (u, n, .inr (.inl f))) => if u = 1 then some (n, f) else none
  | _ => none
def aR (h : cH) (k t : Nat) : Option (Nat × (Nat → Option Nat)) := match h[k]? with
  | some (.inl (u, n, .inr (.inr (.inr (.inr f))))) => if u = t then some (n, f) else none
  | _ => none
theorem aI_of {h : cH} {k t n : Nat} {f : Nat → Int32} (ha : aI h k t = some (n, f)) : h[k]? = some (.inl (t, n, .inl f)) := by
  unfold aI at ha
  split at ha
  · rename_i u n' f' he
    by_cases hu : u = t
    · subst hu
      simp at ha
      obtain ⟨rfl, rfl⟩ := ha
      exact he
    · simp [hu] at ha
  · cases ha
theorem aL_of {h : cH} {k n : Nat} {f : Nat → Int64} (ha : aL h k = some (n, f)) : h[k]? = some (.inl (1, n, .inr (.inl f))) := by
  unfold aL at ha
  split at ha
  · rename_i u n' f' he
    by_cases hu : u = 1
    · subst hu
      simp at ha
      obtain ⟨rfl, rfl⟩ := ha
      exact he
    · simp [hu] at ha
  · cases ha
theorem aR_of {h : cH} {k t n : Nat} {f : Nat → Option Nat} (ha : aR h k t = some (n, f)) : h[k]? = some (.inl (t, n, .inr (.inr (.inr (.inr f))))) := by
  unfold aR at ha
  split at ha
  · rename_i u n' f' he
    by_cases hu : u = t
    · subst hu
      simp at ha
      obtain ⟨rfl, rfl⟩ := ha
      exact he
    · simp [hu] at ha
  · cases ha
theorem g_iald {k n0 : Nat} {f : Nat → Int32} {i : Int32} (hd : dc M pc .iaload 1 n) (ha : aI h k 0 = some (n0, f)) (hin : vp_in i n0) (kk : GL l K M d kc ks n lo (.int (f i.toNatClampNeg) :: st) h Q) : GL l K M d kc ks pc lo (.int i :: .ref k :: st) h Q := by
  intro p e R s m args below meth c H locs cells slots mc ms ls hB h1 h2 h3 h4 h5 h6 h7 h8 h9 h10
  obtain ⟨hdg, rfl⟩ := hd
  exact va_iald hB.1 hB.2.1 hB.2.2.2.2.2.2.2.2.1.1 h7.2.1 k 0 (wl_at (aI_of ha)) rfl hin hdg (kk p e R s m args below meth c H locs cells slots mc ms ls hB h1 h2 h3 h4 h5 h6 h7 h8 h9 h10)
theorem g_zald {k n0 : Nat} {f : Nat → Int32} {i : Int32} (hd : dc M pc .baload 1 n) (ha : aI h k 2 = some (n0, f)) (hin : vp_in i n0) (kk : GL l K M d kc ks n lo (.int (f i.toNatClampNeg) :: st) h Q) : GL l K M d kc ks pc lo (.int i :: .ref k :: st) h Q := by
  intro p e R s m args below meth c H locs cells slots mc ms ls hB h1 h2 h3 h4 h5 h6 h7 h8 h9 h10
  obtain ⟨hdg, rfl⟩ := hd
  exact va_zald hB.1 hB.2.1 hB.2.2.2.2.2.2.2.2.1.1 h7.2.1 k 2 (wl_at (aI_of ha)) rfl hin hdg (kk p e R s m args below meth c H locs cells slots mc ms ls hB h1 h2 h3 h4 h5 h6 h7 h8 h9 h10)
theorem g_lald {k n0 : Nat} {f : Nat → Int64} {i : Int32} (hd : dc M pc .laload 1 n) (ha : aL h k = some (n0, f)) (hin : vp_in i n0) (kk : GL l K M d kc ks n lo (.long (f i.toNatClampNeg) :: st) h Q) : GL l K M d kc ks pc lo (.int i :: .ref k :: st) h Q := by
  intro p e R s m args below meth c H locs cells slots mc ms ls hB h1 h2 h3 h4 h5 h6 h7 h8 h9 h10
  obtain ⟨hdg, rfl⟩ := hd
  exact va_lald hB.1 hB.2.1 hB.2.2.2.2.2.2.2.2.1.1 h7.2.1 k 1 (wl_at (aL_of ha)) rfl hin hdg (kk p e R s m args below meth c H locs cells slots mc ms ls hB h1 h2 h3 h4 h5 h6 h7 h8 h9 h10)
def rfv (r : Option Nat) : Value := match r with
  | some k => .ref k
  | none => .null
theorem g_aald {k n0 : Nat} {f : Nat → Option Nat} {i : Int32} (t : Nat) (C : String) (hC : (t = 3 ∧ C = "CoinsWarden$Text") ∨ (t = 4 ∧ C = "CoinsWarden$State")) (hd : dc M pc .aaload 1 n) (ha : aR h k t = some (n0, f)) (hin : vp_in i n0) (kk : GL l K M d kc ks n lo (rfv (f i.toNatClampNeg) :: st) h Q) : GL l K M d kc ks pc lo (.int i :: .ref k :: st) h Q := by
  intro p e R s m args below meth c H locs cells slots mc ms ls hB h1 h2 h3 h4 h5 h6 h7 h8 h9 h10
  obtain ⟨hdg, rfl⟩ := hd
  have e0 : va_rf ((f i.toNatClampNeg).map (fun k => K.1.size + k)) = cv K (rfv (f i.toNatClampNeg)) := by cases f i.toNatClampNeg <;> rfl
  have kk2 := kk p e R s m args below meth c H locs cells slots mc ms ls hB h1 h2 h3 h4 h5 h6 h7 h8 h9 h10
  rcases hC with ⟨rfl, rfl⟩ | ⟨rfl, rfl⟩
  · exact va_aldq (C := "CoinsWarden$Text") hB.1 hB.2.1 hB.2.2.2.2.2.2.2.2.1.1 h7.2.1 k 3 (wl_at (aR_of ha)) rfl hin hdg (by rw [e0]; exact kk2)
  · exact va_aldq (C := "CoinsWarden$State") hB.1 hB.2.1 hB.2.2.2.2.2.2.2.2.1.1 h7.2.1 k 4 (wl_at (aR_of ha)) rfl hin hdg (by rw [e0]; exact kk2)
theorem g_alenI {k t n0 : Nat} {f : Nat → Int32} (hd : dc M pc .arraylength 1 n) (ht : t = 0 ∨ t = 2) (ha : aI h k t = some (n0, f)) (kk : GL l K M d kc ks n lo (.int (Int32.ofNat n0) :: st) h Q) : GL l K M d kc ks pc lo (.ref k :: st) h Q := by
  intro p e R s m args below meth c H locs cells slots mc ms ls hB h1 h2 h3 h4 h5 h6 h7 h8 h9 h10
  obtain ⟨hdg, rfl⟩ := hd
  rcases ht with rfl | rfl
  · exact va_alen (x := (n0, .inl f)) hB.1 hB.2.1 hB.2.2.2.2.2.2.2.2.1.1 h7.2.1 k 0 (wl_at (aI_of ha)) rfl rfl hdg (kk p e R s m args below meth c H locs cells slots mc ms ls hB h1 h2 h3 h4 h5 h6 h7 h8 h9 h10)
  · exact va_alen (x := (n0, .inl f)) hB.1 hB.2.1 hB.2.2.2.2.2.2.2.2.1.1 h7.2.1 k 2 (wl_at (aI_of ha)) rfl rfl hdg (kk p e R s m args below meth c H locs cells slots mc ms ls hB h1 h2 h3 h4 h5 h6 h7 h8 h9 h10)
theorem g_alenL {k n0 : Nat} {f : Nat → Int64} (hd : dc M pc .arraylength 1 n) (ha : aL h k = some (n0, f)) (kk : GL l K M d kc ks n lo (.int (Int32.ofNat n0) :: st) h Q) : GL l K M d kc ks pc lo (.ref k :: st) h Q := by
  intro p e R s m args below meth c H locs cells slots mc ms ls hB h1 h2 h3 h4 h5 h6 h7 h8 h9 h10
  obtain ⟨hdg, rfl⟩ := hd
  exact va_alen (x := (n0, .inr (.inl f))) hB.1 hB.2.1 hB.2.2.2.2.2.2.2.2.1.1 h7.2.1 k 1 (wl_at (aL_of ha)) rfl rfl hdg (kk p e R s m args below meth c H locs cells slots mc ms ls hB h1 h2 h3 h4 h5 h6 h7 h8 h9 h10)
theorem g_iast {k n0 : Nat} {f : Nat → Int32} {i x : Int32} (hd : dc M pc .iastore 1 n) (ha : aI h k 0 = some (n0, f)) (hin : vp_in i n0) (kk : GL l K M d kc ks n lo st (h.set k (.inl (0, n0, .inl (upd f i.toNatClampNeg x)))) Q) : GL l K M d kc ks pc lo (.int x :: .int i :: .ref k :: st) h Q := by
  intro p e R s m args below meth c H locs cells slots mc ms ls hB h1 h2 h3 h4 h5 h6 h7 h8 h9 h10
  obtain ⟨hdg, rfl⟩ := hd
  have he := wl_at (K := K) (aI_of ha)
  refine W.iast hB.1 hB.2.1 (h7.2.1 k _ he) ((hB.2.2.2.2.2.2.2.2.1.1.2 0 _ rfl).1 n0 (fun j => .int (f j))) (fun q => by cases q) (by show ¬ (i < 0 ∨ (arrV _ _ _).slots.size ≤ _); rw [arrV_size]; exact hin) rfl rfl hdg fun H1 e1 z oq => ?_
  refine kk p e R s m args below meth c H1 _ cells slots mc ms ls hB h1 h2 h3 h4 h5 h6 (cR_set h7 (aI_of ha) z oq ?_) (by rw [z]; exact h8) (fun q hq => by
    rcases List.mem_append.mp hq with hq | hq
    · exact h9 q hq
    · rw [List.mem_singleton.mp hq]; exact Nat.le_add_right _ _) h10
  show H1[K.1.size + k]? = some (vp_cell _ (n0, .inl (upd f i.toNatClampNeg x)))
  rw [e1]
  show some ((vp_cell _ (n0, .inl f)).setSlot _ _) = _
  rw [vp_cell_i, vp_cell_i, arrV_store]
  congr 2
  funext q
  by_cases hq : q = i.toNatClampNeg
  · subst hq
    simp [updV, upd]
  · simp [updV, upd, hq]
theorem g_zast {k n0 : Nat} {f : Nat → Int32} {i x : Int32} (hd : dc M pc .bastore 1 n) (ha : aI h k 2 = some (n0, f)) (hin : vp_in i n0) (hx : x = 0 ∨ x = 1) (kk : GL l K M d kc ks n lo st (h.set k (.inl (2, n0, .inl (upd f i.toNatClampNeg x)))) Q) : GL l K M d kc ks pc lo (.int x :: .int i :: .ref k :: st) h Q := by
  intro p e R s m args below meth c H locs cells slots mc ms ls hB h1 h2 h3 h4 h5 h6 h7 h8 h9 h10
  obtain ⟨hdg, rfl⟩ := hd
  have he := wl_at (K := K) (aI_of ha)
  refine W.zast hB.1 hB.2.1 (h7.2.1 k _ he) ((hB.2.2.2.2.2.2.2.2.1.1.2 2 _ rfl).1 n0 (fun j => .int (f j))) (fun q => by cases q) (by show ¬ (i < 0 ∨ (arrV _ _ _).slots.size ≤ _); rw [arrV_size]; exact hin) rfl rfl hdg fun H1 e1 z oq => ?_
  refine kk p e R s m args below meth c H1 _ cells slots mc ms ls hB h1 h2 h3 h4 h5 h6 (cR_set h7 (aI_of ha) z oq ?_) (by rw [z]; exact h8) (fun q hq => by
    rcases List.mem_append.mp hq with hq | hq
    · exact h9 q hq
    · rw [List.mem_singleton.mp hq]; exact Nat.le_add_right _ _) h10
  show H1[K.1.size + k]? = some (vp_cell _ (n0, .inl (upd f i.toNatClampNeg x)))
  rw [e1]
  show some ((vp_cell _ (n0, .inl f)).setSlot _ _) = _
  rw [vp_cell_i, vp_cell_i, arrV_store]
  congr 2
  funext q
  by_cases hq : q = i.toNatClampNeg
  · subst hq
    rcases hx with rfl | rfl <;> simp [updV, upd] <;> rfl
  · simp [updV, upd, hq]
theorem g_last {k n0 : Nat} {f : Nat → Int64} {i : Int32} {x : Int64} (hd : dc M pc .lastore 1 n) (ha : aL h k = some (n0, f)) (hin : vp_in i n0) (kk : GL l K M d kc ks n lo st (h.set k (.inl (1, n0, .inr (.inl (vp_updL f i.toNatClampNeg x))))) Q) : GL l K M d kc ks pc lo (.long x :: .int i :: .ref k :: st) h Q := by
  intro p e R s m args below meth c H locs cells slots mc ms ls hB h1 h2 h3 h4 h5 h6 h7 h8 h9 h10
  obtain ⟨hdg, rfl⟩ := hd
  have he := wl_at (K := K) (aL_of ha)
  refine W.last hB.1 hB.2.1 (h7.2.1 k _ he) ((hB.2.2.2.2.2.2.2.2.1.1.2 1 _ rfl).1 n0 (fun j => .long (f j))) (fun q => by cases q) (by show ¬ (i < 0 ∨ (arrV _ _ _).slots.size ≤ _); rw [arrV_size]; exact hin) rfl rfl hdg fun H1 e1 z oq => ?_
  refine kk p e R s m args below meth c H1 _ cells slots mc ms ls hB h1 h2 h3 h4 h5 h6 (cR_set h7 (aL_of ha) z oq ?_) (by rw [z]; exact h8) (fun q hq => by
    rcases List.mem_append.mp hq with hq | hq
    · exact h9 q hq
    · rw [List.mem_singleton.mp hq]; exact Nat.le_add_right _ _) h10
  show H1[K.1.size + k]? = some (vp_cell _ (n0, .inr (.inl (vp_updL f i.toNatClampNeg x))))
  rw [e1]
  show some ((vp_cell _ (n0, .inr (.inl f))).setSlot _ _) = _
  rw [vp_cell_l, vp_cell_l, arrV_store]
  congr 2
  funext q
  by_cases hq : q = i.toNatClampNeg
  · subst hq
    simp [updV, vp_updL]
  · simp [updV, vp_updL, hq]
end RU
