section CPS
variable {l : Launch} {K : cK} {M : MI} {d kc ks pc n : Nat} {lo : List (Nat × Value)} {st : List Value} {h h2 : cH} {Q : Option Value → cH → Prop}
set_option maxHeartbeats 800000 in
theorem g_cpS {j k1 N n1 ix : Nat} {nm ds : String} {f : List Int32} {g : Nat → Int32} (q : Nat) (hq : stA[j]? = some (nm, ds, .int, N, stI f)) (hl : Cond.methodLink M.1.cls ix ⟨"java/lang/System", "arraycopy", "(Ljava/lang/Object;ILjava/lang/Object;II)V"⟩ ∈ tblG) (ha1 : aI h k1 0 = some (n1, g)) (hs : q ≤ N) (ht : q ≤ n1) (b0 : N < 2147483648) (b1 : n1 < 2147483648) (hh : h.set k1 (.inl (0, n1, .inl (va_cpy (fun i => f.getD i 0) g 0 0 q))) = h2) (hd1 : 1 ≤ d) (hW : (st.map fun v => v.category).sum ≤ 8) (hd : dc M pc (.invokestatic ix) 3 n) (kk : GL l K M d kc ks n lo st h2 Q) : GL l K M d kc ks pc lo (.int (nI q) :: .int (nI 0) :: .ref k1 :: .int (nI 0) :: .retAddr j :: st) h Q := by
  subst hh
  intro p e R s m args below meth c H locs cells slots mc ms ls hB h1 h2 h3 h4 h5 h6 h7 h8 h9 h10
  obtain ⟨hdg, rfl⟩ := hd
  have hts := hB.2.2.2.2.2.1
  have hU := hB.2.2.2.2.2.2.2.2.1
  have hK := hU.1
  obtain ⟨cell, c1, c2, c3, c4, c5, c6, c7⟩ := (hU.2.2.1 j _ hq).2
  have c4' : N ≤ cell.slots.size := c4
  have hlt : K.2.1 j < K.1.size := (Array.getElem?_eq_some_iff.mp c1).1
  have hc0 : H[K.2.1 j]? = some cell := by rw [h7.2.2 _ hlt]; exact c1
  have hc1 : H[K.1.size + k1]? = some (vp_cell (K.2.2.2.1 0) (n1, .inl g)) := h7.2.1 k1 _ (wl_at (aI_of ha1))
  obtain ⟨s0, s1⟩ := nn_nI (a := 0) (by omega)
  obtain ⟨m0, m1⟩ := nn_nI (a := q) (by omega)
  have hcs : ∀ i, i < N → cell.slots[i]? = some (.int (f.getD i 0)) := fun i hi => c6 i hi
  intro T hT X
  obtain ⟨cst, kd, hkd, cm, hkk⟩ := c2
  obtain ⟨-, kd1, hkd1, cm1, hkk1⟩ := (hK.2 0 _ rfl).1 n1 (fun j => .int (g j))
  obtain ⟨vm', X', step⟩ := X.arraycopy hB.1 hB.2.2.2.2.1 (hts _ hl) (hts _ (tg_at 42 (by decide +kernel) rfl)) (hts _ (tg_at 41 (by decide +kernel) rfl)) (hts _ (tg_at 3 (by decide +kernel) rfl)) (src := K.2.1 j) (dst := K.1.size + k1) (cs := cell) (cd := vp_cell (K.2.2.2.1 0) (n1, .inl g)) (srcPos := nI 0) (destPos := nI 0) (n := nI q) (by rw [hT]; exact hc0) (by rw [hT]; exact hc1)
    cst (fun _ h => by cases h) c3 (fun h => by cases h) hkd hkd1 hkk hkk1 (by rfl) s0 s0 m0
    (by rw [nI_ti (by omega), nI_ti (by omega)]; omega)
    (by rw [nI_ti (by omega), nI_ti (by omega)]; show ¬ _ > ((arrV (K.2.2.2.1 0) n1 (fun j => .int (g j))).slots.size : Int); rw [arrV_size]; omega)
    (fun vm₁ _ i hi => by
      rw [m1] at hi
      have e : cell.slots.getD ((nI 0).toNatClampNeg + i) .null = .int (f.getD (0 + i) 0) := by
        rw [s1, Array.getD_eq_getD_getElem?, hcs (0 + i) (by omega)]
        rfl
      rw [e]
      exact ⟨rfl, trivial⟩)
    (g := F0 m pc ls ((Value.int (nI q) :: .int (nI 0) :: .ref k1 :: .int (nI 0) :: .retAddr j :: st).map (cv K))) rfl (by rw [hB.2.2.1, h10.1]) (rest := st.map (cv K)) rfl (by rw [hB.2.1]; exact hdg) (by omega) (by show 2 * 0 + _ + (5 + 2 + 11) ≤ _; rw [cat_sum]; omega)
  have e1 : copied cell (vp_cell (K.2.2.2.1 0) (n1, .inl g)) (nI 0) (nI 0) (nI q) = vp_cell (K.2.2.2.1 0) (n1, .inl (va_cpy (fun i => f.getD i 0) g 0 0 q)) := by
    have z := va_copiedX (fun z => .int z) cell (K.2.2.2.1 0) (n1 := n1) (sp := 0) (dp := 0) (n := q) (fun i => f.getD i 0) g hcs (by omega)
    show Cell.storeRun _ (nI 0).toNatClampNeg (Cell.stretch _ (nI 0).toNatClampNeg (nI q).toNatClampNeg) = _
    rw [s1, m1]
    exact z
  rw [e1] at X' step
  have hll : K.1.size + k1 < H.size := (Array.getElem?_eq_some_iff.mp hc1).1
  generalize hV : vp_cell (K.2.2.2.1 0) (n1, .inl (va_cpy (fun i => f.getD i 0) g 0 0 q)) = V at X' step
  have hheap : ((T.setVm vm').setCell (K.1.size + k1) V).heap = H.setIfInBounds (K.1.size + k1) V := by rw [← hT]; rfl
  have oq : ∀ q : Nat, q ≠ K.1.size + k1 → (H.setIfInBounds (K.1.size + k1) V)[q]? = H[q]? := fun q hq => by simp [Array.getElem?_setIfInBounds, Ne.symm hq]
  have z : (H.setIfInBounds (K.1.size + k1) V).size = H.size := by simp
  obtain ⟨t, a1, b1⟩ := kk p e R s m args below meth c (H.setIfInBounds (K.1.size + k1) V) _ cells slots mc ms ls hB h1 h2 h3 h4 h5 h6 (cR_set h7 (aI_of ha1) z oq (by
    show (H.setIfInBounds (K.1.size + k1) V)[K.1.size + k1]? = some _
    rw [Array.getElem?_setIfInBounds_self_of_lt hll, ← hV]; rfl)) (by rw [z]; exact h8) (fun q hq => by
      rcases List.mem_append.mp hq with hq | hq
      · exact h9 q hq
      · obtain ⟨y, -, hy⟩ := List.mem_map.mp hq
        rw [← hy]; exact Nat.le_add_right _ _) h10 _ hheap X'
  exact ⟨t, step t a1, b1⟩
end CPS
set_option maxRecDepth 20000 in
theorem nw11_7 : nw "CoinsWarden" 7 6 14 [.int 0, .null, .null, .int 0, .null, .int 0, .int 0, .null, .int 0, .null, .null, .int 0, .null, .null] := ⟨_, _, rfl, cl11_7, tg_at 31 (by decide +kernel) rfl, tg_at 2 (by decide +kernel) rfl, fun j hj => by
  have hz : j = 0 ∨ j = 1 ∨ j = 2 ∨ j = 3 ∨ j = 4 ∨ j = 5 ∨ j = 6 ∨ j = 7 ∨ j = 8 ∨ j = 9 ∨ j = 10 ∨ j = 11 ∨ j = 12 ∨ j = 13 := by omega
  rcases hz with rfl | rfl | rfl | rfl | rfl | rfl | rfl | rfl | rfl | rfl | rfl | rfl | rfl | rfl
  · exact congrArg (Option.map defaultValue) (show parseFieldDescriptor "I" = some .int by decide +kernel)
  · exact congrArg (Option.map defaultValue) (show parseFieldDescriptor "[I" = some (.array .int) by decide +kernel)
  · exact congrArg (Option.map defaultValue) (show parseFieldDescriptor "[I" = some (.array .int) by decide +kernel)
  · exact congrArg (Option.map defaultValue) (show parseFieldDescriptor "I" = some .int by decide +kernel)
  · exact congrArg (Option.map defaultValue) (show parseFieldDescriptor "[LCoinsWarden$Text;" = some (.array (.object "CoinsWarden$Text")) by decide +kernel)
  · exact congrArg (Option.map defaultValue) (show parseFieldDescriptor "I" = some .int by decide +kernel)
  · exact congrArg (Option.map defaultValue) (show parseFieldDescriptor "I" = some .int by decide +kernel)
  · exact congrArg (Option.map defaultValue) (show parseFieldDescriptor "[LCoinsWarden$Text;" = some (.array (.object "CoinsWarden$Text")) by decide +kernel)
  · exact congrArg (Option.map defaultValue) (show parseFieldDescriptor "I" = some .int by decide +kernel)
  · exact congrArg (Option.map defaultValue) (show parseFieldDescriptor "[I" = some (.array .int) by decide +kernel)
  · exact congrArg (Option.map defaultValue) (show parseFieldDescriptor "[I" = some (.array .int) by decide +kernel)
  · exact congrArg (Option.map defaultValue) (show parseFieldDescriptor "I" = some .int by decide +kernel)
  · exact congrArg (Option.map defaultValue) (show parseFieldDescriptor "[I" = some (.array .int) by decide +kernel)
  · exact congrArg (Option.map defaultValue) (show parseFieldDescriptor "[I" = some (.array .int) by decide +kernel)⟩
set_option maxRecDepth 20000 in
theorem nw11_24 : nw "CoinsWarden" 24 8 6 [.null, .int 0, .int 0, .int 0, .int 0, .int 0] := ⟨_, _, rfl, cl11_24, tg_at 111 (by decide +kernel) rfl, tg_at 4 (by decide +kernel) rfl, fun j hj => by
  have hz : j = 0 ∨ j = 1 ∨ j = 2 ∨ j = 3 ∨ j = 4 ∨ j = 5 := by omega
  rcases hz with rfl | rfl | rfl | rfl | rfl | rfl
  · exact congrArg (Option.map defaultValue) (show parseFieldDescriptor "[I" = some (.array .int) by decide +kernel)
  · exact congrArg (Option.map defaultValue) (show parseFieldDescriptor "I" = some .int by decide +kernel)
  · exact congrArg (Option.map defaultValue) (show parseFieldDescriptor "I" = some .int by decide +kernel)
  · exact congrArg (Option.map defaultValue) (show parseFieldDescriptor "I" = some .int by decide +kernel)
  · exact congrArg (Option.map defaultValue) (show parseFieldDescriptor "I" = some .int by decide +kernel)
  · exact congrArg (Option.map defaultValue) (show parseFieldDescriptor "I" = some .int by decide +kernel)⟩
set_option maxRecDepth 20000 in
theorem nw11_31 : nw "CoinsWarden" 31 4 13 [.null, .int 0, .int 0, .int 0, .int 0, .int 0, .null, .null, .null, .null, .int 0, .null, .null] := ⟨_, _, rfl, cl11_31, tg_at 142 (by decide +kernel) rfl, tg_at 5 (by decide +kernel) rfl, fun j hj => by
  have hz : j = 0 ∨ j = 1 ∨ j = 2 ∨ j = 3 ∨ j = 4 ∨ j = 5 ∨ j = 6 ∨ j = 7 ∨ j = 8 ∨ j = 9 ∨ j = 10 ∨ j = 11 ∨ j = 12 := by omega
  rcases hz with rfl | rfl | rfl | rfl | rfl | rfl | rfl | rfl | rfl | rfl | rfl | rfl | rfl
  · exact congrArg (Option.map defaultValue) (show parseFieldDescriptor "LCoinsWarden$Tape;" = some (.object "CoinsWarden$Tape") by decide +kernel)
  · exact congrArg (Option.map defaultValue) (show parseFieldDescriptor "Z" = some .boolean by decide +kernel)
  · exact congrArg (Option.map defaultValue) (show parseFieldDescriptor "I" = some .int by decide +kernel)
  · exact congrArg (Option.map defaultValue) (show parseFieldDescriptor "I" = some .int by decide +kernel)
  · exact congrArg (Option.map defaultValue) (show parseFieldDescriptor "I" = some .int by decide +kernel)
  · exact congrArg (Option.map defaultValue) (show parseFieldDescriptor "I" = some .int by decide +kernel)
  · exact congrArg (Option.map defaultValue) (show parseFieldDescriptor "[I" = some (.array .int) by decide +kernel)
  · exact congrArg (Option.map defaultValue) (show parseFieldDescriptor "[I" = some (.array .int) by decide +kernel)
  · exact congrArg (Option.map defaultValue) (show parseFieldDescriptor "[I" = some (.array .int) by decide +kernel)
  · exact congrArg (Option.map defaultValue) (show parseFieldDescriptor "[I" = some (.array .int) by decide +kernel)
  · exact congrArg (Option.map defaultValue) (show parseFieldDescriptor "I" = some .int by decide +kernel)
  · exact congrArg (Option.map defaultValue) (show parseFieldDescriptor "[I" = some (.array .int) by decide +kernel)
  · exact congrArg (Option.map defaultValue) (show parseFieldDescriptor "[I" = some (.array .int) by decide +kernel)⟩
set_option maxRecDepth 20000 in
theorem nw11_40 : nw "CoinsWarden" 40 10 5 [.null, .null, .null, .null, .null] := ⟨_, _, rfl, cl11_40, tg_at 197 (by decide +kernel) rfl, tg_at 6 (by decide +kernel) rfl, fun j hj => by
  have hz : j = 0 ∨ j = 1 ∨ j = 2 ∨ j = 3 ∨ j = 4 := by omega
  rcases hz with rfl | rfl | rfl | rfl | rfl
  · exact congrArg (Option.map defaultValue) (show parseFieldDescriptor "LCoinsWarden$Reckoner;" = some (.object "CoinsWarden$Reckoner") by decide +kernel)
  · exact congrArg (Option.map defaultValue) (show parseFieldDescriptor "LCoinsWarden$Text;" = some (.object "CoinsWarden$Text") by decide +kernel)
  · exact congrArg (Option.map defaultValue) (show parseFieldDescriptor "[I" = some (.array .int) by decide +kernel)
  · exact congrArg (Option.map defaultValue) (show parseFieldDescriptor "[I" = some (.array .int) by decide +kernel)
  · exact congrArg (Option.map defaultValue) (show parseFieldDescriptor "[J" = some (.array .long) by decide +kernel)⟩
set_option maxRecDepth 20000 in
theorem nw11_47 : nw "CoinsWarden" 47 7 8 [.int 0, .int 0, .int 0, .int 0, .int 0, .int 0, .int 0, .int 0] := ⟨_, _, rfl, cl11_47, tg_at 245 (by decide +kernel) rfl, tg_at 8 (by decide +kernel) rfl, fun j hj => by
  have hz : j = 0 ∨ j = 1 ∨ j = 2 ∨ j = 3 ∨ j = 4 ∨ j = 5 ∨ j = 6 ∨ j = 7 := by omega
  rcases hz with rfl | rfl | rfl | rfl | rfl | rfl | rfl | rfl
  · exact congrArg (Option.map defaultValue) (show parseFieldDescriptor "I" = some .int by decide +kernel)
  · exact congrArg (Option.map defaultValue) (show parseFieldDescriptor "I" = some .int by decide +kernel)
  · exact congrArg (Option.map defaultValue) (show parseFieldDescriptor "I" = some .int by decide +kernel)
  · exact congrArg (Option.map defaultValue) (show parseFieldDescriptor "Z" = some .boolean by decide +kernel)
  · exact congrArg (Option.map defaultValue) (show parseFieldDescriptor "I" = some .int by decide +kernel)
  · exact congrArg (Option.map defaultValue) (show parseFieldDescriptor "I" = some .int by decide +kernel)
  · exact congrArg (Option.map defaultValue) (show parseFieldDescriptor "I" = some .int by decide +kernel)
  · exact congrArg (Option.map defaultValue) (show parseFieldDescriptor "I" = some .int by decide +kernel)⟩
set_option maxRecDepth 20000 in
theorem nw11_54 : nw "CoinsWarden" 54 0 9 [.null, .null, .null, .null, .null, .null, .null, .null, .null] := ⟨_, _, rfl, cl11_54, tg_at 295 (by decide +kernel) rfl, tg_at 9 (by decide +kernel) rfl, fun j hj => by
  have hz : j = 0 ∨ j = 1 ∨ j = 2 ∨ j = 3 ∨ j = 4 ∨ j = 5 ∨ j = 6 ∨ j = 7 ∨ j = 8 := by omega
  rcases hz with rfl | rfl | rfl | rfl | rfl | rfl | rfl | rfl | rfl
  · exact congrArg (Option.map defaultValue) (show parseFieldDescriptor "LCoinsWarden$Warden;" = some (.object "CoinsWarden$Warden") by decide +kernel)
  · exact congrArg (Option.map defaultValue) (show parseFieldDescriptor "LCoinsWarden$Stay;" = some (.object "CoinsWarden$Stay") by decide +kernel)
  · exact congrArg (Option.map defaultValue) (show parseFieldDescriptor "LCoinsWarden$Reckoner;" = some (.object "CoinsWarden$Reckoner") by decide +kernel)
  · exact congrArg (Option.map defaultValue) (show parseFieldDescriptor "[J" = some (.array .long) by decide +kernel)
  · exact congrArg (Option.map defaultValue) (show parseFieldDescriptor "[J" = some (.array .long) by decide +kernel)
  · exact congrArg (Option.map defaultValue) (show parseFieldDescriptor "[J" = some (.array .long) by decide +kernel)
  · exact congrArg (Option.map defaultValue) (show parseFieldDescriptor "[I" = some (.array .int) by decide +kernel)
  · exact congrArg (Option.map defaultValue) (show parseFieldDescriptor "[J" = some (.array .long) by decide +kernel)
  · exact congrArg (Option.map defaultValue) (show parseFieldDescriptor "[J" = some (.array .long) by decide +kernel)⟩
set_option maxRecDepth 20000 in
theorem nw11_63 : nw "CoinsWarden" 63 3 8 [.null, .null, .null, .null, .null, .null, .int 0, .int 0] := ⟨_, _, rfl, cl11_63, tg_at 331 (by decide +kernel) rfl, tg_at 10 (by decide +kernel) rfl, fun j hj => by
  have hz : j = 0 ∨ j = 1 ∨ j = 2 ∨ j = 3 ∨ j = 4 ∨ j = 5 ∨ j = 6 ∨ j = 7 := by omega
  rcases hz with rfl | rfl | rfl | rfl | rfl | rfl | rfl | rfl
  · exact congrArg (Option.map defaultValue) (show parseFieldDescriptor "LCoinsWarden$Warden;" = some (.object "CoinsWarden$Warden") by decide +kernel)
  · exact congrArg (Option.map defaultValue) (show parseFieldDescriptor "LCoinsWarden$Stay;" = some (.object "CoinsWarden$Stay") by decide +kernel)
  · exact congrArg (Option.map defaultValue) (show parseFieldDescriptor "[I" = some (.array .int) by decide +kernel)
  · exact congrArg (Option.map defaultValue) (show parseFieldDescriptor "[I" = some (.array .int) by decide +kernel)
  · exact congrArg (Option.map defaultValue) (show parseFieldDescriptor "[J" = some (.array .long) by decide +kernel)
  · exact congrArg (Option.map defaultValue) (show parseFieldDescriptor "[J" = some (.array .long) by decide +kernel)
  · exact congrArg (Option.map defaultValue) (show parseFieldDescriptor "Z" = some .boolean by decide +kernel)
  · exact congrArg (Option.map defaultValue) (show parseFieldDescriptor "I" = some .int by decide +kernel)⟩
set_option maxRecDepth 20000 in
theorem nw11_70 : nw "CoinsWarden" 70 1 11 [.null, .null, .null, .int 0, .int 0, .null, .null, .null, .null, .null, .null] := ⟨_, _, rfl, cl11_70, tg_at 362 (by decide +kernel) rfl, tg_at 11 (by decide +kernel) rfl, fun j hj => by
  have hz : j = 0 ∨ j = 1 ∨ j = 2 ∨ j = 3 ∨ j = 4 ∨ j = 5 ∨ j = 6 ∨ j = 7 ∨ j = 8 ∨ j = 9 ∨ j = 10 := by omega
  rcases hz with rfl | rfl | rfl | rfl | rfl | rfl | rfl | rfl | rfl | rfl | rfl
  · exact congrArg (Option.map defaultValue) (show parseFieldDescriptor "LCoinsWarden$Warden;" = some (.object "CoinsWarden$Warden") by decide +kernel)
  · exact congrArg (Option.map defaultValue) (show parseFieldDescriptor "LCoinsWarden$Costs;" = some (.object "CoinsWarden$Costs") by decide +kernel)
  · exact congrArg (Option.map defaultValue) (show parseFieldDescriptor "LCoinsWarden$Stay;" = some (.object "CoinsWarden$Stay") by decide +kernel)
  · exact congrArg (Option.map defaultValue) (show parseFieldDescriptor "Z" = some .boolean by decide +kernel)
  · exact congrArg (Option.map defaultValue) (show parseFieldDescriptor "I" = some .int by decide +kernel)
  · exact congrArg (Option.map defaultValue) (show parseFieldDescriptor "[I" = some (.array .int) by decide +kernel)
  · exact congrArg (Option.map defaultValue) (show parseFieldDescriptor "[I" = some (.array .int) by decide +kernel)
  · exact congrArg (Option.map defaultValue) (show parseFieldDescriptor "[I" = some (.array .int) by decide +kernel)
  · exact congrArg (Option.map defaultValue) (show parseFieldDescriptor "[I" = some (.array .int) by decide +kernel)
  · exact congrArg (Option.map defaultValue) (show parseFieldDescriptor "[I" = some (.array .int) by decide +kernel)
  · exact congrArg (Option.map defaultValue) (show parseFieldDescriptor "[I" = some (.array .int) by decide +kernel)⟩
set_option maxRecDepth 20000 in
theorem nw11_79 : nw "CoinsWarden" 79 2 3 [.long 0, .long 0, .null] := ⟨_, _, rfl, cl11_79, tg_at 408 (by decide +kernel) rfl, tg_at 12 (by decide +kernel) rfl, fun j hj => by
  have hz : j = 0 ∨ j = 1 ∨ j = 2 := by omega
  rcases hz with rfl | rfl | rfl
  · exact congrArg (Option.map defaultValue) (show parseFieldDescriptor "J" = some .long by decide +kernel)
  · exact congrArg (Option.map defaultValue) (show parseFieldDescriptor "J" = some .long by decide +kernel)
  · exact congrArg (Option.map defaultValue) (show parseFieldDescriptor "[Z" = some (.array .boolean) by decide +kernel)⟩
set_option maxRecDepth 20000 in
theorem nw0_9 : nw "CoinsWarden$Costs" 9 5 5 [.null, .null, .int 0, .int 0, .long 0] := ⟨_, _, rfl, cl0_9, tg_at 203 (by decide +kernel) rfl, tg_at 7 (by decide +kernel) rfl, fun j hj => by
  have hz : j = 0 ∨ j = 1 ∨ j = 2 ∨ j = 3 ∨ j = 4 := by omega
  rcases hz with rfl | rfl | rfl | rfl | rfl
  · exact congrArg (Option.map defaultValue) (show parseFieldDescriptor "[I" = some (.array .int) by decide +kernel)
  · exact congrArg (Option.map defaultValue) (show parseFieldDescriptor "[J" = some (.array .long) by decide +kernel)
  · exact congrArg (Option.map defaultValue) (show parseFieldDescriptor "I" = some .int by decide +kernel)
  · exact congrArg (Option.map defaultValue) (show parseFieldDescriptor "Z" = some .boolean by decide +kernel)
  · exact congrArg (Option.map defaultValue) (show parseFieldDescriptor "J" = some .long by decide +kernel)⟩
set_option maxRecDepth 20000 in
theorem nw10_9 : nw "CoinsWarden$Warden" 9 5 5 [.null, .null, .int 0, .int 0, .long 0] := ⟨_, _, rfl, cl10_9, tg_at 203 (by decide +kernel) rfl, tg_at 7 (by decide +kernel) rfl, fun j hj => by
  have hz : j = 0 ∨ j = 1 ∨ j = 2 ∨ j = 3 ∨ j = 4 := by omega
  rcases hz with rfl | rfl | rfl | rfl | rfl
  · exact congrArg (Option.map defaultValue) (show parseFieldDescriptor "[I" = some (.array .int) by decide +kernel)
  · exact congrArg (Option.map defaultValue) (show parseFieldDescriptor "[J" = some (.array .long) by decide +kernel)
  · exact congrArg (Option.map defaultValue) (show parseFieldDescriptor "I" = some .int by decide +kernel)
  · exact congrArg (Option.map defaultValue) (show parseFieldDescriptor "Z" = some .boolean by decide +kernel)
  · exact congrArg (Option.map defaultValue) (show parseFieldDescriptor "J" = some .long by decide +kernel)⟩
set_option maxRecDepth 20000 in
theorem nw13_7 : nw "CoinsWardenLaw" 7 11 17 [.null, .null, .null, .null, .null, .null, .null, .null, .null, .null, .null, .null, .null, .null, .int 0, .int 0, .int 0] := ⟨_, _, rfl, cl13_7, tg_at 23 (by decide +kernel) rfl, tg_at 1 (by decide +kernel) rfl, fun j hj => by
  have hz : j = 0 ∨ j = 1 ∨ j = 2 ∨ j = 3 ∨ j = 4 ∨ j = 5 ∨ j = 6 ∨ j = 7 ∨ j = 8 ∨ j = 9 ∨ j = 10 ∨ j = 11 ∨ j = 12 ∨ j = 13 ∨ j = 14 ∨ j = 15 ∨ j = 16 := by omega
  rcases hz with rfl | rfl | rfl | rfl | rfl | rfl | rfl | rfl | rfl | rfl | rfl | rfl | rfl | rfl | rfl | rfl | rfl
  · exact congrArg (Option.map defaultValue) (show parseFieldDescriptor "LCoinsWarden$State;" = some (.object "CoinsWarden$State") by decide +kernel)
  · exact congrArg (Option.map defaultValue) (show parseFieldDescriptor "[LCoinsWarden$State;" = some (.array (.object "CoinsWarden$State")) by decide +kernel)
  · exact congrArg (Option.map defaultValue) (show parseFieldDescriptor "[Z" = some (.array .boolean) by decide +kernel)
  · exact congrArg (Option.map defaultValue) (show parseFieldDescriptor "LCoinsWarden$Tape;" = some (.object "CoinsWarden$Tape") by decide +kernel)
  · exact congrArg (Option.map defaultValue) (show parseFieldDescriptor "LCoinsWarden$Reading;" = some (.object "CoinsWarden$Reading") by decide +kernel)
  · exact congrArg (Option.map defaultValue) (show parseFieldDescriptor "LCoinsWarden$Warden;" = some (.object "CoinsWarden$Warden") by decide +kernel)
  · exact congrArg (Option.map defaultValue) (show parseFieldDescriptor "LCoinsWarden$Stay;" = some (.object "CoinsWarden$Stay") by decide +kernel)
  · exact congrArg (Option.map defaultValue) (show parseFieldDescriptor "LCoinsWarden$Costs;" = some (.object "CoinsWarden$Costs") by decide +kernel)
  · exact congrArg (Option.map defaultValue) (show parseFieldDescriptor "LCoinsWarden$Plans;" = some (.object "CoinsWarden$Plans") by decide +kernel)
  · exact congrArg (Option.map defaultValue) (show parseFieldDescriptor "LCoinsWarden$Day;" = some (.object "CoinsWarden$Day") by decide +kernel)
  · exact congrArg (Option.map defaultValue) (show parseFieldDescriptor "LCoinsWarden$Game;" = some (.object "CoinsWarden$Game") by decide +kernel)
  · exact congrArg (Option.map defaultValue) (show parseFieldDescriptor "[J" = some (.array .long) by decide +kernel)
  · exact congrArg (Option.map defaultValue) (show parseFieldDescriptor "[J" = some (.array .long) by decide +kernel)
  · exact congrArg (Option.map defaultValue) (show parseFieldDescriptor "[I" = some (.array .int) by decide +kernel)
  · exact congrArg (Option.map defaultValue) (show parseFieldDescriptor "I" = some .int by decide +kernel)
  · exact congrArg (Option.map defaultValue) (show parseFieldDescriptor "I" = some .int by decide +kernel)
  · exact congrArg (Option.map defaultValue) (show parseFieldDescriptor "I" = some .int by decide +kernel)⟩
set_option maxRecDepth 20000 in
theorem nw13_10 : nw "CoinsWardenLaw" 10 12 60 [.int 0, .int 0, .null, .null, .null, .null, .int 0, .null, .int 0, .int 0, .int 0, .int 0, .long 0, .int 0, .int 0, .int 0, .int 0, .null, .int 0, .null, .null, .int 0, .null, .null, .int 0, .int 0, .null, .null, .int 0, .null, .null, .null, .int 0, .long 0, .long 0, .int 0, .int 0, .null, .null, .null, .null, .null, .long 0, .int 0, .int 0, .null, .null, .null, .null, .null, .null, .long 0, .long 0, .long 0, .null, .null, .null, .int 0, .int 0, .null] := ⟨_, _, rfl, cl13_10, tg_at 1156 (by decide +kernel) rfl, tg_at 13 (by decide +kernel) rfl, fun j hj => by
  have hz : j = 0 ∨ j = 1 ∨ j = 2 ∨ j = 3 ∨ j = 4 ∨ j = 5 ∨ j = 6 ∨ j = 7 ∨ j = 8 ∨ j = 9 ∨ j = 10 ∨ j = 11 ∨ j = 12 ∨ j = 13 ∨ j = 14 ∨ j = 15 ∨ j = 16 ∨ j = 17 ∨ j = 18 ∨ j = 19 ∨ j = 20 ∨ j = 21 ∨ j = 22 ∨ j = 23 ∨ j = 24 ∨ j = 25 ∨ j = 26 ∨ j = 27 ∨ j = 28 ∨ j = 29 ∨ j = 30 ∨ j = 31 ∨ j = 32 ∨ j = 33 ∨ j = 34 ∨ j = 35 ∨ j = 36 ∨ j = 37 ∨ j = 38 ∨ j = 39 ∨ j = 40 ∨ j = 41 ∨ j = 42 ∨ j = 43 ∨ j = 44 ∨ j = 45 ∨ j = 46 ∨ j = 47 ∨ j = 48 ∨ j = 49 ∨ j = 50 ∨ j = 51 ∨ j = 52 ∨ j = 53 ∨ j = 54 ∨ j = 55 ∨ j = 56 ∨ j = 57 ∨ j = 58 ∨ j = 59 := by omega
  rcases hz with rfl | rfl | rfl | rfl | rfl | rfl | rfl | rfl | rfl | rfl | rfl | rfl | rfl | rfl | rfl | rfl | rfl | rfl | rfl | rfl | rfl | rfl | rfl | rfl | rfl | rfl | rfl | rfl | rfl | rfl | rfl | rfl | rfl | rfl | rfl | rfl | rfl | rfl | rfl | rfl | rfl | rfl | rfl | rfl | rfl | rfl | rfl | rfl | rfl | rfl | rfl | rfl | rfl | rfl | rfl | rfl | rfl | rfl | rfl | rfl
  · exact congrArg (Option.map defaultValue) (show parseFieldDescriptor "I" = some .int by decide +kernel)
  · exact congrArg (Option.map defaultValue) (show parseFieldDescriptor "I" = some .int by decide +kernel)
  · exact congrArg (Option.map defaultValue) (show parseFieldDescriptor "[I" = some (.array .int) by decide +kernel)
  · exact congrArg (Option.map defaultValue) (show parseFieldDescriptor "[I" = some (.array .int) by decide +kernel)
  · exact congrArg (Option.map defaultValue) (show parseFieldDescriptor "[I" = some (.array .int) by decide +kernel)
  · exact congrArg (Option.map defaultValue) (show parseFieldDescriptor "[Z" = some (.array .boolean) by decide +kernel)
  · exact congrArg (Option.map defaultValue) (show parseFieldDescriptor "I" = some .int by decide +kernel)
  · exact congrArg (Option.map defaultValue) (show parseFieldDescriptor "[I" = some (.array .int) by decide +kernel)
  · exact congrArg (Option.map defaultValue) (show parseFieldDescriptor "I" = some .int by decide +kernel)
  · exact congrArg (Option.map defaultValue) (show parseFieldDescriptor "I" = some .int by decide +kernel)
  · exact congrArg (Option.map defaultValue) (show parseFieldDescriptor "I" = some .int by decide +kernel)
  · exact congrArg (Option.map defaultValue) (show parseFieldDescriptor "I" = some .int by decide +kernel)
  · exact congrArg (Option.map defaultValue) (show parseFieldDescriptor "J" = some .long by decide +kernel)
  · exact congrArg (Option.map defaultValue) (show parseFieldDescriptor "I" = some .int by decide +kernel)
  · exact congrArg (Option.map defaultValue) (show parseFieldDescriptor "Z" = some .boolean by decide +kernel)
  · exact congrArg (Option.map defaultValue) (show parseFieldDescriptor "Z" = some .boolean by decide +kernel)
  · exact congrArg (Option.map defaultValue) (show parseFieldDescriptor "I" = some .int by decide +kernel)
  · exact congrArg (Option.map defaultValue) (show parseFieldDescriptor "[I" = some (.array .int) by decide +kernel)
  · exact congrArg (Option.map defaultValue) (show parseFieldDescriptor "I" = some .int by decide +kernel)
  · exact congrArg (Option.map defaultValue) (show parseFieldDescriptor "[I" = some (.array .int) by decide +kernel)
  · exact congrArg (Option.map defaultValue) (show parseFieldDescriptor "[I" = some (.array .int) by decide +kernel)
  · exact congrArg (Option.map defaultValue) (show parseFieldDescriptor "I" = some .int by decide +kernel)
  · exact congrArg (Option.map defaultValue) (show parseFieldDescriptor "[I" = some (.array .int) by decide +kernel)
  · exact congrArg (Option.map defaultValue) (show parseFieldDescriptor "[I" = some (.array .int) by decide +kernel)
  · exact congrArg (Option.map defaultValue) (show parseFieldDescriptor "I" = some .int by decide +kernel)
  · exact congrArg (Option.map defaultValue) (show parseFieldDescriptor "I" = some .int by decide +kernel)
  · exact congrArg (Option.map defaultValue) (show parseFieldDescriptor "[J" = some (.array .long) by decide +kernel)
  · exact congrArg (Option.map defaultValue) (show parseFieldDescriptor "[J" = some (.array .long) by decide +kernel)
  · exact congrArg (Option.map defaultValue) (show parseFieldDescriptor "I" = some .int by decide +kernel)
  · exact congrArg (Option.map defaultValue) (show parseFieldDescriptor "[J" = some (.array .long) by decide +kernel)
  · exact congrArg (Option.map defaultValue) (show parseFieldDescriptor "[J" = some (.array .long) by decide +kernel)
  · exact congrArg (Option.map defaultValue) (show parseFieldDescriptor "[J" = some (.array .long) by decide +kernel)
  · exact congrArg (Option.map defaultValue) (show parseFieldDescriptor "Z" = some .boolean by decide +kernel)
  · exact congrArg (Option.map defaultValue) (show parseFieldDescriptor "J" = some .long by decide +kernel)
  · exact congrArg (Option.map defaultValue) (show parseFieldDescriptor "J" = some .long by decide +kernel)
  · exact congrArg (Option.map defaultValue) (show parseFieldDescriptor "I" = some .int by decide +kernel)
  · exact congrArg (Option.map defaultValue) (show parseFieldDescriptor "I" = some .int by decide +kernel)
  · exact congrArg (Option.map defaultValue) (show parseFieldDescriptor "[I" = some (.array .int) by decide +kernel)
  · exact congrArg (Option.map defaultValue) (show parseFieldDescriptor "[J" = some (.array .long) by decide +kernel)
  · exact congrArg (Option.map defaultValue) (show parseFieldDescriptor "[I" = some (.array .int) by decide +kernel)
  · exact congrArg (Option.map defaultValue) (show parseFieldDescriptor "[Z" = some (.array .boolean) by decide +kernel)
  · exact congrArg (Option.map defaultValue) (show parseFieldDescriptor "[J" = some (.array .long) by decide +kernel)
  · exact congrArg (Option.map defaultValue) (show parseFieldDescriptor "J" = some .long by decide +kernel)
  · exact congrArg (Option.map defaultValue) (show parseFieldDescriptor "I" = some .int by decide +kernel)
  · exact congrArg (Option.map defaultValue) (show parseFieldDescriptor "I" = some .int by decide +kernel)
  · exact congrArg (Option.map defaultValue) (show parseFieldDescriptor "[J" = some (.array .long) by decide +kernel)
  · exact congrArg (Option.map defaultValue) (show parseFieldDescriptor "[I" = some (.array .int) by decide +kernel)
  · exact congrArg (Option.map defaultValue) (show parseFieldDescriptor "[J" = some (.array .long) by decide +kernel)
  · exact congrArg (Option.map defaultValue) (show parseFieldDescriptor "[I" = some (.array .int) by decide +kernel)
  · exact congrArg (Option.map defaultValue) (show parseFieldDescriptor "[J" = some (.array .long) by decide +kernel)
  · exact congrArg (Option.map defaultValue) (show parseFieldDescriptor "[J" = some (.array .long) by decide +kernel)
  · exact congrArg (Option.map defaultValue) (show parseFieldDescriptor "J" = some .long by decide +kernel)
  · exact congrArg (Option.map defaultValue) (show parseFieldDescriptor "J" = some .long by decide +kernel)
  · exact congrArg (Option.map defaultValue) (show parseFieldDescriptor "J" = some .long by decide +kernel)
  · exact congrArg (Option.map defaultValue) (show parseFieldDescriptor "[I" = some (.array .int) by decide +kernel)
  · exact congrArg (Option.map defaultValue) (show parseFieldDescriptor "[I" = some (.array .int) by decide +kernel)
  · exact congrArg (Option.map defaultValue) (show parseFieldDescriptor "[I" = some (.array .int) by decide +kernel)
  · exact congrArg (Option.map defaultValue) (show parseFieldDescriptor "I" = some .int by decide +kernel)
  · exact congrArg (Option.map defaultValue) (show parseFieldDescriptor "Z" = some .boolean by decide +kernel)
  · exact congrArg (Option.map defaultValue) (show parseFieldDescriptor "[I" = some (.array .int) by decide +kernel)⟩
set_option maxRecDepth 20000 in
set_option maxHeartbeats 1000000 in
theorem r6_init {l : Launch} {K : cK} {d : Nat}  {h : cH} {o : Nat} (hn : h.length = o) (hd : 1 ≤ d) : CC l K m6_init d 8 80 [.ref (o)] (hO h 6 [.int 0, .null, .null, .int 0, .null, .int 0, .int 0, .null, .int 0, .null, .null, .int 0, .null, .null] []) (fun r h1 => r = none ∧ h1 = (hO h 6 [.int 0, .ref (o + 1), .ref (o + 2), .int 0, .ref (o + 3), .int (-1), .int 0, .ref (o + 4), .int 0, .ref (o + 5), .ref (o + 6), .int 0, .ref (o + 7), .ref (o + 8)] [.inl (0, 24, .inl (fun _ => 0)), .inl (0, 8, .inl (va_cpy (fun i => ([1, 1, 40, 0, 12, 1, 20, 0] : List Int32).getD i 0) (fun _ => 0) 0 0 8)), .inl (3, 6, .inr (.inr (.inr (.inr (fun _ => none))))), .inl (3, 6, .inr (.inr (.inr (.inr (fun _ => none))))), .inl (0, 6, .inl (fun _ => 0)), .inl (0, 6, .inl (fun _ => 0)), .inl (0, 12, .inl (fun _ => 0)), .inl (0, 12, .inl (fun _ => 0))])) := by
  refine CC.of ok6_init (Nat.le_of_ble_eq_true rfl) ?_
  refine g_aload_n d6_init_0 rfl ?_
  refine g_obj mw6_3 (by omega) (Nat.le_of_ble_eq_true rfl) d6_init_1 ?_
  refine g_aload_n d6_init_4 rfl ?_
  refine g_bipushv (nI 24) d6_init_5 rfl ?_
  refine g_newI (N := 24) (by decide) (by decide) (Nat.le_of_ble_eq_true rfl) d6_init_7 ?_
  refine g_oR (st := [.ref (o)]) (q := o + 1) (as2 := [.inl (0, 24, .inl (fun _ => 0))]) hn (by show _ + 1 + 0 = _; omega) rfl ?_
  refine g_oF (fs2 := [.int 0, .ref (o + 1), .null, .int 0, .null, .int 0, .int 0, .null, .int 0, .null, .null, .int 0, .null, .null]) hn fl6_9 rfl rfl d6_init_9 rfl rfl rfl rfl ?_
  refine g_aload_n d6_init_12 rfl ?_
  refine g_bipushv (nI 8) d6_init_13 rfl ?_
  refine g_newI (N := 8) (by decide) (by decide) (Nat.le_of_ble_eq_true rfl) d6_init_15 ?_
  refine g_oR (st := [.ref (o)]) (q := o + 2) (as2 := [.inl (0, 24, .inl (fun _ => 0)), .inl (0, 8, .inl (fun _ => 0))]) hn (by show _ + 1 + 1 = _; omega) rfl ?_
  refine g_oF (fs2 := [.int 0, .ref (o + 1), .ref (o + 2), .int 0, .null, .int 0, .int 0, .null, .int 0, .null, .null, .int 0, .null, .null]) hn fl6_15 rfl rfl d6_init_17 rfl rfl rfl rfl ?_
  refine g_aload_n d6_init_20 rfl ?_
  refine g_bipushv (nI 6) d6_init_21 rfl ?_
  refine g_newR (N := 6) 3 "CoinsWarden$Text" (by decide) cl6_18 (by decide) (by decide) (Nat.le_of_ble_eq_true rfl) d6_init_23 ?_
  refine g_oR (st := [.ref (o)]) (q := o + 3) (as2 := [.inl (0, 24, .inl (fun _ => 0)), .inl (0, 8, .inl (fun _ => 0)), .inl (3, 6, .inr (.inr (.inr (.inr (fun _ => none)))))]) hn (by show _ + 1 + 2 = _; omega) rfl ?_
  refine g_oF (fs2 := [.int 0, .ref (o + 1), .ref (o + 2), .int 0, .ref (o + 3), .int 0, .int 0, .null, .int 0, .null, .null, .int 0, .null, .null]) hn fl6_20 rfl rfl d6_init_26 rfl rfl rfl rfl ?_
  refine g_aload_n d6_init_29 rfl ?_
  refine g_iconstv (-1) d6_init_30 rfl ?_
  refine g_oG (fs2 := [.int 0, .ref (o + 1), .ref (o + 2), .int 0, .ref (o + 3), .int (-1), .int 0, .null, .int 0, .null, .null, .int 0, .null, .null]) hn fl6_24 d6_init_31 rfl rfl rfl rfl ?_
  refine g_aload_n d6_init_34 rfl ?_
  refine g_bipushv (nI 6) d6_init_35 rfl ?_
  refine g_newR (N := 6) 3 "CoinsWarden$Text" (by decide) cl6_18 (by decide) (by decide) (Nat.le_of_ble_eq_true rfl) d6_init_37 ?_
  refine g_oR (st := [.ref (o)]) (q := o + 4) (as2 := [.inl (0, 24, .inl (fun _ => 0)), .inl (0, 8, .inl (fun _ => 0)), .inl (3, 6, .inr (.inr (.inr (.inr (fun _ => none))))), .inl (3, 6, .inr (.inr (.inr (.inr (fun _ => none)))))]) hn (by show _ + 1 + 3 = _; omega) rfl ?_
  refine g_oF (fs2 := [.int 0, .ref (o + 1), .ref (o + 2), .int 0, .ref (o + 3), .int (-1), .int 0, .ref (o + 4), .int 0, .null, .null, .int 0, .null, .null]) hn fl6_28 rfl rfl d6_init_40 rfl rfl rfl rfl ?_
  refine g_aload_n d6_init_43 rfl ?_
  refine g_bipushv (nI 6) d6_init_44 rfl ?_
  refine g_newI (N := 6) (by decide) (by decide) (Nat.le_of_ble_eq_true rfl) d6_init_46 ?_
  refine g_oR (st := [.ref (o)]) (q := o + 5) (as2 := [.inl (0, 24, .inl (fun _ => 0)), .inl (0, 8, .inl (fun _ => 0)), .inl (3, 6, .inr (.inr (.inr (.inr (fun _ => none))))), .inl (3, 6, .inr (.inr (.inr (.inr (fun _ => none))))), .inl (0, 6, .inl (fun _ => 0))]) hn (by show _ + 1 + 4 = _; omega) rfl ?_
  refine g_oF (fs2 := [.int 0, .ref (o + 1), .ref (o + 2), .int 0, .ref (o + 3), .int (-1), .int 0, .ref (o + 4), .int 0, .ref (o + 5), .null, .int 0, .null, .null]) hn fl6_31 rfl rfl d6_init_48 rfl rfl rfl rfl ?_
  refine g_aload_n d6_init_51 rfl ?_
  refine g_bipushv (nI 6) d6_init_52 rfl ?_
  refine g_newI (N := 6) (by decide) (by decide) (Nat.le_of_ble_eq_true rfl) d6_init_54 ?_
  refine g_oR (st := [.ref (o)]) (q := o + 6) (as2 := [.inl (0, 24, .inl (fun _ => 0)), .inl (0, 8, .inl (fun _ => 0)), .inl (3, 6, .inr (.inr (.inr (.inr (fun _ => none))))), .inl (3, 6, .inr (.inr (.inr (.inr (fun _ => none))))), .inl (0, 6, .inl (fun _ => 0)), .inl (0, 6, .inl (fun _ => 0))]) hn (by show _ + 1 + 5 = _; omega) rfl ?_
  refine g_oF (fs2 := [.int 0, .ref (o + 1), .ref (o + 2), .int 0, .ref (o + 3), .int (-1), .int 0, .ref (o + 4), .int 0, .ref (o + 5), .ref (o + 6), .int 0, .null, .null]) hn fl6_34 rfl rfl d6_init_56 rfl rfl rfl rfl ?_
  refine g_aload_n d6_init_59 rfl ?_
  refine g_bipushv (nI 12) d6_init_60 rfl ?_
  refine g_newI (N := 12) (by decide) (by decide) (Nat.le_of_ble_eq_true rfl) d6_init_62 ?_
  refine g_oR (st := [.ref (o)]) (q := o + 7) (as2 := [.inl (0, 24, .inl (fun _ => 0)), .inl (0, 8, .inl (fun _ => 0)), .inl (3, 6, .inr (.inr (.inr (.inr (fun _ => none))))), .inl (3, 6, .inr (.inr (.inr (.inr (fun _ => none))))), .inl (0, 6, .inl (fun _ => 0)), .inl (0, 6, .inl (fun _ => 0)), .inl (0, 12, .inl (fun _ => 0))]) hn (by show _ + 1 + 6 = _; omega) rfl ?_
  refine g_oF (fs2 := [.int 0, .ref (o + 1), .ref (o + 2), .int 0, .ref (o + 3), .int (-1), .int 0, .ref (o + 4), .int 0, .ref (o + 5), .ref (o + 6), .int 0, .ref (o + 7), .null]) hn fl6_37 rfl rfl d6_init_64 rfl rfl rfl rfl ?_
  refine g_aload_n d6_init_67 rfl ?_
  refine g_bipushv (nI 12) d6_init_68 rfl ?_
  refine g_newI (N := 12) (by decide) (by decide) (Nat.le_of_ble_eq_true rfl) d6_init_70 ?_
  refine g_oR (st := [.ref (o)]) (q := o + 8) (as2 := [.inl (0, 24, .inl (fun _ => 0)), .inl (0, 8, .inl (fun _ => 0)), .inl (3, 6, .inr (.inr (.inr (.inr (fun _ => none))))), .inl (3, 6, .inr (.inr (.inr (.inr (fun _ => none))))), .inl (0, 6, .inl (fun _ => 0)), .inl (0, 6, .inl (fun _ => 0)), .inl (0, 12, .inl (fun _ => 0)), .inl (0, 12, .inl (fun _ => 0))]) hn (by show _ + 1 + 7 = _; omega) rfl ?_
  refine g_oF (fs2 := [.int 0, .ref (o + 1), .ref (o + 2), .int 0, .ref (o + 3), .int (-1), .int 0, .ref (o + 4), .int 0, .ref (o + 5), .ref (o + 6), .int 0, .ref (o + 7), .ref (o + 8)]) hn fl6_40 rfl rfl d6_init_72 rfl rfl rfl rfl ?_
  refine g_getsN (j := 5) rfl (by decide +kernel) d6_init_75 ?_
  refine g_iconstv (nI 0) d6_init_78 rfl ?_
  refine g_aload_n d6_init_79 rfl ?_
  refine g_get fl6_15 d6_init_80 (hO_f hn rfl) ?_
  refine g_iconstv (nI 0) d6_init_83 rfl ?_
  refine g_bipushv (nI 8) d6_init_84 rfl ?_
  refine g_cpS (h2 := (hO h 6 [.int 0, .ref (o + 1), .ref (o + 2), .int 0, .ref (o + 3), .int (-1), .int 0, .ref (o + 4), .int 0, .ref (o + 5), .ref (o + 6), .int 0, .ref (o + 7), .ref (o + 8)] [.inl (0, 24, .inl (fun _ => 0)), .inl (0, 8, .inl (va_cpy (fun i => ([1, 1, 40, 0, 12, 1, 20, 0] : List Int32).getD i 0) (fun _ => 0) 0 0 8)), .inl (3, 6, .inr (.inr (.inr (.inr (fun _ => none))))), .inl (3, 6, .inr (.inr (.inr (.inr (fun _ => none))))), .inl (0, 6, .inl (fun _ => 0)), .inl (0, 6, .inl (fun _ => 0)), .inl (0, 12, .inl (fun _ => 0)), .inl (0, 12, .inl (fun _ => 0))])) 8 rfl mw6_46 (aI_to (hO_e hn rfl (i := 1) rfl)) (by decide) (by decide) (by decide) (by decide) (hO_t (i := 1) hn rfl rfl) (by omega) (Nat.le_of_ble_eq_true rfl) d6_init_86 ?_
  exact g_vret rfl d6_init_89 ⟨rfl, rfl⟩
set_option maxRecDepth 20000 in
set_option maxHeartbeats 1000000 in
theorem r8_init {l : Launch} {K : cK} {d : Nat}  {h : cH} {o : Nat} (hn : h.length = o) (hd : 1 ≤ d) : CC l K m8_init d 1 400 [.ref (o)] (hO h 8 [.null, .int 0, .int 0, .int 0, .int 0, .int 0] []) (fun r h1 => r = none ∧ h1 = (hO h 8 [.ref (o + 1), .int 0, .int 0, .int 0, .int 0, .int 0] [.inl (0, 400, .inl (fun _ => 0))])) := by
  refine CC.of ok8_init (Nat.le_of_ble_eq_true rfl) ?_
  refine g_aload_n d8_init_0 rfl ?_
  refine g_obj mw8_3 (by omega) (Nat.le_of_ble_eq_true rfl) d8_init_1 ?_
  refine g_aload_n d8_init_4 rfl ?_
  refine g_sipushv (nI 400) d8_init_5 rfl ?_
  refine g_newI (N := 400) (by decide) (by decide) (Nat.le_of_ble_eq_true rfl) d8_init_8 ?_
  refine g_oR (st := [.ref (o)]) (q := o + 1) (as2 := [.inl (0, 400, .inl (fun _ => 0))]) hn (by show _ + 1 + 0 = _; omega) rfl ?_
  refine g_oF (fs2 := [.ref (o + 1), .int 0, .int 0, .int 0, .int 0, .int 0]) hn fl8_9 rfl rfl d8_init_10 rfl rfl rfl rfl ?_
  exact g_vret rfl d8_init_13 ⟨rfl, rfl⟩
set_option maxRecDepth 20000 in
set_option maxHeartbeats 1000000 in
theorem r4_init {l : Launch} {K : cK} {d : Nat} {a0 : Nat} {h : cH} {o : Nat} (hn : h.length = o) (hd : 1 ≤ d) : CC l K m4_init d 6 848 [.ref (o), .ref a0] (hO h 4 [.null, .int 0, .int 0, .int 0, .int 0, .int 0, .null, .null, .null, .null, .int 0, .null, .null] []) (fun r h1 => r = none ∧ h1 = (hO h 4 [.ref (a0), .int 0, .int 0, .int 0, .int 0, .int 0, .ref (o + 1), .ref (o + 2), .ref (o + 3), .ref (o + 4), .int 0, .ref (o + 5), .ref (o + 6)] [.inl (0, 12, .inl (fun _ => 0)), .inl (0, 12, .inl (fun _ => 0)), .inl (0, 12, .inl (fun _ => 0)), .inl (0, 12, .inl (fun _ => 0)), .inl (0, 400, .inl (fun _ => 0)), .inl (0, 400, .inl (fun _ => 0))])) := by
  refine CC.of ok4_init (Nat.le_of_ble_eq_true rfl) ?_
  refine g_aload_n d4_init_0 rfl ?_
  refine g_obj mw4_3 (by omega) (Nat.le_of_ble_eq_true rfl) d4_init_1 ?_
  refine g_aload_n d4_init_4 rfl ?_
  refine g_bipushv (nI 12) d4_init_5 rfl ?_
  refine g_newI (N := 12) (by decide) (by decide) (Nat.le_of_ble_eq_true rfl) d4_init_7 ?_
  refine g_oR (st := [.ref (o)]) (q := o + 1) (as2 := [.inl (0, 12, .inl (fun _ => 0))]) hn (by show _ + 1 + 0 = _; omega) rfl ?_
  refine g_oF (fs2 := [.null, .int 0, .int 0, .int 0, .int 0, .int 0, .ref (o + 1), .null, .null, .null, .int 0, .null, .null]) hn fl4_11 rfl rfl d4_init_9 rfl rfl rfl rfl ?_
  refine g_aload_n d4_init_12 rfl ?_
  refine g_bipushv (nI 12) d4_init_13 rfl ?_
  refine g_newI (N := 12) (by decide) (by decide) (Nat.le_of_ble_eq_true rfl) d4_init_15 ?_
  refine g_oR (st := [.ref (o)]) (q := o + 2) (as2 := [.inl (0, 12, .inl (fun _ => 0)), .inl (0, 12, .inl (fun _ => 0))]) hn (by show _ + 1 + 1 = _; omega) rfl ?_
  refine g_oF (fs2 := [.null, .int 0, .int 0, .int 0, .int 0, .int 0, .ref (o + 1), .ref (o + 2), .null, .null, .int 0, .null, .null]) hn fl4_15 rfl rfl d4_init_17 rfl rfl rfl rfl ?_
  refine g_aload_n d4_init_20 rfl ?_
  refine g_bipushv (nI 12) d4_init_21 rfl ?_
  refine g_newI (N := 12) (by decide) (by decide) (Nat.le_of_ble_eq_true rfl) d4_init_23 ?_
  refine g_oR (st := [.ref (o)]) (q := o + 3) (as2 := [.inl (0, 12, .inl (fun _ => 0)), .inl (0, 12, .inl (fun _ => 0)), .inl (0, 12, .inl (fun _ => 0))]) hn (by show _ + 1 + 2 = _; omega) rfl ?_
  refine g_oF (fs2 := [.null, .int 0, .int 0, .int 0, .int 0, .int 0, .ref (o + 1), .ref (o + 2), .ref (o + 3), .null, .int 0, .null, .null]) hn fl4_18 rfl rfl d4_init_25 rfl rfl rfl rfl ?_
  refine g_aload_n d4_init_28 rfl ?_
  refine g_bipushv (nI 12) d4_init_29 rfl ?_
  refine g_newI (N := 12) (by decide) (by decide) (Nat.le_of_ble_eq_true rfl) d4_init_31 ?_
  refine g_oR (st := [.ref (o)]) (q := o + 4) (as2 := [.inl (0, 12, .inl (fun _ => 0)), .inl (0, 12, .inl (fun _ => 0)), .inl (0, 12, .inl (fun _ => 0)), .inl (0, 12, .inl (fun _ => 0))]) hn (by show _ + 1 + 3 = _; omega) rfl ?_
  refine g_oF (fs2 := [.null, .int 0, .int 0, .int 0, .int 0, .int 0, .ref (o + 1), .ref (o + 2), .ref (o + 3), .ref (o + 4), .int 0, .null, .null]) hn fl4_21 rfl rfl d4_init_33 rfl rfl rfl rfl ?_
  refine g_aload_n d4_init_36 rfl ?_
  refine g_sipushv (nI 400) d4_init_37 rfl ?_
  refine g_newI (N := 400) (by decide) (by decide) (Nat.le_of_ble_eq_true rfl) d4_init_40 ?_
  refine g_oR (st := [.ref (o)]) (q := o + 5) (as2 := [.inl (0, 12, .inl (fun _ => 0)), .inl (0, 12, .inl (fun _ => 0)), .inl (0, 12, .inl (fun _ => 0)), .inl (0, 12, .inl (fun _ => 0)), .inl (0, 400, .inl (fun _ => 0))]) hn (by show _ + 1 + 4 = _; omega) rfl ?_
  refine g_oF (fs2 := [.null, .int 0, .int 0, .int 0, .int 0, .int 0, .ref (o + 1), .ref (o + 2), .ref (o + 3), .ref (o + 4), .int 0, .ref (o + 5), .null]) hn fl4_24 rfl rfl d4_init_42 rfl rfl rfl rfl ?_
  refine g_aload_n d4_init_45 rfl ?_
  refine g_sipushv (nI 400) d4_init_46 rfl ?_
  refine g_newI (N := 400) (by decide) (by decide) (Nat.le_of_ble_eq_true rfl) d4_init_49 ?_
  refine g_oR (st := [.ref (o)]) (q := o + 6) (as2 := [.inl (0, 12, .inl (fun _ => 0)), .inl (0, 12, .inl (fun _ => 0)), .inl (0, 12, .inl (fun _ => 0)), .inl (0, 12, .inl (fun _ => 0)), .inl (0, 400, .inl (fun _ => 0)), .inl (0, 400, .inl (fun _ => 0))]) hn (by show _ + 1 + 5 = _; omega) rfl ?_
  refine g_oF (fs2 := [.null, .int 0, .int 0, .int 0, .int 0, .int 0, .ref (o + 1), .ref (o + 2), .ref (o + 3), .ref (o + 4), .int 0, .ref (o + 5), .ref (o + 6)]) hn fl4_27 rfl rfl d4_init_51 rfl rfl rfl rfl ?_
  refine g_aload_n d4_init_54 rfl ?_
  refine g_aload_n d4_init_55 rfl ?_
  refine g_oF (fs2 := [.ref (a0), .int 0, .int 0, .int 0, .int 0, .int 0, .ref (o + 1), .ref (o + 2), .ref (o + 3), .ref (o + 4), .int 0, .ref (o + 5), .ref (o + 6)]) hn fl4_30 rfl rfl d4_init_56 rfl rfl rfl rfl ?_
  exact g_vret rfl d4_init_59 ⟨rfl, rfl⟩
set_option maxRecDepth 20000 in
set_option maxHeartbeats 1000000 in
theorem r5_init {l : Launch} {K : cK} {d : Nat}  {h : cH} {o : Nat} (hn : h.length = o) (hd : 1 ≤ d) : CC l K m5_init d 2 71 [.ref (o)] (hO h 5 [.null, .null, .int 0, .int 0, .long 0] []) (fun r h1 => r = none ∧ h1 = (hO h 5 [.ref (o + 1), .ref (o + 2), .int 0, .int 0, .long 0] [.inl (0, 7, .inl (fun _ => 0)), .inl (1, 64, .inr (.inl (fun _ => 0)))])) := by
  refine CC.of ok5_init (Nat.le_of_ble_eq_true rfl) ?_
  refine g_aload_n d5_init_0 rfl ?_
  refine g_obj mw5_1 (by omega) (Nat.le_of_ble_eq_true rfl) d5_init_1 ?_
  refine g_aload_n d5_init_4 rfl ?_
  refine g_bipushv (nI 7) d5_init_5 rfl ?_
  refine g_newI (N := 7) (by decide) (by decide) (Nat.le_of_ble_eq_true rfl) d5_init_7 ?_
  refine g_oR (st := [.ref (o)]) (q := o + 1) (as2 := [.inl (0, 7, .inl (fun _ => 0))]) hn (by show _ + 1 + 0 = _; omega) rfl ?_
  refine g_oF (fs2 := [.ref (o + 1), .null, .int 0, .int 0, .long 0]) hn fl5_9 rfl rfl d5_init_9 rfl rfl rfl rfl ?_
  refine g_aload_n d5_init_12 rfl ?_
  refine g_bipushv (nI 64) d5_init_13 rfl ?_
  refine g_newL (N := 64) (by decide) (by decide) (Nat.le_of_ble_eq_true rfl) d5_init_15 ?_
  refine g_oR (st := [.ref (o)]) (q := o + 2) (as2 := [.inl (0, 7, .inl (fun _ => 0)), .inl (1, 64, .inr (.inl (fun _ => 0)))]) hn (by show _ + 1 + 1 = _; omega) rfl ?_
  refine g_oF (fs2 := [.ref (o + 1), .ref (o + 2), .int 0, .int 0, .long 0]) hn fl5_13 rfl rfl d5_init_17 rfl rfl rfl rfl ?_
  exact g_vret rfl d5_init_20 ⟨rfl, rfl⟩
set_option maxRecDepth 20000 in
set_option maxHeartbeats 1000000 in
theorem r10_init {l : Launch} {K : cK} {d : Nat}  {h : cH} {o : Nat} (hn : h.length = o) (hd : 2 ≤ d) : CC l K m10_init d 6 413 [.ref (o)] (hO h 10 [.null, .null, .null, .null, .null] []) (fun r h1 => r = none ∧ h1 = (hO h 10 [.ref (o + 1), .null, .ref (o + 4), .ref (o + 5), .ref (o + 6)] [.inr (5, [.ref (o + 1 + 1), .ref (o + 1 + 2), .int 0, .int 0, .long 0]), .inl (0, 7, .inl (fun _ => 0)), .inl (1, 64, .inr (.inl (fun _ => 0))), .inl (0, 12, .inl (fun _ => 0)), .inl (0, 156, .inl (fun _ => 0)), .inl (1, 169, .inr (.inl (fun _ => 0)))])) := by
  refine CC.of ok10_init (Nat.le_of_ble_eq_true rfl) ?_
  refine g_aload_n d10_init_0 rfl ?_
  refine g_obj mw10_3 (by omega) (Nat.le_of_ble_eq_true rfl) d10_init_1 ?_
  refine g_aload_n d10_init_4 rfl ?_
  refine g_new (N := 5) nw10_9 rfl d10_init_5 ?_
  refine g_hp (hO (hO h 10 [.null, .null, .null, .null, .null] []) 5 [.null, .null, .int 0, .int 0, .long 0] []) rfl ?_
  refine g_st (.ref (o + 1) :: [.ref (o)]) (by rw [show ((hO h 10 [.null, .null, .null, .null, .null] [])).length = o + 1 from by rw [hO_l, hn]; show _ + 1 + 0 = _; omega]) ?_
  refine g_dup d10_init_8 rfl ?_
  refine g_callN_0k (kc1 := 2) (ks1 := 71) (kc2 := 3) (ks2 := 337) (Nat.le_of_ble_eq_true rfl) (Nat.le_of_ble_eq_true rfl) im5_init mN10_11 (r5_init (h := (hO h 10 [.null, .null, .null, .null, .null] [])) (o := o + 1) (by rw [hO_l, hn]; show _ + 1 + 0 = _; omega) (Nat.le_refl 1)) (by omega) (Nat.le_of_ble_eq_true rfl) d10_init_9 (fun r h1 hx => ?_)
  obtain ⟨rfl, rfl⟩ := hx
  refine g_hp (hO h 10 [.null, .null, .null, .null, .null] [.inr (5, [.ref (o + 1 + 1), .ref (o + 1 + 2), .int 0, .int 0, .long 0]), .inl (0, 7, .inl (fun _ => 0)), .inl (1, 64, .inr (.inl (fun _ => 0)))]) hO_hO ?_
  refine g_st [.ref (o + 1), .ref (o)] rfl ?_
  refine g_oF (fs2 := [.ref (o + 1), .null, .null, .null, .null]) hn fl10_12 rfl rfl d10_init_12 rfl rfl rfl rfl ?_
  refine g_aload_n d10_init_15 rfl ?_
  refine g_bipushv (nI 12) d10_init_16 rfl ?_
  refine g_newI (N := 12) (by decide) (by decide) (Nat.le_of_ble_eq_true rfl) d10_init_18 ?_
  refine g_oR (st := [.ref (o)]) (q := o + 4) (as2 := [.inr (5, [.ref (o + 1 + 1), .ref (o + 1 + 2), .int 0, .int 0, .long 0]), .inl (0, 7, .inl (fun _ => 0)), .inl (1, 64, .inr (.inl (fun _ => 0))), .inl (0, 12, .inl (fun _ => 0))]) hn (by show _ + 1 + 3 = _; omega) rfl ?_
  refine g_oF (fs2 := [.ref (o + 1), .null, .ref (o + 4), .null, .null]) hn fl10_18 rfl rfl d10_init_20 rfl rfl rfl rfl ?_
  refine g_aload_n d10_init_23 rfl ?_
  refine g_sipushv (nI 156) d10_init_24 rfl ?_
  refine g_newI (N := 156) (by decide) (by decide) (Nat.le_of_ble_eq_true rfl) d10_init_27 ?_
  refine g_oR (st := [.ref (o)]) (q := o + 5) (as2 := [.inr (5, [.ref (o + 1 + 1), .ref (o + 1 + 2), .int 0, .int 0, .long 0]), .inl (0, 7, .inl (fun _ => 0)), .inl (1, 64, .inr (.inl (fun _ => 0))), .inl (0, 12, .inl (fun _ => 0)), .inl (0, 156, .inl (fun _ => 0))]) hn (by show _ + 1 + 4 = _; omega) rfl ?_
  refine g_oF (fs2 := [.ref (o + 1), .null, .ref (o + 4), .ref (o + 5), .null]) hn fl10_22 rfl rfl d10_init_29 rfl rfl rfl rfl ?_
  refine g_aload_n d10_init_32 rfl ?_
  refine g_sipushv (nI 169) d10_init_33 rfl ?_
  refine g_newL (N := 169) (by decide) (by decide) (Nat.le_of_ble_eq_true rfl) d10_init_36 ?_
  refine g_oR (st := [.ref (o)]) (q := o + 6) (as2 := [.inr (5, [.ref (o + 1 + 1), .ref (o + 1 + 2), .int 0, .int 0, .long 0]), .inl (0, 7, .inl (fun _ => 0)), .inl (1, 64, .inr (.inl (fun _ => 0))), .inl (0, 12, .inl (fun _ => 0)), .inl (0, 156, .inl (fun _ => 0)), .inl (1, 169, .inr (.inl (fun _ => 0)))]) hn (by show _ + 1 + 5 = _; omega) rfl ?_
  refine g_oF (fs2 := [.ref (o + 1), .null, .ref (o + 4), .ref (o + 5), .ref (o + 6)]) hn fl10_25 rfl rfl d10_init_38 rfl rfl rfl rfl ?_
  exact g_vret rfl d10_init_41 ⟨rfl, rfl⟩
set_option maxRecDepth 20000 in
set_option maxHeartbeats 1000000 in
theorem r7_init {l : Launch} {K : cK} {d : Nat}  {h : cH} {o : Nat} (hn : h.length = o) (hd : 1 ≤ d) : CC l K m7_init d 0 0 [.ref (o)] (hO h 7 [.int 0, .int 0, .int 0, .int 0, .int 0, .int 0, .int 0, .int 0] []) (fun r h1 => r = none ∧ h1 = (hO h 7 [.int 0, .int 0, .int 0, .int 0, .int 0, .int 0, .int 0, .int 0] [])) := by
  refine CC.of ok7_init (Nat.le_of_ble_eq_true rfl) ?_
  refine g_aload_n d7_init_0 rfl ?_
  refine g_obj mw7_3 (by omega) (Nat.le_of_ble_eq_true rfl) d7_init_1 ?_
  exact g_vret rfl d7_init_4 ⟨rfl, rfl⟩
set_option maxRecDepth 20000 in
set_option maxHeartbeats 1000000 in
theorem r0_init {l : Launch} {K : cK} {d : Nat} {a0 a1 : Nat} {h : cH} {o : Nat} (hn : h.length = o) (hd : 2 ≤ d) : CC l K m0_init d 9 765 [.ref (o), .ref a0, .ref a1] (hO h 0 [.null, .null, .null, .null, .null, .null, .null, .null, .null] []) (fun r h1 => r = none ∧ h1 = (hO h 0 [.ref (a0), .ref (a1), .ref (o + 1), .ref (o + 4), .ref (o + 5), .ref (o + 6), .ref (o + 7), .ref (o + 8), .ref (o + 9)] [.inr (5, [.ref (o + 1 + 1), .ref (o + 1 + 2), .int 0, .int 0, .long 0]), .inl (0, 7, .inl (fun _ => 0)), .inl (1, 64, .inr (.inl (fun _ => 0))), .inl (1, 13, .inr (.inl (fun _ => 0))), .inl (1, 13, .inr (.inl (fun _ => 0))), .inl (1, 169, .inr (.inl (fun _ => 0))), .inl (0, 156, .inl (fun _ => 0)), .inl (1, 169, .inr (.inl (fun _ => 0))), .inl (1, 169, .inr (.inl (fun _ => 0)))])) := by
  refine CC.of ok0_init (Nat.le_of_ble_eq_true rfl) ?_
  refine g_aload_n d0_init_0 rfl ?_
  refine g_obj mw0_3 (by omega) (Nat.le_of_ble_eq_true rfl) d0_init_1 ?_
  refine g_aload_n d0_init_4 rfl ?_
  refine g_new (N := 5) nw0_9 rfl d0_init_5 ?_
  refine g_hp (hO (hO h 0 [.null, .null, .null, .null, .null, .null, .null, .null, .null] []) 5 [.null, .null, .int 0, .int 0, .long 0] []) rfl ?_
  refine g_st (.ref (o + 1) :: [.ref (o)]) (by rw [show ((hO h 0 [.null, .null, .null, .null, .null, .null, .null, .null, .null] [])).length = o + 1 from by rw [hO_l, hn]; show _ + 1 + 0 = _; omega]) ?_
  refine g_dup d0_init_8 rfl ?_
  refine g_callN_0k (kc1 := 2) (ks1 := 71) (kc2 := 6) (ks2 := 689) (Nat.le_of_ble_eq_true rfl) (Nat.le_of_ble_eq_true rfl) im5_init mN0_11 (r5_init (h := (hO h 0 [.null, .null, .null, .null, .null, .null, .null, .null, .null] [])) (o := o + 1) (by rw [hO_l, hn]; show _ + 1 + 0 = _; omega) (Nat.le_refl 1)) (by omega) (Nat.le_of_ble_eq_true rfl) d0_init_9 (fun r h1 hx => ?_)
  obtain ⟨rfl, rfl⟩ := hx
  refine g_hp (hO h 0 [.null, .null, .null, .null, .null, .null, .null, .null, .null] [.inr (5, [.ref (o + 1 + 1), .ref (o + 1 + 2), .int 0, .int 0, .long 0]), .inl (0, 7, .inl (fun _ => 0)), .inl (1, 64, .inr (.inl (fun _ => 0)))]) hO_hO ?_
  refine g_st [.ref (o + 1), .ref (o)] rfl ?_
  refine g_oF (fs2 := [.null, .null, .ref (o + 1), .null, .null, .null, .null, .null, .null]) hn fl0_12 rfl rfl d0_init_12 rfl rfl rfl rfl ?_
  refine g_aload_n d0_init_15 rfl ?_
  refine g_bipushv (nI 13) d0_init_16 rfl ?_
  refine g_newL (N := 13) (by decide) (by decide) (Nat.le_of_ble_eq_true rfl) d0_init_18 ?_
  refine g_oR (st := [.ref (o)]) (q := o + 4) (as2 := [.inr (5, [.ref (o + 1 + 1), .ref (o + 1 + 2), .int 0, .int 0, .long 0]), .inl (0, 7, .inl (fun _ => 0)), .inl (1, 64, .inr (.inl (fun _ => 0))), .inl (1, 13, .inr (.inl (fun _ => 0)))]) hn (by show _ + 1 + 3 = _; omega) rfl ?_
  refine g_oF (fs2 := [.null, .null, .ref (o + 1), .ref (o + 4), .null, .null, .null, .null, .null]) hn fl0_18 rfl rfl d0_init_20 rfl rfl rfl rfl ?_
  refine g_aload_n d0_init_23 rfl ?_
  refine g_bipushv (nI 13) d0_init_24 rfl ?_
  refine g_newL (N := 13) (by decide) (by decide) (Nat.le_of_ble_eq_true rfl) d0_init_26 ?_
  refine g_oR (st := [.ref (o)]) (q := o + 5) (as2 := [.inr (5, [.ref (o + 1 + 1), .ref (o + 1 + 2), .int 0, .int 0, .long 0]), .inl (0, 7, .inl (fun _ => 0)), .inl (1, 64, .inr (.inl (fun _ => 0))), .inl (1, 13, .inr (.inl (fun _ => 0))), .inl (1, 13, .inr (.inl (fun _ => 0)))]) hn (by show _ + 1 + 4 = _; omega) rfl ?_
  refine g_oF (fs2 := [.null, .null, .ref (o + 1), .ref (o + 4), .ref (o + 5), .null, .null, .null, .null]) hn fl0_22 rfl rfl d0_init_28 rfl rfl rfl rfl ?_
  refine g_aload_n d0_init_31 rfl ?_
  refine g_sipushv (nI 169) d0_init_32 rfl ?_
  refine g_newL (N := 169) (by decide) (by decide) (Nat.le_of_ble_eq_true rfl) d0_init_35 ?_
  refine g_oR (st := [.ref (o)]) (q := o + 6) (as2 := [.inr (5, [.ref (o + 1 + 1), .ref (o + 1 + 2), .int 0, .int 0, .long 0]), .inl (0, 7, .inl (fun _ => 0)), .inl (1, 64, .inr (.inl (fun _ => 0))), .inl (1, 13, .inr (.inl (fun _ => 0))), .inl (1, 13, .inr (.inl (fun _ => 0))), .inl (1, 169, .inr (.inl (fun _ => 0)))]) hn (by show _ + 1 + 5 = _; omega) rfl ?_
  refine g_oF (fs2 := [.null, .null, .ref (o + 1), .ref (o + 4), .ref (o + 5), .ref (o + 6), .null, .null, .null]) hn fl0_25 rfl rfl d0_init_37 rfl rfl rfl rfl ?_
  refine g_aload_n d0_init_40 rfl ?_
  refine g_sipushv (nI 156) d0_init_41 rfl ?_
  refine g_newI (N := 156) (by decide) (by decide) (Nat.le_of_ble_eq_true rfl) d0_init_44 ?_
  refine g_oR (st := [.ref (o)]) (q := o + 7) (as2 := [.inr (5, [.ref (o + 1 + 1), .ref (o + 1 + 2), .int 0, .int 0, .long 0]), .inl (0, 7, .inl (fun _ => 0)), .inl (1, 64, .inr (.inl (fun _ => 0))), .inl (1, 13, .inr (.inl (fun _ => 0))), .inl (1, 13, .inr (.inl (fun _ => 0))), .inl (1, 169, .inr (.inl (fun _ => 0))), .inl (0, 156, .inl (fun _ => 0))]) hn (by show _ + 1 + 6 = _; omega) rfl ?_
  refine g_oF (fs2 := [.null, .null, .ref (o + 1), .ref (o + 4), .ref (o + 5), .ref (o + 6), .ref (o + 7), .null, .null]) hn fl0_28 rfl rfl d0_init_46 rfl rfl rfl rfl ?_
  refine g_aload_n d0_init_49 rfl ?_
  refine g_sipushv (nI 169) d0_init_50 rfl ?_
  refine g_newL (N := 169) (by decide) (by decide) (Nat.le_of_ble_eq_true rfl) d0_init_53 ?_
  refine g_oR (st := [.ref (o)]) (q := o + 8) (as2 := [.inr (5, [.ref (o + 1 + 1), .ref (o + 1 + 2), .int 0, .int 0, .long 0]), .inl (0, 7, .inl (fun _ => 0)), .inl (1, 64, .inr (.inl (fun _ => 0))), .inl (1, 13, .inr (.inl (fun _ => 0))), .inl (1, 13, .inr (.inl (fun _ => 0))), .inl (1, 169, .inr (.inl (fun _ => 0))), .inl (0, 156, .inl (fun _ => 0)), .inl (1, 169, .inr (.inl (fun _ => 0)))]) hn (by show _ + 1 + 7 = _; omega) rfl ?_
  refine g_oF (fs2 := [.null, .null, .ref (o + 1), .ref (o + 4), .ref (o + 5), .ref (o + 6), .ref (o + 7), .ref (o + 8), .null]) hn fl0_32 rfl rfl d0_init_55 rfl rfl rfl rfl ?_
  refine g_aload_n d0_init_58 rfl ?_
  refine g_sipushv (nI 169) d0_init_59 rfl ?_
  refine g_newL (N := 169) (by decide) (by decide) (Nat.le_of_ble_eq_true rfl) d0_init_62 ?_
  refine g_oR (st := [.ref (o)]) (q := o + 9) (as2 := [.inr (5, [.ref (o + 1 + 1), .ref (o + 1 + 2), .int 0, .int 0, .long 0]), .inl (0, 7, .inl (fun _ => 0)), .inl (1, 64, .inr (.inl (fun _ => 0))), .inl (1, 13, .inr (.inl (fun _ => 0))), .inl (1, 13, .inr (.inl (fun _ => 0))), .inl (1, 169, .inr (.inl (fun _ => 0))), .inl (0, 156, .inl (fun _ => 0)), .inl (1, 169, .inr (.inl (fun _ => 0))), .inl (1, 169, .inr (.inl (fun _ => 0)))]) hn (by show _ + 1 + 8 = _; omega) rfl ?_
  refine g_oF (fs2 := [.null, .null, .ref (o + 1), .ref (o + 4), .ref (o + 5), .ref (o + 6), .ref (o + 7), .ref (o + 8), .ref (o + 9)]) hn fl0_35 rfl rfl d0_init_64 rfl rfl rfl rfl ?_
  refine g_aload_n d0_init_67 rfl ?_
  refine g_aload_n d0_init_68 rfl ?_
  refine g_oF (fs2 := [.ref (a0), .null, .ref (o + 1), .ref (o + 4), .ref (o + 5), .ref (o + 6), .ref (o + 7), .ref (o + 8), .ref (o + 9)]) hn fl0_38 rfl rfl d0_init_69 rfl rfl rfl rfl ?_
  refine g_aload_n d0_init_72 rfl ?_
  refine g_aload_n d0_init_73 rfl ?_
  refine g_oF (fs2 := [.ref (a0), .ref (a1), .ref (o + 1), .ref (o + 4), .ref (o + 5), .ref (o + 6), .ref (o + 7), .ref (o + 8), .ref (o + 9)]) hn fl0_42 rfl rfl d0_init_74 rfl rfl rfl rfl ?_
  exact g_vret rfl d0_init_77 ⟨rfl, rfl⟩
set_option maxRecDepth 20000 in
set_option maxHeartbeats 1000000 in
theorem r3_init {l : Launch} {K : cK} {d : Nat} {a0 a1 : Nat} {h : cH} {o : Nat} (hn : h.length = o) (hd : 1 ≤ d) : CC l K m3_init d 4 364 [.ref (o), .ref a0, .ref a1] (hO h 3 [.null, .null, .null, .null, .null, .null, .int 0, .int 0] []) (fun r h1 => r = none ∧ h1 = (hO h 3 [.ref (a0), .ref (a1), .ref (o + 1), .ref (o + 2), .ref (o + 3), .ref (o + 4), .int 0, .int 0] [.inl (0, 13, .inl (fun _ => 0)), .inl (0, 13, .inl (fun _ => 0)), .inl (1, 169, .inr (.inl (fun _ => 0))), .inl (1, 169, .inr (.inl (fun _ => 0)))])) := by
  refine CC.of ok3_init (Nat.le_of_ble_eq_true rfl) ?_
  refine g_aload_n d3_init_0 rfl ?_
  refine g_obj mw3_3 (by omega) (Nat.le_of_ble_eq_true rfl) d3_init_1 ?_
  refine g_aload_n d3_init_4 rfl ?_
  refine g_bipushv (nI 13) d3_init_5 rfl ?_
  refine g_newI (N := 13) (by decide) (by decide) (Nat.le_of_ble_eq_true rfl) d3_init_7 ?_
  refine g_oR (st := [.ref (o)]) (q := o + 1) (as2 := [.inl (0, 13, .inl (fun _ => 0))]) hn (by show _ + 1 + 0 = _; omega) rfl ?_
  refine g_oF (fs2 := [.null, .null, .ref (o + 1), .null, .null, .null, .int 0, .int 0]) hn fl3_9 rfl rfl d3_init_9 rfl rfl rfl rfl ?_
  refine g_aload_n d3_init_12 rfl ?_
  refine g_bipushv (nI 13) d3_init_13 rfl ?_
  refine g_newI (N := 13) (by decide) (by decide) (Nat.le_of_ble_eq_true rfl) d3_init_15 ?_
  refine g_oR (st := [.ref (o)]) (q := o + 2) (as2 := [.inl (0, 13, .inl (fun _ => 0)), .inl (0, 13, .inl (fun _ => 0))]) hn (by show _ + 1 + 1 = _; omega) rfl ?_
  refine g_oF (fs2 := [.null, .null, .ref (o + 1), .ref (o + 2), .null, .null, .int 0, .int 0]) hn fl3_15 rfl rfl d3_init_17 rfl rfl rfl rfl ?_
  refine g_aload_n d3_init_20 rfl ?_
  refine g_sipushv (nI 169) d3_init_21 rfl ?_
  refine g_newL (N := 169) (by decide) (by decide) (Nat.le_of_ble_eq_true rfl) d3_init_24 ?_
  refine g_oR (st := [.ref (o)]) (q := o + 3) (as2 := [.inl (0, 13, .inl (fun _ => 0)), .inl (0, 13, .inl (fun _ => 0)), .inl (1, 169, .inr (.inl (fun _ => 0)))]) hn (by show _ + 1 + 2 = _; omega) rfl ?_
  refine g_oF (fs2 := [.null, .null, .ref (o + 1), .ref (o + 2), .ref (o + 3), .null, .int 0, .int 0]) hn fl3_18 rfl rfl d3_init_26 rfl rfl rfl rfl ?_
  refine g_aload_n d3_init_29 rfl ?_
  refine g_sipushv (nI 169) d3_init_30 rfl ?_
  refine g_newL (N := 169) (by decide) (by decide) (Nat.le_of_ble_eq_true rfl) d3_init_33 ?_
  refine g_oR (st := [.ref (o)]) (q := o + 4) (as2 := [.inl (0, 13, .inl (fun _ => 0)), .inl (0, 13, .inl (fun _ => 0)), .inl (1, 169, .inr (.inl (fun _ => 0))), .inl (1, 169, .inr (.inl (fun _ => 0)))]) hn (by show _ + 1 + 3 = _; omega) rfl ?_
  refine g_oF (fs2 := [.null, .null, .ref (o + 1), .ref (o + 2), .ref (o + 3), .ref (o + 4), .int 0, .int 0]) hn fl3_22 rfl rfl d3_init_35 rfl rfl rfl rfl ?_
  refine g_aload_n d3_init_38 rfl ?_
  refine g_aload_n d3_init_39 rfl ?_
  refine g_oF (fs2 := [.ref (a0), .null, .ref (o + 1), .ref (o + 2), .ref (o + 3), .ref (o + 4), .int 0, .int 0]) hn fl3_25 rfl rfl d3_init_40 rfl rfl rfl rfl ?_
  refine g_aload_n d3_init_43 rfl ?_
  refine g_aload_n d3_init_44 rfl ?_
  refine g_oF (fs2 := [.ref (a0), .ref (a1), .ref (o + 1), .ref (o + 2), .ref (o + 3), .ref (o + 4), .int 0, .int 0]) hn fl3_29 rfl rfl d3_init_45 rfl rfl rfl rfl ?_
  exact g_vret rfl d3_init_48 ⟨rfl, rfl⟩
set_option maxRecDepth 20000 in
set_option maxHeartbeats 1000000 in
theorem r1_init {l : Launch} {K : cK} {d : Nat} {a0 a1 a2 : Nat} {h : cH} {o : Nat} (hn : h.length = o) (hd : 1 ≤ d) : CC l K m1_init d 6 42 [.ref (o), .ref a0, .ref a1, .ref a2] (hO h 1 [.null, .null, .null, .int 0, .int 0, .null, .null, .null, .null, .null, .null] []) (fun r h1 => r = none ∧ h1 = (hO h 1 [.ref (a0), .ref (a1), .ref (a2), .int 0, .int 0, .ref (o + 1), .ref (o + 2), .ref (o + 3), .ref (o + 4), .ref (o + 5), .ref (o + 6)] [.inl (0, 12, .inl (fun _ => 0)), .inl (0, 6, .inl (fun _ => 0)), .inl (0, 6, .inl (fun _ => 0)), .inl (0, 6, .inl (fun _ => 0)), .inl (0, 6, .inl (fun _ => 0)), .inl (0, 6, .inl (fun _ => 0))])) := by
  refine CC.of ok1_init (Nat.le_of_ble_eq_true rfl) ?_
  refine g_aload_n d1_init_0 rfl ?_
  refine g_obj mw1_3 (by omega) (Nat.le_of_ble_eq_true rfl) d1_init_1 ?_
  refine g_aload_n d1_init_4 rfl ?_
  refine g_bipushv (nI 12) d1_init_5 rfl ?_
  refine g_newI (N := 12) (by decide) (by decide) (Nat.le_of_ble_eq_true rfl) d1_init_7 ?_
  refine g_oR (st := [.ref (o)]) (q := o + 1) (as2 := [.inl (0, 12, .inl (fun _ => 0))]) hn (by show _ + 1 + 0 = _; omega) rfl ?_
  refine g_oF (fs2 := [.null, .null, .null, .int 0, .int 0, .ref (o + 1), .null, .null, .null, .null, .null]) hn fl1_9 rfl rfl d1_init_9 rfl rfl rfl rfl ?_
  refine g_aload_n d1_init_12 rfl ?_
  refine g_bipushv (nI 6) d1_init_13 rfl ?_
  refine g_newI (N := 6) (by decide) (by decide) (Nat.le_of_ble_eq_true rfl) d1_init_15 ?_
  refine g_oR (st := [.ref (o)]) (q := o + 2) (as2 := [.inl (0, 12, .inl (fun _ => 0)), .inl (0, 6, .inl (fun _ => 0))]) hn (by show _ + 1 + 1 = _; omega) rfl ?_
  refine g_oF (fs2 := [.null, .null, .null, .int 0, .int 0, .ref (o + 1), .ref (o + 2), .null, .null, .null, .null]) hn fl1_15 rfl rfl d1_init_17 rfl rfl rfl rfl ?_
  refine g_aload_n d1_init_20 rfl ?_
  refine g_bipushv (nI 6) d1_init_21 rfl ?_
  refine g_newI (N := 6) (by decide) (by decide) (Nat.le_of_ble_eq_true rfl) d1_init_23 ?_
  refine g_oR (st := [.ref (o)]) (q := o + 3) (as2 := [.inl (0, 12, .inl (fun _ => 0)), .inl (0, 6, .inl (fun _ => 0)), .inl (0, 6, .inl (fun _ => 0))]) hn (by show _ + 1 + 2 = _; omega) rfl ?_
  refine g_oF (fs2 := [.null, .null, .null, .int 0, .int 0, .ref (o + 1), .ref (o + 2), .ref (o + 3), .null, .null, .null]) hn fl1_18 rfl rfl d1_init_25 rfl rfl rfl rfl ?_
  refine g_aload_n d1_init_28 rfl ?_
  refine g_bipushv (nI 6) d1_init_29 rfl ?_
  refine g_newI (N := 6) (by decide) (by decide) (Nat.le_of_ble_eq_true rfl) d1_init_31 ?_
  refine g_oR (st := [.ref (o)]) (q := o + 4) (as2 := [.inl (0, 12, .inl (fun _ => 0)), .inl (0, 6, .inl (fun _ => 0)), .inl (0, 6, .inl (fun _ => 0)), .inl (0, 6, .inl (fun _ => 0))]) hn (by show _ + 1 + 3 = _; omega) rfl ?_
  refine g_oF (fs2 := [.null, .null, .null, .int 0, .int 0, .ref (o + 1), .ref (o + 2), .ref (o + 3), .ref (o + 4), .null, .null]) hn fl1_21 rfl rfl d1_init_33 rfl rfl rfl rfl ?_
  refine g_aload_n d1_init_36 rfl ?_
  refine g_bipushv (nI 6) d1_init_37 rfl ?_
  refine g_newI (N := 6) (by decide) (by decide) (Nat.le_of_ble_eq_true rfl) d1_init_39 ?_
  refine g_oR (st := [.ref (o)]) (q := o + 5) (as2 := [.inl (0, 12, .inl (fun _ => 0)), .inl (0, 6, .inl (fun _ => 0)), .inl (0, 6, .inl (fun _ => 0)), .inl (0, 6, .inl (fun _ => 0)), .inl (0, 6, .inl (fun _ => 0))]) hn (by show _ + 1 + 4 = _; omega) rfl ?_
  refine g_oF (fs2 := [.null, .null, .null, .int 0, .int 0, .ref (o + 1), .ref (o + 2), .ref (o + 3), .ref (o + 4), .ref (o + 5), .null]) hn fl1_24 rfl rfl d1_init_41 rfl rfl rfl rfl ?_
  refine g_aload_n d1_init_44 rfl ?_
  refine g_bipushv (nI 6) d1_init_45 rfl ?_
  refine g_newI (N := 6) (by decide) (by decide) (Nat.le_of_ble_eq_true rfl) d1_init_47 ?_
  refine g_oR (st := [.ref (o)]) (q := o + 6) (as2 := [.inl (0, 12, .inl (fun _ => 0)), .inl (0, 6, .inl (fun _ => 0)), .inl (0, 6, .inl (fun _ => 0)), .inl (0, 6, .inl (fun _ => 0)), .inl (0, 6, .inl (fun _ => 0)), .inl (0, 6, .inl (fun _ => 0))]) hn (by show _ + 1 + 5 = _; omega) rfl ?_
  refine g_oF (fs2 := [.null, .null, .null, .int 0, .int 0, .ref (o + 1), .ref (o + 2), .ref (o + 3), .ref (o + 4), .ref (o + 5), .ref (o + 6)]) hn fl1_27 rfl rfl d1_init_49 rfl rfl rfl rfl ?_
  refine g_aload_n d1_init_52 rfl ?_
  refine g_aload_n d1_init_53 rfl ?_
  refine g_oF (fs2 := [.ref (a0), .null, .null, .int 0, .int 0, .ref (o + 1), .ref (o + 2), .ref (o + 3), .ref (o + 4), .ref (o + 5), .ref (o + 6)]) hn fl1_30 rfl rfl d1_init_54 rfl rfl rfl rfl ?_
  refine g_aload_n d1_init_57 rfl ?_
  refine g_aload_n d1_init_58 rfl ?_
  refine g_oF (fs2 := [.ref (a0), .ref (a1), .null, .int 0, .int 0, .ref (o + 1), .ref (o + 2), .ref (o + 3), .ref (o + 4), .ref (o + 5), .ref (o + 6)]) hn fl1_34 rfl rfl d1_init_59 rfl rfl rfl rfl ?_
  refine g_aload_n d1_init_62 rfl ?_
  refine g_aload_n d1_init_63 rfl ?_
  refine g_oF (fs2 := [.ref (a0), .ref (a1), .ref (a2), .int 0, .int 0, .ref (o + 1), .ref (o + 2), .ref (o + 3), .ref (o + 4), .ref (o + 5), .ref (o + 6)]) hn fl1_38 rfl rfl d1_init_64 rfl rfl rfl rfl ?_
  exact g_vret rfl d1_init_67 ⟨rfl, rfl⟩
set_option maxRecDepth 20000 in
set_option maxHeartbeats 1000000 in
theorem r2_init {l : Launch} {K : cK} {d : Nat}  {h : cH} {o : Nat} (hn : h.length = o) (hd : 1 ≤ d) : CC l K m2_init d 1 6 [.ref (o)] (hO h 2 [.long 0, .long 0, .null] []) (fun r h1 => r = none ∧ h1 = (hO h 2 [.long 0, .long 0, .ref (o + 1)] [.inl (2, 6, .inl (fun _ => 0))])) := by
  refine CC.of ok2_init (Nat.le_of_ble_eq_true rfl) ?_
  refine g_aload_n d2_init_0 rfl ?_
  refine g_obj mw2_3 (by omega) (Nat.le_of_ble_eq_true rfl) d2_init_1 ?_
  refine g_aload_n d2_init_4 rfl ?_
  refine g_bipushv (nI 6) d2_init_5 rfl ?_
  refine g_newZ (N := 6) (by decide) (by decide) (Nat.le_of_ble_eq_true rfl) d2_init_7 ?_
  refine g_oR (st := [.ref (o)]) (q := o + 1) (as2 := [.inl (2, 6, .inl (fun _ => 0))]) hn (by show _ + 1 + 0 = _; omega) rfl ?_
  refine g_oF (fs2 := [.long 0, .long 0, .ref (o + 1)]) hn fl2_9 rfl rfl d2_init_9 rfl rfl rfl rfl ?_
  exact g_vret rfl d2_init_12 ⟨rfl, rfl⟩
