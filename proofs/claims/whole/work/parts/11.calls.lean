section RV
variable {l : Launch} {K : cK} {M : MI} {d kc ks pc n : Nat} {lo : List (Nat × Value)} {st : List Value} {h : cH} {Q : Option Value → cH → Prop}
theorem g_new {ix ci N : Nat} {fs : List Value} (hw : nw M.1.cls ix ci N fs) (hcv : fs.map (cv K) = fs) (hd : dc M pc (.new ix) 3 n) (kk : GL l K M d kc ks n lo (.ref h.length :: st) (h ++ [.inr (ci, fs)]) Q) : GL l K M d (kc + 1) (ks + N) pc lo st h Q := by
  intro p e R s m args below meth c H locs cells slots mc ms ls hB h1 h2 h3 h4 h5 h6 h7 h8 h9 h10
  obtain ⟨hdg, rfl⟩ := hd
  obtain ⟨C, T, hc, w1, w2, w3, hfs⟩ := hw
  have hts := hB.2.2.2.2.2.1
  have hK := hB.2.2.2.2.2.2.2.2.1.1
  obtain ⟨hin, hnm, ty0, hty0⟩ := cl_ok hc
  have hKn := hK.1 ci _ hc
  refine W.newcK hB.1 hB.2.1 hB.2.2.2.2.1 (hts _ w1) (hts _ w2) (hts _ w3) rfl hdg (by omega) (by omega) hKn.2.1 h7.1 fun H1 kC hkC e1 z1 o1 => ?_
  refine kk p e R s m args below meth c H1 locs (cells + 1) (slots + N) mc ms ls hB h1 h2 h3 h4 (by omega) (by omega) (cR_push h7 (by rw [z1, h7.1]) (fun q hq => o1 q (by rw [h7.1] at hq; exact hq)) ?_) (by rw [z1, ← h7.1]; omega) h9 h10
  refine ⟨_, hc, (u_born ty0 hts hin hKn hkC e1 hty0).to (fun j hj => ?_)⟩
  have g1 := hfs j hj
  have g2 := hty0 j hj
  rw [g2] at g1
  show defaultValue (ty0 j) = vp_V (fs.map (cv K)) j
  rw [hcv]
  exact Option.some.inj g1
/-- new arrays -/
theorem g_newI {x : Int32} {N : Nat} (hx : ¬ x < 0) (hN : x.toNatClampNeg = N) (hb : N * 4 ≤ 536870912) (hd : dc M pc (.newarray .int) 2 n) (kk : GL l K M d kc ks n lo (.ref h.length :: st) (h ++ [.inl (0, N, .inl (fun _ => 0))]) Q) : GL l K M d (kc + 1) (ks + N) pc lo (.int x :: st) h Q := by
  intro p e R s m args below meth c H locs cells slots mc ms ls hB h1 h2 h3 h4 h5 h6 h7 h8 h9 h10
  obtain ⟨hdg, rfl⟩ := hd
  have hts := hB.2.2.2.2.2.1
  have hK := hB.2.2.2.2.2.2.2.2.1.1
  refine va_newaK (atype := .int) hB.1 hB.2.1 (hts (.arrayClass .int) (tg_at 108 (by decide +kernel) rfl)) rfl hdg rfl hx hN hb (by omega) (by omega) h7.1 fun H1 cA e1 z1 o1 g1 g2 => ?_
  have g3 : cA = K.2.2.2.1 0 := Option.some.inj (g2.symm.trans (hK.2 0 _ rfl).2)
  subst g3
  exact kk p e R s m args below meth c H1 locs (cells + 1) (slots + N) mc ms ls hB h1 h2 h3 h4 (by omega) (by omega) (cR_push h7 (by rw [z1, h7.1]) (fun q hq => o1 q (by rw [h7.1] at hq; exact hq)) e1) (by rw [z1, ← h7.1]; omega) h9 h10
theorem g_newZ {x : Int32} {N : Nat} (hx : ¬ x < 0) (hN : x.toNatClampNeg = N) (hb : N * 1 ≤ 536870912) (hd : dc M pc (.newarray .boolean) 2 n) (kk : GL l K M d kc ks n lo (.ref h.length :: st) (h ++ [.inl (2, N, .inl (fun _ => 0))]) Q) : GL l K M d (kc + 1) (ks + N) pc lo (.int x :: st) h Q := by
  intro p e R s m args below meth c H locs cells slots mc ms ls hB h1 h2 h3 h4 h5 h6 h7 h8 h9 h10
  obtain ⟨hdg, rfl⟩ := hd
  have hts := hB.2.2.2.2.2.1
  have hK := hB.2.2.2.2.2.2.2.2.1.1
  refine va_newaK (atype := .boolean) hB.1 hB.2.1 (hts (.arrayClass .boolean) (tg_at 140 (by decide +kernel) rfl)) rfl hdg rfl hx hN hb (by omega) (by omega) h7.1 fun H1 cA e1 z1 o1 g1 g2 => ?_
  have g3 : cA = K.2.2.2.1 2 := Option.some.inj (g2.symm.trans (hK.2 2 _ rfl).2)
  subst g3
  exact kk p e R s m args below meth c H1 locs (cells + 1) (slots + N) mc ms ls hB h1 h2 h3 h4 (by omega) (by omega) (cR_push h7 (by rw [z1, h7.1]) (fun q hq => o1 q (by rw [h7.1] at hq; exact hq)) e1) (by rw [z1, ← h7.1]; omega) h9 h10
theorem g_newL {x : Int32} {N : Nat} (hx : ¬ x < 0) (hN : x.toNatClampNeg = N) (hb : N * 8 ≤ 536870912) (hd : dc M pc (.newarray .long) 2 n) (kk : GL l K M d kc ks n lo (.ref h.length :: st) (h ++ [.inl (1, N, .inr (.inl (fun _ => 0)))]) Q) : GL l K M d (kc + 1) (ks + N) pc lo (.int x :: st) h Q := by
  intro p e R s m args below meth c H locs cells slots mc ms ls hB h1 h2 h3 h4 h5 h6 h7 h8 h9 h10
  obtain ⟨hdg, rfl⟩ := hd
  have hts := hB.2.2.2.2.2.1
  have hK := hB.2.2.2.2.2.2.2.2.1.1
  refine va_newaK (atype := .long) hB.1 hB.2.1 (hts (.arrayClass .long) (tg_at 226 (by decide +kernel) rfl)) rfl hdg rfl hx hN hb (by omega) (by omega) h7.1 fun H1 cA e1 z1 o1 g1 g2 => ?_
  have g3 : cA = K.2.2.2.1 1 := Option.some.inj (g2.symm.trans (hK.2 1 _ rfl).2)
  subst g3
  exact kk p e R s m args below meth c H1 locs (cells + 1) (slots + N) mc ms ls hB h1 h2 h3 h4 (by omega) (by omega) (cR_push h7 (by rw [z1, h7.1]) (fun q hq => o1 q (by rw [h7.1] at hq; exact hq)) e1) (by rw [z1, ← h7.1]; omega) h9 h10
theorem g_newR {x : Int32} {N ix : Nat} (t : Nat) (C : String) (hC : (t = 3 ∧ C = "CoinsWarden$Text") ∨ (t = 4 ∧ C = "CoinsWarden$State")) (hw : Cond.classLink M.1.cls ix C ∈ tblG) (hx : ¬ x < 0) (hN : x.toNatClampNeg = N) (hb : N * 4 ≤ 536870912) (hd : dc M pc (.anewarray ix) 3 n) (kk : GL l K M d kc ks n lo (.ref h.length :: st) (h ++ [.inl (t, N, .inr (.inr (.inr (.inr (fun _ => none)))))]) Q) : GL l K M d (kc + 1) (ks + N) pc lo (.int x :: st) h Q := by
  intro p e R s m args below meth c H locs cells slots mc ms ls hB h1 h2 h3 h4 h5 h6 h7 h8 h9 h10
  obtain ⟨hdg, rfl⟩ := hd
  have hts := hB.2.2.2.2.2.1
  have hU := hB.2.2.2.2.2.2.2.2.1
  have hAO : va_AO C s := by
    rcases hC with ⟨-, rfl⟩ | ⟨-, rfl⟩
    · exact hU.2.1.2.1
    · exact hU.2.1.2.2.1
  have hcA : s.vm.findClass ("[" ++ (FieldType.object C).toString) = some (K.2.2.2.1 t) := by
    rcases hC with ⟨rfl, rfl⟩ | ⟨rfl, rfl⟩
    · obtain ⟨kA, comp, -, -, -, g⟩ := (hU.1.2 3 _ rfl).2
      exact g
    · obtain ⟨kA, comp, -, -, -, g⟩ := (hU.1.2 4 _ rfl).2
      exact g
  subst hN
  refine W.anew hB.1 hB.2.1 hB.2.2.2.2.1 (hts _ hw) (va_AO.use hAO) rfl hdg rfl hx hb (by omega) (by omega) fun cA kA comp f1 f2 f3 f4 => ?_
  have g3 : cA = K.2.2.2.1 t := Option.some.inj (f1.symm.trans hcA)
  subst g3
  generalize hH1 : H.push ({ cls := K.2.2.2.1 t, slots := Array.replicate x.toNatClampNeg .null, vm := .none } : Cell) = H1
  have z1 : H1.size = H.size + 1 := by rw [← hH1, Array.size_push]
  have e1 : H1[H.size]? = some (arrV (K.2.2.2.1 t) x.toNatClampNeg (fun _ => .null)) := by rw [← hH1, Array.getElem?_push_size, ← arrV_new]
  have o1 : ∀ q : Nat, q < H.size → H1[q]? = H[q]? := fun q hq => by rw [← hH1, Array.getElem?_push, if_neg (Nat.ne_of_lt hq)]
  have e2 : Value.ref H.size = cv K (.ref h.length) := by rw [h7.1]; rfl
  rw [e2]
  exact kk p e R s m args below meth c H1 locs (cells + 1) (slots + x.toNatClampNeg) mc ms ls hB h1 h2 h3 h4 (by omega) (by omega) (cR_push h7 z1 o1 (by rw [← h7.1]; exact e1)) (by rw [z1]; omega) h9 h10
/-- an object into an array of its class -/
theorem g_aast {k n0 x ci : Nat} {f : Nat → Option Nat} {i : Int32} {vs : List Value} (t : Nat) (C : String) (hC : (t = 3 ∧ C = "CoinsWarden$Text") ∨ (t = 4 ∧ C = "CoinsWarden$State")) (hcn : (classes[ci]?).map (fun r => r.1) = some C) (hd : dc M pc .aastore 1 n) (ha : aR h k t = some (n0, f)) (hv : h[x]? = some (.inr (ci, vs))) (hin : vp_in i n0) (kk : GL l K M d kc ks n lo st (h.set k (.inl (t, n0, .inr (.inr (.inr (.inr (va_up f i.toNatClampNeg (some x)))))))) Q) : GL l K M d kc ks pc lo (.ref x :: .int i :: .ref k :: st) h Q := by
  intro p e R s m args below meth c H locs cells slots mc ms ls hB h1 h2 h3 h4 h5 h6 h7 h8 h9 h10
  obtain ⟨hdg, rfl⟩ := hd
  have hK := hB.2.2.2.2.2.2.2.2.1.1
  have he := wl_at (K := K) (aR_of ha)
  cases hc : classes[ci]? with
  | none => rw [hc] at hcn; cases hcn
  | some r =>
    rw [hc] at hcn
    have hr : r.1 = C := Option.some.inj hcn
    have hlt : i.toNatClampNeg < n0 := Nat.not_le.mp fun q => hin (Or.inr q)
    have h0 : ¬ i < 0 := fun q => hin (Or.inl q)
    obtain ⟨r', hr', cellV, g1, g2, g3, -⟩ := h7.2.1 x _ (wl_at hv)
    have hcls := (hK.1 ci r hc).2
    have hRA : va_RA s (K.2.2.2.1 t) (.object r.1) := by
      rw [hr]
      rcases hC with ⟨rfl, rfl⟩ | ⟨rfl, rfl⟩
      · exact (hK.2 3 _ rfl).2
      · exact (hK.2 4 _ rfl).2
    obtain ⟨kA, comp, k1, k2, k3, -⟩ := hRA
    have hcomp : comp = K.2.2.1.1 ci := Option.some.inj (k3.symm.trans hcls.1)
    subst hcomp
    obtain ⟨kC, hkC, hkk⟩ := hcls.2
    refine W.aast hB.1 hB.2.1 (h7.2.1 k _ he) (fun q h => by cases h) (fun h => by cases h) k1 k2 rfl hkC ⟨h0, by show _ < (arrV _ _ _).slots.size; rw [arrV_size]; exact hlt⟩ g1 (fun q h => by rw [g3] at h; cases h) (by rw [g2]; exact hkC) (by rw [g2]; exact va_assign hcls) rfl rfl hdg fun H1 e1 z oq => ?_
    refine kk p e R s m args below meth c H1 _ cells slots mc ms ls hB h1 h2 h3 h4 h5 h6 (cR_set h7 (aR_of ha) z oq ?_) (by rw [z]; exact h8) (fun q hq => by
      rcases List.mem_append.mp hq with hq | hq
      · exact h9 q hq
      · rw [List.mem_singleton.mp hq]; exact Nat.le_add_right _ _) h10
    show H1[K.1.size + k]? = some (vp_cell _ (n0, .inr (.inr (.inr (.inr (fun j => (va_up f i.toNatClampNeg (some x) j).map (fun k => K.1.size + k)))))))
    rw [e1]
    show some ((vp_cell _ (n0, .inr (.inr (.inr (.inr (fun j => (f j).map (fun k => K.1.size + k))))))).setSlot _ _) = _
    rw [vp_cell_q, vp_cell_q, arrV_store]
    congr 2
    funext q
    by_cases hq : q = i.toNatClampNeg
    · subst hq
      simp [updV, va_up, va_rf]
    · simp [updV, va_up, hq]
/-- null into an array of references -/
theorem g_aastN {k n0 : Nat} {f : Nat → Option Nat} {i : Int32} (t : Nat) (C : String) (hC : (t = 3 ∧ C = "CoinsWarden$Text") ∨ (t = 4 ∧ C = "CoinsWarden$State")) (hd : dc M pc .aastore 1 n) (ha : aR h k t = some (n0, f)) (hin : vp_in i n0) (kk : GL l K M d kc ks n lo st (h.set k (.inl (t, n0, .inr (.inr (.inr (.inr (va_up f i.toNatClampNeg none))))))) Q) : GL l K M d kc ks pc lo (.null :: .int i :: .ref k :: st) h Q := by
  intro p e R s m args below meth c H locs cells slots mc ms ls hB h1 h2 h3 h4 h5 h6 h7 h8 h9 h10
  obtain ⟨hdg, rfl⟩ := hd
  have hK := hB.2.2.2.2.2.2.2.2.1.1
  have he := wl_at (K := K) (aR_of ha)
  have harr : s.isArrayOf (vp_cell (K.2.2.2.1 t) (n0, .inr (.inr (.inr (.inr (fun j => (f j).map (fun k => K.1.size + k))))))) (.object C) := by
    rcases hC with ⟨rfl, rfl⟩ | ⟨rfl, rfl⟩
    · exact (hK.2 3 _ rfl).1 n0 _
    · exact (hK.2 4 _ rfl).1 n0 _
  refine va_WaastN hB.1 hB.2.1 (h7.2.1 k _ he) harr (fun q => by cases q) (by show ¬ (i < 0 ∨ (arrV _ _ _).slots.size ≤ _); rw [arrV_size]; exact hin) rfl rfl hdg fun H1 e1 z oq => ?_
  refine kk p e R s m args below meth c H1 _ cells slots mc ms ls hB h1 h2 h3 h4 h5 h6 (cR_set h7 (aR_of ha) z oq ?_) (by rw [z]; exact h8) (fun q hq => by
    rcases List.mem_append.mp hq with hq | hq
    · exact h9 q hq
    · rw [List.mem_singleton.mp hq]; exact Nat.le_add_right _ _) h10
  show H1[K.1.size + k]? = some (vp_cell _ (n0, .inr (.inr (.inr (.inr (fun j => (va_up f i.toNatClampNeg none j).map (fun k => K.1.size + k)))))))
  rw [e1]
  show some ((vp_cell _ (n0, .inr (.inr (.inr (.inr (fun j => (f j).map (fun k => K.1.size + k))))))).setSlot _ _) = _
  rw [vp_cell_q, vp_cell_q, arrV_store]
  congr 2
  funext q
  by_cases hq : q = i.toNatClampNeg
  · subst hq
    simp [updV, va_up, va_rf]
  · simp [updV, va_up, hq]
/-- static arrays -/
theorem low_S {p : Program} {s : State} {m : MethodId} {args : Array Value} {meth : Method} {c : Code} {H : Heap} {locs : List Loc} (hB : cB K M p s m args meth c) (hR : cR K h H) (hz : s.heap.size ≤ H.size) (hl : ∀ q ∈ locs, cA K q.base) : va_S (cA K) s.heap H locs :=
  ⟨hz, fun q _ hn => by
    have hq : q < K.1.size := Nat.not_le.mp hn
    rw [hR.2.2 q hq, hB.2.2.2.2.2.2.2.2.2.2 q hq], hl⟩
theorem low_H {p : Program} {s : State} {m : MethodId} {args : Array Value} {meth : Method} {c : Code} (hB : cB K M p s m args meth c) : ∀ a : Nat, a < K.1.size → ¬ cA K a → s.heap[a]? = K.1[a]? := fun a ha _ => hB.2.2.2.2.2.2.2.2.2.2 a ha
theorem g_gets {ix j : Nat} {q : String × String × FieldType × Nat × (Nat → Value)} (hq : stA[j]? = some q) (hw : Cond.fieldLink M.1.cls ix "CoinsWarden" q.1 q.2.1 ∈ tblG) (hd : dc M pc (.getstatic ix) 3 n) (kk : GL l K M d kc ks n lo (.retAddr j :: st) h Q) : GL l K M d kc ks pc lo st h Q := by
  intro p e R s m args below meth c H locs cells slots mc ms ls hB h1 h2 h3 h4 h5 h6 h7 h8 h9 h10
  obtain ⟨hdg, rfl⟩ := hd
  have hU := hB.2.2.2.2.2.2.2.2.1
  exact va_gets (v := .ref (K.2.1 j)) hB.1 hB.2.1 (va_Z.kept (hU.2.2.1 j q hq).1 (low_H hB)) (low_S hB h7 h8 h9) hB.2.2.2.2.1 (hB.2.2.2.2.2.1 _ hw) (fun _ g => g) hdg (kk p e R s m args below meth c H locs cells slots mc ms ls hB h1 h2 h3 h4 h5 h6 h7 h8 h9 h10)
theorem g_getsN {ix j : Nat} {q : String × String × FieldType × Nat × (Nat → Value)} (hq : stA[j]? = some q) (hw : Cond.fieldLinkNest M.1.cls ix "CoinsWarden" q.1 q.2.1 "CoinsWarden" ∈ nW) (hd : dc M pc (.getstatic ix) 3 n) (kk : GL l K M d kc ks n lo (.retAddr j :: st) h Q) : GL l K M d kc ks pc lo st h Q := by
  intro p e R s m args below meth c H locs cells slots mc ms ls hB h1 h2 h3 h4 h5 h6 h7 h8 h9 h10
  obtain ⟨hdg, rfl⟩ := hd
  have hU := hB.2.2.2.2.2.2.2.2.1
  exact va_getsN (v := .ref (K.2.1 j)) hB.1 hB.2.1 (va_Z.kept (hU.2.2.1 j q hq).1 (low_H hB)) (low_S hB h7 h8 h9) hB.2.2.2.2.1 (va_Nw.use rfl (hU.2.1.1 _ hw)) (fun _ g => g) hdg (kk p e R s m args below meth c H locs cells slots mc ms ls hB h1 h2 h3 h4 h5 h6 h7 h8 h9 h10)
theorem g_iaS {j N : Nat} {nm ds : String} {f : List Int32} {i : Int32} (hq : stA[j]? = some (nm, ds, .int, N, stI f)) (hin : vp_in i N) (hd : dc M pc .iaload 1 n) (kk : GL l K M d kc ks n lo (.int (f.getD i.toNatClampNeg 0) :: st) h Q) : GL l K M d kc ks pc lo (.int i :: .retAddr j :: st) h Q := by
  intro p e R s m args below meth c H locs cells slots mc ms ls hB h1 h2 h3 h4 h5 h6 h7 h8 h9 h10
  obtain ⟨hdg, rfl⟩ := hd
  have hU := hB.2.2.2.2.2.2.2.2.1
  obtain ⟨cell, c1, c2, c3, c4, -, c6, c7⟩ := (hU.2.2.1 j _ hq).2
  have hlt : K.2.1 j < K.1.size := (Array.getElem?_eq_some_iff.mp c1).1
  have hil : i.toNatClampNeg < N := Nat.not_le.mp fun q => hin (Or.inr q)
  exact W.iald hB.1 hB.2.1 (by rw [h7.2.2 _ hlt]; exact c1) c2 c3 (fun q => hin (q.imp id (fun z => Nat.le_trans c4 z))) (c6 _ hil) rfl rfl hdg (kk p e R s m args below meth c H locs cells slots mc ms ls hB h1 h2 h3 h4 h5 h6 h7 h8 h9 h10)
theorem g_laS {j N : Nat} {nm ds : String} {f : List Int64} {i : Int32} (hq : stA[j]? = some (nm, ds, .long, N, stL f)) (hin : vp_in i N) (hd : dc M pc .laload 1 n) (kk : GL l K M d kc ks n lo (.long (f.getD i.toNatClampNeg 0) :: st) h Q) : GL l K M d kc ks pc lo (.int i :: .retAddr j :: st) h Q := by
  intro p e R s m args below meth c H locs cells slots mc ms ls hB h1 h2 h3 h4 h5 h6 h7 h8 h9 h10
  obtain ⟨hdg, rfl⟩ := hd
  have hU := hB.2.2.2.2.2.2.2.2.1
  obtain ⟨cell, c1, c2, c3, c4, -, c6, c7⟩ := (hU.2.2.1 j _ hq).2
  have hlt : K.2.1 j < K.1.size := (Array.getElem?_eq_some_iff.mp c1).1
  have hil : i.toNatClampNeg < N := Nat.not_le.mp fun q => hin (Or.inr q)
  exact W.lald hB.1 hB.2.1 (by rw [h7.2.2 _ hlt]; exact c1) c2 c3 (fun q => hin (q.imp id (fun z => Nat.le_trans c4 z))) (c6 _ hil) rfl rfl hdg (kk p e R s m args below meth c H locs cells slots mc ms ls hB h1 h2 h3 h4 h5 h6 h7 h8 h9 h10)
theorem g_alS {j : Nat} {q : String × String × FieldType × Nat × (Nat → Value)} (hq : stA[j]? = some q) (hd : dc M pc .arraylength 1 n) (kk : GL l K M d kc ks n lo (.int (Int32.ofNat q.2.2.2.1) :: st) h Q) : GL l K M d kc ks pc lo (.retAddr j :: st) h Q := by
  intro p e R s m args below meth c H locs cells slots mc ms ls hB h1 h2 h3 h4 h5 h6 h7 h8 h9 h10
  obtain ⟨hdg, rfl⟩ := hd
  have hU := hB.2.2.2.2.2.2.2.2.1
  obtain ⟨cell, c1, c2, c3, c4, c5, c6, c7⟩ := (hU.2.2.1 j _ hq).2
  have hlt : K.2.1 j < K.1.size := (Array.getElem?_eq_some_iff.mp c1).1
  exact W.alen hB.1 hB.2.1 (by rw [h7.2.2 _ hlt]; exact c1) c2 c5 rfl rfl hdg (kk p e R s m args below meth c H locs cells slots mc ms ls hB h1 h2 h3 h4 h5 h6 h7 h8 h9 h10)
-- returns
theorem g_iret {x : Int32} (hr : M.2.2.2 = some .int) (hd : dc M pc .ireturn 1 n) (hq : Q (some (.int x)) h) : GL l K M d kc ks pc lo (.int x :: []) h Q := by
  intro p e R s m args below meth c H locs cells slots mc ms ls hB h1 h2 h3 h4 h5 h6 h7 h8 h9 h10
  obtain ⟨hdg, rfl⟩ := hd
  refine W.widen (k := mc) (n := ms) (by omega) (by omega) ?_
  exact W.iret (v := x) hB.1 hB.2.1 (hB.2.2.2.1.trans hr) (fun t ht hW => ⟨some (.int x), h, rfl, by rw [ht]; exact h7, hq, by rw [ht]; exact h8⟩) h9 hdg (hlocks := hB.2.2.2.2.2.2.1)
theorem g_zret {x : Int32} (hr : M.2.2.2 = some .boolean) (hx : x = 0 ∨ x = 1) (hd : dc M pc .ireturn 1 n) (hq : Q (some (.int x)) h) : GL l K M d kc ks pc lo (.int x :: []) h Q := by
  intro p e R s m args below meth c H locs cells slots mc ms ls hB h1 h2 h3 h4 h5 h6 h7 h8 h9 h10
  obtain ⟨hdg, rfl⟩ := hd
  refine W.widen (k := mc) (n := ms) (by omega) (by omega) ?_
  exact W.zret (v := x) (ty := .boolean) hB.1 hB.2.1 (hB.2.2.2.1.trans hr) (by rcases hx with rfl | rfl <;> rfl) (fun t ht hW => ⟨some (.int x), h, rfl, by rw [ht]; exact h7, hq, by rw [ht]; exact h8⟩) h9 hdg (hlocks := hB.2.2.2.2.2.2.1)
theorem g_lret {x : Int64} (hr : M.2.2.2 = some .long) (hd : dc M pc .lreturn 1 n) (hq : Q (some (.long x)) h) : GL l K M d kc ks pc lo (.long x :: []) h Q := by
  intro p e R s m args below meth c H locs cells slots mc ms ls hB h1 h2 h3 h4 h5 h6 h7 h8 h9 h10
  obtain ⟨hdg, rfl⟩ := hd
  refine W.widen (k := mc) (n := ms) (by omega) (by omega) ?_
  exact W.lret (v := x) hB.1 hB.2.1 (hB.2.2.2.1.trans hr) (fun t ht hW => ⟨some (.long x), h, rfl, by rw [ht]; exact h7, hq, by rw [ht]; exact h8⟩) h9 hdg (hlocks := hB.2.2.2.2.2.2.1)
theorem g_vret (hr : M.2.2.2 = none) (hd : dc M pc .return_ 1 n) (hq : Q none h) : GL l K M d kc ks pc lo [] h Q := by
  intro p e R s m args below meth c H locs cells slots mc ms ls hB h1 h2 h3 h4 h5 h6 h7 h8 h9 h10
  obtain ⟨hdg, rfl⟩ := hd
  refine W.widen (k := mc) (n := ms) (by omega) (by omega) ?_
  exact W.vret hB.1 hB.2.1 (hB.2.2.2.1.trans hr) (fun t ht hW => ⟨none, h, rfl, by rw [ht]; exact h7, hq, by rw [ht]; exact h8⟩) h9 hdg (hlocks := hB.2.2.2.2.2.2.1)
theorem g_aret {x : Value} {rt : FieldType} (hx : x = .null ∨ ∃ a, x = .ref a) (hr : M.2.2.2 = some rt) (hrt : (∃ n, rt = .object n) ∨ ∃ t, rt = .array t) (hd : dc M pc .areturn 1 n) (hq : Q (some x) h) : GL l K M d kc ks pc lo (x :: []) h Q := by
  intro p e R s m args below meth c H locs cells slots mc ms ls hB h1 h2 h3 h4 h5 h6 h7 h8 h9 h10
  obtain ⟨hdg, rfl⟩ := hd
  refine W.widen (k := mc) (n := ms) (by omega) (by omega) ?_
  exact W.aret (v := cv K x) hB.1 hB.2.1 (hB.2.2.2.1.trans hr) hrt (by rcases hx with rfl | ⟨a, rfl⟩; exact Or.inl rfl; exact Or.inr ⟨_, rfl⟩) (fun t ht hW => ⟨some x, h, rfl, by rw [ht]; exact h7, hq, by rw [ht]; exact h8⟩) h9 hdg (hlocks := hB.2.2.2.2.2.2.1)
-- a contract out of its body
theorem lv_args_map (K : cK) : ∀ (as : List Value) (i : Nat), lv_args i (as.map (cv K)) = lc K (lv_args i as)
  | [], _ => rfl
  | v :: r, i => by
    show (i, cv K v) :: lv_args _ (r.map (cv K)) = (i, cv K v) :: lc K (lv_args _ r)
    rw [cv_cat, lv_args_map K r]
theorem lg_len (K : cK) : ∀ as : List Value, (lg_sl (as.map (cv K))).length = (lg_sl as).length
  | [] => rfl
  | v :: r => by
    have h1 := lg_len K r
    simp only [lg_sl, List.map_cons, List.flatMap_cons, List.length_append, cv_cat] at h1 ⊢
    rw [h1]
    by_cases hc : v.category = 2 <;> simp [hc]
theorem CC.of {as : List Value} (hM : okM M) (ha : (lg_sl as).length ≤ M.2.2.1) (body : GL l K M d kc ks 0 (lv_args 0 as) [] h Q) : CC l K M d kc ks as h Q := by
  intro D hD
  refine Met.ofW (cc := M.2.1) (maxL := M.2.2.1) (ret := M.2.2.2) hM.2.1 rfl ?_
  intro p e s m args below meth c s₁ B hml hv
  obtain ⟨rfl, hR, hU⟩ := hv
  have hts := atoms_spec (ws := wsM M) B.pre
  have hB : cB K M p s m _ meth c := ⟨B.exec, B.bytes, hml, B.returns, findClass_of_methodNamed B.named, fun w hw => hts w (List.mem_cons_of_mem _ hw), B.notSynchronized, (name_of_methodNamed B.named B.method).1, hU, by rw [hR.1]; omega, hR.2.2⟩
  rw [lg_entry_eq]
  have hl := lv_entry (as.map (cv K)) (n := M.2.2.1) (by rw [lg_len]; exact ha)
  refine body p e _ s m _ below meth c s.heap [] 0 0 kc ks _ hB hD (Nat.mul_le_mul_left 64 hD) (Nat.le_refl _) (Nat.le_refl _) (by omega) (by omega) hR (Nat.le_refl _) (fun _ hq => absurd hq List.not_mem_nil) (lh_sub hl (fun q hq => ?_))
  rw [lv_args_map]
  obtain ⟨⟨j, w⟩, g1, rfl⟩ := List.mem_map.mp hq
  exact List.mem_map.mpr ⟨(j, w), lk_in (ll_mem.mp g1), rfl⟩
-- calls
theorem cP_blind {as : List Value} : FrameBlind (cP K as h) := fun a U g mk q => ⟨q.1, q.2.1, cU.same (s := U) rfl q.2.2⟩
theorem good_ws {Y : MI} (hY : okM Y) : GoodIn tblG (wsM Y) := by
  intro w hw
  rcases List.mem_cons.mp hw with rfl | hw
  · exact ⟨hY.1, good_of_word (tg_good _ hY.1)⟩
  · exact ⟨hw, good_of_word (tg_good _ hw)⟩
theorem map_append_rev (K : cK) (as rest : List Value) : (as.reverse ++ rest).map (cv K) = (as.map (cv K)).reverse ++ rest.map (cv K) := by simp
theorem cat_sum (K : cK) (st : List Value) : ((st.map (cv K)).map fun v => v.category).sum = (st.map fun v => v.category).sum := by
  congr 1
  rw [List.map_map]
  apply List.map_congr_left
  intro v _
  exact cv_cat K v
/-- behind a call -/
theorem g_after {p : Program} {e : Env} {R : Room} {s : State} {m : MethodId} {args : Array Value} {below : List Frame} {meth : Method} {c : Code} {H : Heap} {locs : List Loc} {cells slots mc ms : Nat} {ls : Array Slot} {kc1 ks1 : Nat} {a : Array Value} {st0 : List Value} {Q1 : Option Value → cH → Prop}
    (hB : cB K M p s m args meth c) (h1 : d ≤ R.frames) (h2 : 64 * d ≤ R.locals) (h3 : mc ≤ R.cells) (h4 : ms ≤ R.slots) (h5 : cells + (kc1 + kc) ≤ mc) (h6 : slots + (ks1 + ks) ≤ ms) (h8 : s.heap.size ≤ H.size) (h7 : cR K h H) (h9 : ∀ q ∈ locs, cA K q.base) (h10 : lv_has ls M.2.2.1 (lc K (ll lo)))
    (hr : va_Run p l e R s m args below meth c H locs cells slots kc1 ks1 (F0 m pc ls st0) (st.map (cv K)) (cQ K Q1 a) (cA K))
    (kk : ∀ (r : Option Value) (h1 : cH), Q1 r h1 → GL l K M d kc ks (pc + 3) lo (r.toList ++ st) h1 Q) : W p l e R s m args below meth c H locs cells slots (MQ below (cQ K Q) args s mc ms (cA K)) (F0 m pc ls st0) := by
  intro T hT X
  obtain ⟨v, st₀, t, T', L, g0, X', hL, e1, e2, ⟨r, hh, g1, g2, g3, g4⟩, stp⟩ := hr T hT X
  cases g1
  rw [g0] at g4
  obtain ⟨t2, a1, b1⟩ := kk r hh g3 p e R s m args below meth c T'.heap (locs ++ L) (cells + kc1) (slots + ks1) mc ms ls hB h1 h2 h3 h4 (by omega) (by omega) (by rw [e1]; exact g2) (by rw [e1]; exact Nat.le_trans h8 g4) (fun q hq => by
    rcases List.mem_append.mp hq with hq | hq
    · exact h9 q hq
    · exact hL q hq) h10 T' rfl X'
  refine ⟨t2, stp t2 ?_, b1⟩
  have : (r.toList ++ st).map (cv K) = (r.map (cv K)).toList ++ st.map (cv K) := by cases r <;> rfl
  rw [this] at a1
  exact a1

theorem cb_of {Y : MI} {R : Room} {s : State} {args : Array Value} {ix n d1 kc1 ks1 : Nat} (hY : okM Y) (hl : ml M.1.cls ix Y n) (hts : ∀ w ∈ tblG, w.before args s = true) (hd1 : d1 + 1 ≤ d) (h1 : d ≤ R.frames) (h2 : 64 * d ≤ R.locals) : CallB R s args M.1.cls ix Y.1 Y.2.1 Y.2.2.1 Y.2.2.2 (wsM Y) (rmM d1 kc1 ks1) kc1 ks1 n :=
  callB_of n hts (good_ws hY) rfl rfl rfl (hts _ hY.2.2.1) (hts _ hl.1) ⟨hY.2.2.2.1.1, hY.2.2.2.1.2, hl.2⟩ ⟨by show d1 + 1 ≤ R.frames; omega, by show 8 + (Y.2.2.1 + 11) + 64 * d1 ≤ R.locals; have := hY.2.2.2.2; omega⟩
theorem g_callS0 {Y : MI} {ix d1 kc1 ks1 : Nat} {as : List Value} {Q1 : Option Value → cH → Prop} (hY : okS Y) (hl : ml M.1.cls ix Y as.length) (hc : CC l K Y d1 kc1 ks1 as h Q1) (hd1 : d1 + 1 ≤ d) (hW : (st.map fun v => v.category).sum ≤ 8) (hd : dc M pc (.invokestatic ix) 3 n) (kk : ∀ (r : Option Value) (h1 : cH), Q1 r h1 → GL l K M d kc ks n lo (r.toList ++ st) h1 Q) : GL l K M d (kc1 + kc) (ks1 + ks) pc lo (as.reverse ++ st) h Q := by
  intro p e R s m args below meth c H locs cells slots mc ms ls hB h1 h2 h3 h4 h5 h6 h7 h8 h9 h10
  obtain ⟨hdg, rfl⟩ := hd
  have hts := hB.2.2.2.2.2.1
  rw [map_append_rev]
  exact g_after hB h1 h2 h3 h4 h5 h6 h8 h7 h9 h10 (va_runS (As := as.map (cv K)) (rest := st.map (cv K)) ⟨hB.1, hB.2.1, hB.2.2.1, hB.2.2.2.2.1, hts⟩ (hc d1 (Nat.le_refl _)) ⟨cb_of hY.1 hl hts hd1 h1 h2, hts _ hY.2⟩ ⟨cP_blind, fun U hU hW => ⟨rfl, by rw [hU]; exact h7, hB.2.2.2.2.2.2.2.2.1.warm hW⟩⟩ rfl (by simp) h10.1 rfl (by show 2 * 0 + _ ≤ 8; rw [cat_sum]; omega) hdg ⟨by omega, by omega⟩) kk
theorem g_callV0 {Y : MI} {ix b d1 kc1 ks1 : Nat} {as : List Value} {Q1 : Option Value → cH → Prop} (hY : okV Y) (hl : ml M.1.cls ix Y as.length) (hb : (h[b]?).map (fun e => match e with | .inr o => (classes[o.1]?).map (fun r => r.1) | _ => none) = some (some Y.1.cls)) (hc : CC l K Y d1 kc1 ks1 (.ref b :: as) h Q1) (hd1 : d1 + 1 ≤ d) (hW : (st.map fun v => v.category).sum ≤ 8) (hd : dc M pc (.invokevirtual ix) 3 n) (kk : ∀ (r : Option Value) (h1 : cH), Q1 r h1 → GL l K M d kc ks n lo (r.toList ++ st) h1 Q) : GL l K M d (kc1 + kc) (ks1 + ks) pc lo (as.reverse ++ .ref b :: st) h Q := by
  intro p e R s m args below meth c H locs cells slots mc ms ls hB h1 h2 h3 h4 h5 h6 h7 h8 h9 h10
  obtain ⟨hdg, rfl⟩ := hd
  have hts := hB.2.2.2.2.2.1
  rw [map_append_rev]
  have hrecv : ∃ cell : Cell, H[K.1.size + b]? = some cell ∧ cell.vm.isStatics = false ∧ s.vm.findClass Y.1.cls = some cell.cls := by
    cases he : h[b]? with
    | none => rw [he] at hb; cases hb
    | some e0 =>
      rw [he] at hb
      cases e0 with
      | inl a => cases hb
      | inr o =>
        obtain ⟨ci, fs⟩ := o
        have hb2 : (classes[ci]?).map (fun r => r.1) = some Y.1.cls := Option.some.inj hb
        cases hcl : classes[ci]? with
        | none => rw [hcl] at hb2; cases hb2
        | some r =>
          rw [hcl] at hb2
          have e9 : r.1 = Y.1.cls := Option.some.inj hb2
          rw [← e9]
          exact va_recv hB.2.2.2.2.2.2.2.2.1.1 h7.2.1 hcl (wl_at he)
  exact g_after hB h1 h2 h3 h4 h5 h6 h8 h7 h9 h10 (va_runV (C := Y.1.cls) (b := K.1.size + b) (As := as.map (cv K)) (rest := st.map (cv K)) ⟨hB.1, hB.2.1, hB.2.2.1, hB.2.2.2.2.1, hts⟩ (hc d1 (Nat.le_refl _)) ⟨cb_of hY.1 hl hts hd1 h1 h2, hts _ hY.2.1, hts _ hY.2.2⟩ ⟨cP_blind, hrecv, fun U hU hW => ⟨rfl, by rw [hU]; exact h7, hB.2.2.2.2.2.2.2.2.1.warm hW⟩⟩ rfl (by simp) h10.1 rfl (by show 2 * 0 + _ ≤ 8; rw [cat_sum]; omega) hdg ⟨by omega, by omega⟩) kk
theorem g_callI0 {Y : MI} {ix b d1 kc1 ks1 : Nat} {as : List Value} {Q1 : Option Value → cH → Prop} (hY : okI Y) (hl : ml M.1.cls ix Y as.length) (hc : CC l K Y d1 kc1 ks1 (.ref b :: as) h Q1) (hd1 : d1 + 1 ≤ d) (hW : (st.map fun v => v.category).sum ≤ 8) (hd : dc M pc (.invokespecial ix) 3 n) (kk : ∀ (r : Option Value) (h1 : cH), Q1 r h1 → GL l K M d kc ks n lo (r.toList ++ st) h1 Q) : GL l K M d (kc1 + kc) (ks1 + ks) pc lo (as.reverse ++ .ref b :: st) h Q := by
  intro p e R s m args below meth c H locs cells slots mc ms ls hB h1 h2 h3 h4 h5 h6 h7 h8 h9 h10
  obtain ⟨hdg, rfl⟩ := hd
  have hts := hB.2.2.2.2.2.1
  rw [map_append_rev]
  have cb := cb_of (kc1 := kc1) (ks1 := ks1) hY.1 hl hts hd1 h1 h2
  rw [hY.2.2.2] at cb
  exact g_after hB h1 h2 h3 h4 h5 h6 h8 h7 h9 h10 (va_runI (b := K.1.size + b) (As := as.map (cv K)) (rest := st.map (cv K)) ⟨hB.1, hB.2.1, hB.2.2.1, hB.2.2.2.2.1, hts⟩ (hc d1 (Nat.le_refl _)) ⟨cb, hY.2.2.1, hts _ hY.2.1⟩ ⟨cP_blind, fun U hU hW => ⟨rfl, by rw [hU]; exact h7, hB.2.2.2.2.2.2.2.2.1.warm hW⟩⟩ rfl (by simp) h10.1 rfl (by show 2 * 0 + _ ≤ 8; rw [cat_sum]; omega) hdg ⟨by omega, by omega⟩) kk
theorem g_callN0 {Y : MI} {ix b d1 kc1 ks1 : Nat} {as : List Value} {Q1 : Option Value → cH → Prop} (hY : okI Y) (hl : mN M.1.cls ix Y as.length) (hc : CC l K Y d1 kc1 ks1 (.ref b :: as) h Q1) (hd1 : d1 + 1 ≤ d) (hW : (st.map fun v => v.category).sum ≤ 8) (hd : dc M pc (.invokespecial ix) 3 n) (kk : ∀ (r : Option Value) (h1 : cH), Q1 r h1 → GL l K M d kc ks n lo (r.toList ++ st) h1 Q) : GL l K M d (kc1 + kc) (ks1 + ks) pc lo (as.reverse ++ .ref b :: st) h Q := by
  intro p e R s m args below meth c H locs cells slots mc ms ls hB h1 h2 h3 h4 h5 h6 h7 h8 h9 h10
  obtain ⟨hdg, rfl⟩ := hd
  have hts := hB.2.2.2.2.2.1
  rw [map_append_rev]
  have cb : va_CN R s args M.1.cls ix Y.1 "CoinsWarden" Y.2.1 Y.2.2.1 Y.2.2.2 (wsM Y) (rmM d1 kc1 ks1) kc1 ks1 as.length := va_cnB as.length hts (good_ws hY.1) rfl rfl rfl (hB.2.2.2.2.2.2.2.2.1.2.1.1 _ hl.1) (hts _ hY.1.2.2.1) ⟨hY.1.2.2.2.1.1, hY.1.2.2.2.1.2, hl.2⟩ ⟨by show d1 + 1 ≤ R.frames; omega, by show 8 + (Y.2.2.1 + 11) + 64 * d1 ≤ R.locals; have := hY.1.2.2.2.2; omega⟩
  rw [hY.2.2.2] at cb
  exact g_after hB h1 h2 h3 h4 h5 h6 h8 h7 h9 h10 (va_runIN (b := K.1.size + b) (As := as.map (cv K)) (rest := st.map (cv K)) ⟨hB.1, hB.2.1, hB.2.2.1, hB.2.2.2.2.1, hts⟩ (hc d1 (Nat.le_refl _)) ⟨cb, hY.2.2.1, hts _ hY.2.1⟩ ⟨cP_blind, fun U hU hW => ⟨rfl, by rw [hU]; exact h7, hB.2.2.2.2.2.2.2.2.1.warm hW⟩⟩ rfl (by simp) h10.1 rfl (by show 2 * 0 + _ ≤ 8; rw [cat_sum]; omega) hdg ⟨by omega, by omega⟩) kk
theorem g_obj {ix b : Nat} (hl : Cond.methodLink M.1.cls ix objectInit ∈ tblG) (hd1 : 1 ≤ d) (hW : (st.map fun v => v.category).sum ≤ 8) (hd : dc M pc (.invokespecial ix) 3 n) (kk : GL l K M d kc ks n lo st h Q) : GL l K M d kc ks pc lo (.ref b :: st) h Q := by
  intro p e R s m args below meth c H locs cells slots mc ms ls hB h1 h2 h3 h4 h5 h6 h7 h8 h9 h10
  obtain ⟨hdg, rfl⟩ := hd
  have hts := hB.2.2.2.2.2.1
  exact W.objInit hB.1 hB.2.1 hB.2.2.2.2.1 (hts _ hl) (hts _ (tg_at 28 (by decide +kernel) rfl)) (hts (.code objectInit ⟨#[0xb1]⟩ 1 none) (tg_at 29 (by decide +kernel) rfl)) rfl (by rw [hB.2.2.1]; exact h10.1) rfl hdg (by omega) (by show 2 * 0 + _ + 12 ≤ _; rw [cat_sum]; omega) (kk p e R s m args below meth c H locs cells slots mc ms ls hB h1 h2 h3 h4 h5 h6 h7 h8 h9 h10)
theorem g_callS_0 {Y : MI} {ix d1 : Nat} {Q1 : Option Value → cH → Prop} (hY : okS Y) (hl : ml M.1.cls ix Y 0) (hc : CC l K Y d1 0 0 [] h Q1) (hd1 : d1 + 1 ≤ d) (hW : (st.map fun v => v.category).sum ≤ 8) (hd : dc M pc (.invokestatic ix) 3 n) (kk : ∀ (r : Option Value) (h1 : cH), Q1 r h1 → GL l K M d kc ks n lo (r.toList ++ st) h1 Q) : GL l K M d kc ks pc lo (st) h Q := by
  have := g_callS0 (as := []) (kc := kc) (ks := ks) hY hl hc hd1 hW hd kk
  rw [Nat.zero_add, Nat.zero_add] at this
  exact this
theorem g_callS_0k {kc1 ks1 kc2 ks2 : Nat} (hk1 : kc1 + kc2 ≤ kc) (hk2 : ks1 + ks2 ≤ ks) {Y : MI} {ix d1 : Nat} {Q1 : Option Value → cH → Prop} (hY : okS Y) (hl : ml M.1.cls ix Y 0) (hc : CC l K Y d1 kc1 ks1 [] h Q1) (hd1 : d1 + 1 ≤ d) (hW : (st.map fun v => v.category).sum ≤ 8) (hd : dc M pc (.invokestatic ix) 3 n) (kk : ∀ (r : Option Value) (h1 : cH), Q1 r h1 → GL l K M d kc2 ks2 n lo (r.toList ++ st) h1 Q) : GL l K M d kc ks pc lo (st) h Q :=
  g_room (Nat.le_refl d) hk1 hk2 (g_callS0 (as := []) (kc := kc2) (ks := ks2) hY hl hc hd1 hW hd kk)
theorem g_callS_1 {Y : MI} {ix d1 : Nat} {v0 : Value} {Q1 : Option Value → cH → Prop} (hY : okS Y) (hl : ml M.1.cls ix Y 1) (hc : CC l K Y d1 0 0 [v0] h Q1) (hd1 : d1 + 1 ≤ d) (hW : (st.map fun v => v.category).sum ≤ 8) (hd : dc M pc (.invokestatic ix) 3 n) (kk : ∀ (r : Option Value) (h1 : cH), Q1 r h1 → GL l K M d kc ks n lo (r.toList ++ st) h1 Q) : GL l K M d kc ks pc lo (v0 :: st) h Q := by
  have := g_callS0 (as := [v0]) (kc := kc) (ks := ks) hY hl hc hd1 hW hd kk
  rw [Nat.zero_add, Nat.zero_add] at this
  exact this
theorem g_callS_1k {kc1 ks1 kc2 ks2 : Nat} (hk1 : kc1 + kc2 ≤ kc) (hk2 : ks1 + ks2 ≤ ks) {Y : MI} {ix d1 : Nat} {v0 : Value} {Q1 : Option Value → cH → Prop} (hY : okS Y) (hl : ml M.1.cls ix Y 1) (hc : CC l K Y d1 kc1 ks1 [v0] h Q1) (hd1 : d1 + 1 ≤ d) (hW : (st.map fun v => v.category).sum ≤ 8) (hd : dc M pc (.invokestatic ix) 3 n) (kk : ∀ (r : Option Value) (h1 : cH), Q1 r h1 → GL l K M d kc2 ks2 n lo (r.toList ++ st) h1 Q) : GL l K M d kc ks pc lo (v0 :: st) h Q :=
  g_room (Nat.le_refl d) hk1 hk2 (g_callS0 (as := [v0]) (kc := kc2) (ks := ks2) hY hl hc hd1 hW hd kk)
theorem g_callS_2 {Y : MI} {ix d1 : Nat} {v0 v1 : Value} {Q1 : Option Value → cH → Prop} (hY : okS Y) (hl : ml M.1.cls ix Y 2) (hc : CC l K Y d1 0 0 [v0, v1] h Q1) (hd1 : d1 + 1 ≤ d) (hW : (st.map fun v => v.category).sum ≤ 8) (hd : dc M pc (.invokestatic ix) 3 n) (kk : ∀ (r : Option Value) (h1 : cH), Q1 r h1 → GL l K M d kc ks n lo (r.toList ++ st) h1 Q) : GL l K M d kc ks pc lo (v1 :: v0 :: st) h Q := by
  have := g_callS0 (as := [v0, v1]) (kc := kc) (ks := ks) hY hl hc hd1 hW hd kk
  rw [Nat.zero_add, Nat.zero_add] at this
  exact this
theorem g_callS_2k {kc1 ks1 kc2 ks2 : Nat} (hk1 : kc1 + kc2 ≤ kc) (hk2 : ks1 + ks2 ≤ ks) {Y : MI} {ix d1 : Nat} {v0 v1 : Value} {Q1 : Option Value → cH → Prop} (hY : okS Y) (hl : ml M.1.cls ix Y 2) (hc : CC l K Y d1 kc1 ks1 [v0, v1] h Q1) (hd1 : d1 + 1 ≤ d) (hW : (st.map fun v => v.category).sum ≤ 8) (hd : dc M pc (.invokestatic ix) 3 n) (kk : ∀ (r : Option Value) (h1 : cH), Q1 r h1 → GL l K M d kc2 ks2 n lo (r.toList ++ st) h1 Q) : GL l K M d kc ks pc lo (v1 :: v0 :: st) h Q :=
  g_room (Nat.le_refl d) hk1 hk2 (g_callS0 (as := [v0, v1]) (kc := kc2) (ks := ks2) hY hl hc hd1 hW hd kk)
theorem g_callS_3 {Y : MI} {ix d1 : Nat} {v0 v1 v2 : Value} {Q1 : Option Value → cH → Prop} (hY : okS Y) (hl : ml M.1.cls ix Y 3) (hc : CC l K Y d1 0 0 [v0, v1, v2] h Q1) (hd1 : d1 + 1 ≤ d) (hW : (st.map fun v => v.category).sum ≤ 8) (hd : dc M pc (.invokestatic ix) 3 n) (kk : ∀ (r : Option Value) (h1 : cH), Q1 r h1 → GL l K M d kc ks n lo (r.toList ++ st) h1 Q) : GL l K M d kc ks pc lo (v2 :: v1 :: v0 :: st) h Q := by
  have := g_callS0 (as := [v0, v1, v2]) (kc := kc) (ks := ks) hY hl hc hd1 hW hd kk
  rw [Nat.zero_add, Nat.zero_add] at this
  exact this
theorem g_callS_3k {kc1 ks1 kc2 ks2 : Nat} (hk1 : kc1 + kc2 ≤ kc) (hk2 : ks1 + ks2 ≤ ks) {Y : MI} {ix d1 : Nat} {v0 v1 v2 : Value} {Q1 : Option Value → cH → Prop} (hY : okS Y) (hl : ml M.1.cls ix Y 3) (hc : CC l K Y d1 kc1 ks1 [v0, v1, v2] h Q1) (hd1 : d1 + 1 ≤ d) (hW : (st.map fun v => v.category).sum ≤ 8) (hd : dc M pc (.invokestatic ix) 3 n) (kk : ∀ (r : Option Value) (h1 : cH), Q1 r h1 → GL l K M d kc2 ks2 n lo (r.toList ++ st) h1 Q) : GL l K M d kc ks pc lo (v2 :: v1 :: v0 :: st) h Q :=
  g_room (Nat.le_refl d) hk1 hk2 (g_callS0 (as := [v0, v1, v2]) (kc := kc2) (ks := ks2) hY hl hc hd1 hW hd kk)
theorem g_callS_4 {Y : MI} {ix d1 : Nat} {v0 v1 v2 v3 : Value} {Q1 : Option Value → cH → Prop} (hY : okS Y) (hl : ml M.1.cls ix Y 4) (hc : CC l K Y d1 0 0 [v0, v1, v2, v3] h Q1) (hd1 : d1 + 1 ≤ d) (hW : (st.map fun v => v.category).sum ≤ 8) (hd : dc M pc (.invokestatic ix) 3 n) (kk : ∀ (r : Option Value) (h1 : cH), Q1 r h1 → GL l K M d kc ks n lo (r.toList ++ st) h1 Q) : GL l K M d kc ks pc lo (v3 :: v2 :: v1 :: v0 :: st) h Q := by
  have := g_callS0 (as := [v0, v1, v2, v3]) (kc := kc) (ks := ks) hY hl hc hd1 hW hd kk
  rw [Nat.zero_add, Nat.zero_add] at this
  exact this
theorem g_callS_5 {Y : MI} {ix d1 : Nat} {v0 v1 v2 v3 v4 : Value} {Q1 : Option Value → cH → Prop} (hY : okS Y) (hl : ml M.1.cls ix Y 5) (hc : CC l K Y d1 0 0 [v0, v1, v2, v3, v4] h Q1) (hd1 : d1 + 1 ≤ d) (hW : (st.map fun v => v.category).sum ≤ 8) (hd : dc M pc (.invokestatic ix) 3 n) (kk : ∀ (r : Option Value) (h1 : cH), Q1 r h1 → GL l K M d kc ks n lo (r.toList ++ st) h1 Q) : GL l K M d kc ks pc lo (v4 :: v3 :: v2 :: v1 :: v0 :: st) h Q := by
  have := g_callS0 (as := [v0, v1, v2, v3, v4]) (kc := kc) (ks := ks) hY hl hc hd1 hW hd kk
  rw [Nat.zero_add, Nat.zero_add] at this
  exact this
theorem g_callS_6 {Y : MI} {ix d1 : Nat} {v0 v1 v2 v3 v4 v5 : Value} {Q1 : Option Value → cH → Prop} (hY : okS Y) (hl : ml M.1.cls ix Y 6) (hc : CC l K Y d1 0 0 [v0, v1, v2, v3, v4, v5] h Q1) (hd1 : d1 + 1 ≤ d) (hW : (st.map fun v => v.category).sum ≤ 8) (hd : dc M pc (.invokestatic ix) 3 n) (kk : ∀ (r : Option Value) (h1 : cH), Q1 r h1 → GL l K M d kc ks n lo (r.toList ++ st) h1 Q) : GL l K M d kc ks pc lo (v5 :: v4 :: v3 :: v2 :: v1 :: v0 :: st) h Q := by
  have := g_callS0 (as := [v0, v1, v2, v3, v4, v5]) (kc := kc) (ks := ks) hY hl hc hd1 hW hd kk
  rw [Nat.zero_add, Nat.zero_add] at this
  exact this
theorem g_callS_7 {Y : MI} {ix d1 : Nat} {v0 v1 v2 v3 v4 v5 v6 : Value} {Q1 : Option Value → cH → Prop} (hY : okS Y) (hl : ml M.1.cls ix Y 7) (hc : CC l K Y d1 0 0 [v0, v1, v2, v3, v4, v5, v6] h Q1) (hd1 : d1 + 1 ≤ d) (hW : (st.map fun v => v.category).sum ≤ 8) (hd : dc M pc (.invokestatic ix) 3 n) (kk : ∀ (r : Option Value) (h1 : cH), Q1 r h1 → GL l K M d kc ks n lo (r.toList ++ st) h1 Q) : GL l K M d kc ks pc lo (v6 :: v5 :: v4 :: v3 :: v2 :: v1 :: v0 :: st) h Q := by
  have := g_callS0 (as := [v0, v1, v2, v3, v4, v5, v6]) (kc := kc) (ks := ks) hY hl hc hd1 hW hd kk
  rw [Nat.zero_add, Nat.zero_add] at this
  exact this
theorem g_callV_0 {Y : MI} {ix b d1 : Nat} {Q1 : Option Value → cH → Prop} (hY : okV Y) (hl : ml M.1.cls ix Y 0) (hb : (h[b]?).map (fun e => match e with | .inr o => (classes[o.1]?).map (fun r => r.1) | _ => none) = some (some Y.1.cls)) (hc : CC l K Y d1 0 0 (.ref b :: []) h Q1) (hd1 : d1 + 1 ≤ d) (hW : (st.map fun v => v.category).sum ≤ 8) (hd : dc M pc (.invokevirtual ix) 3 n) (kk : ∀ (r : Option Value) (h1 : cH), Q1 r h1 → GL l K M d kc ks n lo (r.toList ++ st) h1 Q) : GL l K M d kc ks pc lo (.ref b :: st) h Q := by
  have := g_callV0 (as := []) (kc := kc) (ks := ks) hY hl hb hc hd1 hW hd kk
  rw [Nat.zero_add, Nat.zero_add] at this
  exact this
theorem g_callV_0k {kc1 ks1 kc2 ks2 : Nat} (hk1 : kc1 + kc2 ≤ kc) (hk2 : ks1 + ks2 ≤ ks) {Y : MI} {ix b d1 : Nat} {Q1 : Option Value → cH → Prop} (hY : okV Y) (hl : ml M.1.cls ix Y 0) (hb : (h[b]?).map (fun e => match e with | .inr o => (classes[o.1]?).map (fun r => r.1) | _ => none) = some (some Y.1.cls)) (hc : CC l K Y d1 kc1 ks1 (.ref b :: []) h Q1) (hd1 : d1 + 1 ≤ d) (hW : (st.map fun v => v.category).sum ≤ 8) (hd : dc M pc (.invokevirtual ix) 3 n) (kk : ∀ (r : Option Value) (h1 : cH), Q1 r h1 → GL l K M d kc2 ks2 n lo (r.toList ++ st) h1 Q) : GL l K M d kc ks pc lo (.ref b :: st) h Q :=
  g_room (Nat.le_refl d) hk1 hk2 (g_callV0 (as := []) (kc := kc2) (ks := ks2) hY hl hb hc hd1 hW hd kk)
theorem g_callV_1 {Y : MI} {ix b d1 : Nat} {v0 : Value} {Q1 : Option Value → cH → Prop} (hY : okV Y) (hl : ml M.1.cls ix Y 1) (hb : (h[b]?).map (fun e => match e with | .inr o => (classes[o.1]?).map (fun r => r.1) | _ => none) = some (some Y.1.cls)) (hc : CC l K Y d1 0 0 (.ref b :: [v0]) h Q1) (hd1 : d1 + 1 ≤ d) (hW : (st.map fun v => v.category).sum ≤ 8) (hd : dc M pc (.invokevirtual ix) 3 n) (kk : ∀ (r : Option Value) (h1 : cH), Q1 r h1 → GL l K M d kc ks n lo (r.toList ++ st) h1 Q) : GL l K M d kc ks pc lo (v0 :: .ref b :: st) h Q := by
  have := g_callV0 (as := [v0]) (kc := kc) (ks := ks) hY hl hb hc hd1 hW hd kk
  rw [Nat.zero_add, Nat.zero_add] at this
  exact this
theorem g_callV_1k {kc1 ks1 kc2 ks2 : Nat} (hk1 : kc1 + kc2 ≤ kc) (hk2 : ks1 + ks2 ≤ ks) {Y : MI} {ix b d1 : Nat} {v0 : Value} {Q1 : Option Value → cH → Prop} (hY : okV Y) (hl : ml M.1.cls ix Y 1) (hb : (h[b]?).map (fun e => match e with | .inr o => (classes[o.1]?).map (fun r => r.1) | _ => none) = some (some Y.1.cls)) (hc : CC l K Y d1 kc1 ks1 (.ref b :: [v0]) h Q1) (hd1 : d1 + 1 ≤ d) (hW : (st.map fun v => v.category).sum ≤ 8) (hd : dc M pc (.invokevirtual ix) 3 n) (kk : ∀ (r : Option Value) (h1 : cH), Q1 r h1 → GL l K M d kc2 ks2 n lo (r.toList ++ st) h1 Q) : GL l K M d kc ks pc lo (v0 :: .ref b :: st) h Q :=
  g_room (Nat.le_refl d) hk1 hk2 (g_callV0 (as := [v0]) (kc := kc2) (ks := ks2) hY hl hb hc hd1 hW hd kk)
theorem g_callV_2 {Y : MI} {ix b d1 : Nat} {v0 v1 : Value} {Q1 : Option Value → cH → Prop} (hY : okV Y) (hl : ml M.1.cls ix Y 2) (hb : (h[b]?).map (fun e => match e with | .inr o => (classes[o.1]?).map (fun r => r.1) | _ => none) = some (some Y.1.cls)) (hc : CC l K Y d1 0 0 (.ref b :: [v0, v1]) h Q1) (hd1 : d1 + 1 ≤ d) (hW : (st.map fun v => v.category).sum ≤ 8) (hd : dc M pc (.invokevirtual ix) 3 n) (kk : ∀ (r : Option Value) (h1 : cH), Q1 r h1 → GL l K M d kc ks n lo (r.toList ++ st) h1 Q) : GL l K M d kc ks pc lo (v1 :: v0 :: .ref b :: st) h Q := by
  have := g_callV0 (as := [v0, v1]) (kc := kc) (ks := ks) hY hl hb hc hd1 hW hd kk
  rw [Nat.zero_add, Nat.zero_add] at this
  exact this
theorem g_callV_2k {kc1 ks1 kc2 ks2 : Nat} (hk1 : kc1 + kc2 ≤ kc) (hk2 : ks1 + ks2 ≤ ks) {Y : MI} {ix b d1 : Nat} {v0 v1 : Value} {Q1 : Option Value → cH → Prop} (hY : okV Y) (hl : ml M.1.cls ix Y 2) (hb : (h[b]?).map (fun e => match e with | .inr o => (classes[o.1]?).map (fun r => r.1) | _ => none) = some (some Y.1.cls)) (hc : CC l K Y d1 kc1 ks1 (.ref b :: [v0, v1]) h Q1) (hd1 : d1 + 1 ≤ d) (hW : (st.map fun v => v.category).sum ≤ 8) (hd : dc M pc (.invokevirtual ix) 3 n) (kk : ∀ (r : Option Value) (h1 : cH), Q1 r h1 → GL l K M d kc2 ks2 n lo (r.toList ++ st) h1 Q) : GL l K M d kc ks pc lo (v1 :: v0 :: .ref b :: st) h Q :=
  g_room (Nat.le_refl d) hk1 hk2 (g_callV0 (as := [v0, v1]) (kc := kc2) (ks := ks2) hY hl hb hc hd1 hW hd kk)
theorem g_callV_3 {Y : MI} {ix b d1 : Nat} {v0 v1 v2 : Value} {Q1 : Option Value → cH → Prop} (hY : okV Y) (hl : ml M.1.cls ix Y 3) (hb : (h[b]?).map (fun e => match e with | .inr o => (classes[o.1]?).map (fun r => r.1) | _ => none) = some (some Y.1.cls)) (hc : CC l K Y d1 0 0 (.ref b :: [v0, v1, v2]) h Q1) (hd1 : d1 + 1 ≤ d) (hW : (st.map fun v => v.category).sum ≤ 8) (hd : dc M pc (.invokevirtual ix) 3 n) (kk : ∀ (r : Option Value) (h1 : cH), Q1 r h1 → GL l K M d kc ks n lo (r.toList ++ st) h1 Q) : GL l K M d kc ks pc lo (v2 :: v1 :: v0 :: .ref b :: st) h Q := by
  have := g_callV0 (as := [v0, v1, v2]) (kc := kc) (ks := ks) hY hl hb hc hd1 hW hd kk
  rw [Nat.zero_add, Nat.zero_add] at this
  exact this
theorem g_callV_3k {kc1 ks1 kc2 ks2 : Nat} (hk1 : kc1 + kc2 ≤ kc) (hk2 : ks1 + ks2 ≤ ks) {Y : MI} {ix b d1 : Nat} {v0 v1 v2 : Value} {Q1 : Option Value → cH → Prop} (hY : okV Y) (hl : ml M.1.cls ix Y 3) (hb : (h[b]?).map (fun e => match e with | .inr o => (classes[o.1]?).map (fun r => r.1) | _ => none) = some (some Y.1.cls)) (hc : CC l K Y d1 kc1 ks1 (.ref b :: [v0, v1, v2]) h Q1) (hd1 : d1 + 1 ≤ d) (hW : (st.map fun v => v.category).sum ≤ 8) (hd : dc M pc (.invokevirtual ix) 3 n) (kk : ∀ (r : Option Value) (h1 : cH), Q1 r h1 → GL l K M d kc2 ks2 n lo (r.toList ++ st) h1 Q) : GL l K M d kc ks pc lo (v2 :: v1 :: v0 :: .ref b :: st) h Q :=
  g_room (Nat.le_refl d) hk1 hk2 (g_callV0 (as := [v0, v1, v2]) (kc := kc2) (ks := ks2) hY hl hb hc hd1 hW hd kk)
theorem g_callV_4 {Y : MI} {ix b d1 : Nat} {v0 v1 v2 v3 : Value} {Q1 : Option Value → cH → Prop} (hY : okV Y) (hl : ml M.1.cls ix Y 4) (hb : (h[b]?).map (fun e => match e with | .inr o => (classes[o.1]?).map (fun r => r.1) | _ => none) = some (some Y.1.cls)) (hc : CC l K Y d1 0 0 (.ref b :: [v0, v1, v2, v3]) h Q1) (hd1 : d1 + 1 ≤ d) (hW : (st.map fun v => v.category).sum ≤ 8) (hd : dc M pc (.invokevirtual ix) 3 n) (kk : ∀ (r : Option Value) (h1 : cH), Q1 r h1 → GL l K M d kc ks n lo (r.toList ++ st) h1 Q) : GL l K M d kc ks pc lo (v3 :: v2 :: v1 :: v0 :: .ref b :: st) h Q := by
  have := g_callV0 (as := [v0, v1, v2, v3]) (kc := kc) (ks := ks) hY hl hb hc hd1 hW hd kk
  rw [Nat.zero_add, Nat.zero_add] at this
  exact this
theorem g_callV_5 {Y : MI} {ix b d1 : Nat} {v0 v1 v2 v3 v4 : Value} {Q1 : Option Value → cH → Prop} (hY : okV Y) (hl : ml M.1.cls ix Y 5) (hb : (h[b]?).map (fun e => match e with | .inr o => (classes[o.1]?).map (fun r => r.1) | _ => none) = some (some Y.1.cls)) (hc : CC l K Y d1 0 0 (.ref b :: [v0, v1, v2, v3, v4]) h Q1) (hd1 : d1 + 1 ≤ d) (hW : (st.map fun v => v.category).sum ≤ 8) (hd : dc M pc (.invokevirtual ix) 3 n) (kk : ∀ (r : Option Value) (h1 : cH), Q1 r h1 → GL l K M d kc ks n lo (r.toList ++ st) h1 Q) : GL l K M d kc ks pc lo (v4 :: v3 :: v2 :: v1 :: v0 :: .ref b :: st) h Q := by
  have := g_callV0 (as := [v0, v1, v2, v3, v4]) (kc := kc) (ks := ks) hY hl hb hc hd1 hW hd kk
  rw [Nat.zero_add, Nat.zero_add] at this
  exact this
theorem g_callV_6 {Y : MI} {ix b d1 : Nat} {v0 v1 v2 v3 v4 v5 : Value} {Q1 : Option Value → cH → Prop} (hY : okV Y) (hl : ml M.1.cls ix Y 6) (hb : (h[b]?).map (fun e => match e with | .inr o => (classes[o.1]?).map (fun r => r.1) | _ => none) = some (some Y.1.cls)) (hc : CC l K Y d1 0 0 (.ref b :: [v0, v1, v2, v3, v4, v5]) h Q1) (hd1 : d1 + 1 ≤ d) (hW : (st.map fun v => v.category).sum ≤ 8) (hd : dc M pc (.invokevirtual ix) 3 n) (kk : ∀ (r : Option Value) (h1 : cH), Q1 r h1 → GL l K M d kc ks n lo (r.toList ++ st) h1 Q) : GL l K M d kc ks pc lo (v5 :: v4 :: v3 :: v2 :: v1 :: v0 :: .ref b :: st) h Q := by
  have := g_callV0 (as := [v0, v1, v2, v3, v4, v5]) (kc := kc) (ks := ks) hY hl hb hc hd1 hW hd kk
  rw [Nat.zero_add, Nat.zero_add] at this
  exact this
theorem g_callV_7 {Y : MI} {ix b d1 : Nat} {v0 v1 v2 v3 v4 v5 v6 : Value} {Q1 : Option Value → cH → Prop} (hY : okV Y) (hl : ml M.1.cls ix Y 7) (hb : (h[b]?).map (fun e => match e with | .inr o => (classes[o.1]?).map (fun r => r.1) | _ => none) = some (some Y.1.cls)) (hc : CC l K Y d1 0 0 (.ref b :: [v0, v1, v2, v3, v4, v5, v6]) h Q1) (hd1 : d1 + 1 ≤ d) (hW : (st.map fun v => v.category).sum ≤ 8) (hd : dc M pc (.invokevirtual ix) 3 n) (kk : ∀ (r : Option Value) (h1 : cH), Q1 r h1 → GL l K M d kc ks n lo (r.toList ++ st) h1 Q) : GL l K M d kc ks pc lo (v6 :: v5 :: v4 :: v3 :: v2 :: v1 :: v0 :: .ref b :: st) h Q := by
  have := g_callV0 (as := [v0, v1, v2, v3, v4, v5, v6]) (kc := kc) (ks := ks) hY hl hb hc hd1 hW hd kk
  rw [Nat.zero_add, Nat.zero_add] at this
  exact this
theorem g_callI_0 {Y : MI} {ix b d1 : Nat} {Q1 : Option Value → cH → Prop} (hY : okI Y) (hl : ml M.1.cls ix Y 0) (hc : CC l K Y d1 0 0 (.ref b :: []) h Q1) (hd1 : d1 + 1 ≤ d) (hW : (st.map fun v => v.category).sum ≤ 8) (hd : dc M pc (.invokespecial ix) 3 n) (kk : ∀ (r : Option Value) (h1 : cH), Q1 r h1 → GL l K M d kc ks n lo (r.toList ++ st) h1 Q) : GL l K M d kc ks pc lo (.ref b :: st) h Q := by
  have := g_callI0 (as := []) (kc := kc) (ks := ks) hY hl hc hd1 hW hd kk
  rw [Nat.zero_add, Nat.zero_add] at this
  exact this
theorem g_callI_0k {kc1 ks1 kc2 ks2 : Nat} (hk1 : kc1 + kc2 ≤ kc) (hk2 : ks1 + ks2 ≤ ks) {Y : MI} {ix b d1 : Nat} {Q1 : Option Value → cH → Prop} (hY : okI Y) (hl : ml M.1.cls ix Y 0) (hc : CC l K Y d1 kc1 ks1 (.ref b :: []) h Q1) (hd1 : d1 + 1 ≤ d) (hW : (st.map fun v => v.category).sum ≤ 8) (hd : dc M pc (.invokespecial ix) 3 n) (kk : ∀ (r : Option Value) (h1 : cH), Q1 r h1 → GL l K M d kc2 ks2 n lo (r.toList ++ st) h1 Q) : GL l K M d kc ks pc lo (.ref b :: st) h Q :=
  g_room (Nat.le_refl d) hk1 hk2 (g_callI0 (as := []) (kc := kc2) (ks := ks2) hY hl hc hd1 hW hd kk)
theorem g_callI_1 {Y : MI} {ix b d1 : Nat} {v0 : Value} {Q1 : Option Value → cH → Prop} (hY : okI Y) (hl : ml M.1.cls ix Y 1) (hc : CC l K Y d1 0 0 (.ref b :: [v0]) h Q1) (hd1 : d1 + 1 ≤ d) (hW : (st.map fun v => v.category).sum ≤ 8) (hd : dc M pc (.invokespecial ix) 3 n) (kk : ∀ (r : Option Value) (h1 : cH), Q1 r h1 → GL l K M d kc ks n lo (r.toList ++ st) h1 Q) : GL l K M d kc ks pc lo (v0 :: .ref b :: st) h Q := by
  have := g_callI0 (as := [v0]) (kc := kc) (ks := ks) hY hl hc hd1 hW hd kk
  rw [Nat.zero_add, Nat.zero_add] at this
  exact this
theorem g_callI_1k {kc1 ks1 kc2 ks2 : Nat} (hk1 : kc1 + kc2 ≤ kc) (hk2 : ks1 + ks2 ≤ ks) {Y : MI} {ix b d1 : Nat} {v0 : Value} {Q1 : Option Value → cH → Prop} (hY : okI Y) (hl : ml M.1.cls ix Y 1) (hc : CC l K Y d1 kc1 ks1 (.ref b :: [v0]) h Q1) (hd1 : d1 + 1 ≤ d) (hW : (st.map fun v => v.category).sum ≤ 8) (hd : dc M pc (.invokespecial ix) 3 n) (kk : ∀ (r : Option Value) (h1 : cH), Q1 r h1 → GL l K M d kc2 ks2 n lo (r.toList ++ st) h1 Q) : GL l K M d kc ks pc lo (v0 :: .ref b :: st) h Q :=
  g_room (Nat.le_refl d) hk1 hk2 (g_callI0 (as := [v0]) (kc := kc2) (ks := ks2) hY hl hc hd1 hW hd kk)
theorem g_callI_2 {Y : MI} {ix b d1 : Nat} {v0 v1 : Value} {Q1 : Option Value → cH → Prop} (hY : okI Y) (hl : ml M.1.cls ix Y 2) (hc : CC l K Y d1 0 0 (.ref b :: [v0, v1]) h Q1) (hd1 : d1 + 1 ≤ d) (hW : (st.map fun v => v.category).sum ≤ 8) (hd : dc M pc (.invokespecial ix) 3 n) (kk : ∀ (r : Option Value) (h1 : cH), Q1 r h1 → GL l K M d kc ks n lo (r.toList ++ st) h1 Q) : GL l K M d kc ks pc lo (v1 :: v0 :: .ref b :: st) h Q := by
  have := g_callI0 (as := [v0, v1]) (kc := kc) (ks := ks) hY hl hc hd1 hW hd kk
  rw [Nat.zero_add, Nat.zero_add] at this
  exact this
theorem g_callI_2k {kc1 ks1 kc2 ks2 : Nat} (hk1 : kc1 + kc2 ≤ kc) (hk2 : ks1 + ks2 ≤ ks) {Y : MI} {ix b d1 : Nat} {v0 v1 : Value} {Q1 : Option Value → cH → Prop} (hY : okI Y) (hl : ml M.1.cls ix Y 2) (hc : CC l K Y d1 kc1 ks1 (.ref b :: [v0, v1]) h Q1) (hd1 : d1 + 1 ≤ d) (hW : (st.map fun v => v.category).sum ≤ 8) (hd : dc M pc (.invokespecial ix) 3 n) (kk : ∀ (r : Option Value) (h1 : cH), Q1 r h1 → GL l K M d kc2 ks2 n lo (r.toList ++ st) h1 Q) : GL l K M d kc ks pc lo (v1 :: v0 :: .ref b :: st) h Q :=
  g_room (Nat.le_refl d) hk1 hk2 (g_callI0 (as := [v0, v1]) (kc := kc2) (ks := ks2) hY hl hc hd1 hW hd kk)
theorem g_callI_3 {Y : MI} {ix b d1 : Nat} {v0 v1 v2 : Value} {Q1 : Option Value → cH → Prop} (hY : okI Y) (hl : ml M.1.cls ix Y 3) (hc : CC l K Y d1 0 0 (.ref b :: [v0, v1, v2]) h Q1) (hd1 : d1 + 1 ≤ d) (hW : (st.map fun v => v.category).sum ≤ 8) (hd : dc M pc (.invokespecial ix) 3 n) (kk : ∀ (r : Option Value) (h1 : cH), Q1 r h1 → GL l K M d kc ks n lo (r.toList ++ st) h1 Q) : GL l K M d kc ks pc lo (v2 :: v1 :: v0 :: .ref b :: st) h Q := by
  have := g_callI0 (as := [v0, v1, v2]) (kc := kc) (ks := ks) hY hl hc hd1 hW hd kk
  rw [Nat.zero_add, Nat.zero_add] at this
  exact this
theorem g_callI_3k {kc1 ks1 kc2 ks2 : Nat} (hk1 : kc1 + kc2 ≤ kc) (hk2 : ks1 + ks2 ≤ ks) {Y : MI} {ix b d1 : Nat} {v0 v1 v2 : Value} {Q1 : Option Value → cH → Prop} (hY : okI Y) (hl : ml M.1.cls ix Y 3) (hc : CC l K Y d1 kc1 ks1 (.ref b :: [v0, v1, v2]) h Q1) (hd1 : d1 + 1 ≤ d) (hW : (st.map fun v => v.category).sum ≤ 8) (hd : dc M pc (.invokespecial ix) 3 n) (kk : ∀ (r : Option Value) (h1 : cH), Q1 r h1 → GL l K M d kc2 ks2 n lo (r.toList ++ st) h1 Q) : GL l K M d kc ks pc lo (v2 :: v1 :: v0 :: .ref b :: st) h Q :=
  g_room (Nat.le_refl d) hk1 hk2 (g_callI0 (as := [v0, v1, v2]) (kc := kc2) (ks := ks2) hY hl hc hd1 hW hd kk)
theorem g_callN_0 {Y : MI} {ix b d1 : Nat} {Q1 : Option Value → cH → Prop} (hY : okI Y) (hl : mN M.1.cls ix Y 0) (hc : CC l K Y d1 0 0 (.ref b :: []) h Q1) (hd1 : d1 + 1 ≤ d) (hW : (st.map fun v => v.category).sum ≤ 8) (hd : dc M pc (.invokespecial ix) 3 n) (kk : ∀ (r : Option Value) (h1 : cH), Q1 r h1 → GL l K M d kc ks n lo (r.toList ++ st) h1 Q) : GL l K M d kc ks pc lo (.ref b :: st) h Q := by
  have := g_callN0 (as := []) (kc := kc) (ks := ks) hY hl hc hd1 hW hd kk
  rw [Nat.zero_add, Nat.zero_add] at this
  exact this
theorem g_callN_0k {kc1 ks1 kc2 ks2 : Nat} (hk1 : kc1 + kc2 ≤ kc) (hk2 : ks1 + ks2 ≤ ks) {Y : MI} {ix b d1 : Nat} {Q1 : Option Value → cH → Prop} (hY : okI Y) (hl : mN M.1.cls ix Y 0) (hc : CC l K Y d1 kc1 ks1 (.ref b :: []) h Q1) (hd1 : d1 + 1 ≤ d) (hW : (st.map fun v => v.category).sum ≤ 8) (hd : dc M pc (.invokespecial ix) 3 n) (kk : ∀ (r : Option Value) (h1 : cH), Q1 r h1 → GL l K M d kc2 ks2 n lo (r.toList ++ st) h1 Q) : GL l K M d kc ks pc lo (.ref b :: st) h Q :=
  g_room (Nat.le_refl d) hk1 hk2 (g_callN0 (as := []) (kc := kc2) (ks := ks2) hY hl hc hd1 hW hd kk)
theorem g_callN_1 {Y : MI} {ix b d1 : Nat} {v0 : Value} {Q1 : Option Value → cH → Prop} (hY : okI Y) (hl : mN M.1.cls ix Y 1) (hc : CC l K Y d1 0 0 (.ref b :: [v0]) h Q1) (hd1 : d1 + 1 ≤ d) (hW : (st.map fun v => v.category).sum ≤ 8) (hd : dc M pc (.invokespecial ix) 3 n) (kk : ∀ (r : Option Value) (h1 : cH), Q1 r h1 → GL l K M d kc ks n lo (r.toList ++ st) h1 Q) : GL l K M d kc ks pc lo (v0 :: .ref b :: st) h Q := by
  have := g_callN0 (as := [v0]) (kc := kc) (ks := ks) hY hl hc hd1 hW hd kk
  rw [Nat.zero_add, Nat.zero_add] at this
  exact this
theorem g_callN_1k {kc1 ks1 kc2 ks2 : Nat} (hk1 : kc1 + kc2 ≤ kc) (hk2 : ks1 + ks2 ≤ ks) {Y : MI} {ix b d1 : Nat} {v0 : Value} {Q1 : Option Value → cH → Prop} (hY : okI Y) (hl : mN M.1.cls ix Y 1) (hc : CC l K Y d1 kc1 ks1 (.ref b :: [v0]) h Q1) (hd1 : d1 + 1 ≤ d) (hW : (st.map fun v => v.category).sum ≤ 8) (hd : dc M pc (.invokespecial ix) 3 n) (kk : ∀ (r : Option Value) (h1 : cH), Q1 r h1 → GL l K M d kc2 ks2 n lo (r.toList ++ st) h1 Q) : GL l K M d kc ks pc lo (v0 :: .ref b :: st) h Q :=
  g_room (Nat.le_refl d) hk1 hk2 (g_callN0 (as := [v0]) (kc := kc2) (ks := ks2) hY hl hc hd1 hW hd kk)
theorem g_callN_2 {Y : MI} {ix b d1 : Nat} {v0 v1 : Value} {Q1 : Option Value → cH → Prop} (hY : okI Y) (hl : mN M.1.cls ix Y 2) (hc : CC l K Y d1 0 0 (.ref b :: [v0, v1]) h Q1) (hd1 : d1 + 1 ≤ d) (hW : (st.map fun v => v.category).sum ≤ 8) (hd : dc M pc (.invokespecial ix) 3 n) (kk : ∀ (r : Option Value) (h1 : cH), Q1 r h1 → GL l K M d kc ks n lo (r.toList ++ st) h1 Q) : GL l K M d kc ks pc lo (v1 :: v0 :: .ref b :: st) h Q := by
  have := g_callN0 (as := [v0, v1]) (kc := kc) (ks := ks) hY hl hc hd1 hW hd kk
  rw [Nat.zero_add, Nat.zero_add] at this
  exact this
theorem g_callN_2k {kc1 ks1 kc2 ks2 : Nat} (hk1 : kc1 + kc2 ≤ kc) (hk2 : ks1 + ks2 ≤ ks) {Y : MI} {ix b d1 : Nat} {v0 v1 : Value} {Q1 : Option Value → cH → Prop} (hY : okI Y) (hl : mN M.1.cls ix Y 2) (hc : CC l K Y d1 kc1 ks1 (.ref b :: [v0, v1]) h Q1) (hd1 : d1 + 1 ≤ d) (hW : (st.map fun v => v.category).sum ≤ 8) (hd : dc M pc (.invokespecial ix) 3 n) (kk : ∀ (r : Option Value) (h1 : cH), Q1 r h1 → GL l K M d kc2 ks2 n lo (r.toList ++ st) h1 Q) : GL l K M d kc ks pc lo (v1 :: v0 :: .ref b :: st) h Q :=
  g_room (Nat.le_refl d) hk1 hk2 (g_callN0 (as := [v0, v1]) (kc := kc2) (ks := ks2) hY hl hc hd1 hW hd kk)
theorem g_callN_3 {Y : MI} {ix b d1 : Nat} {v0 v1 v2 : Value} {Q1 : Option Value → cH → Prop} (hY : okI Y) (hl : mN M.1.cls ix Y 3) (hc : CC l K Y d1 0 0 (.ref b :: [v0, v1, v2]) h Q1) (hd1 : d1 + 1 ≤ d) (hW : (st.map fun v => v.category).sum ≤ 8) (hd : dc M pc (.invokespecial ix) 3 n) (kk : ∀ (r : Option Value) (h1 : cH), Q1 r h1 → GL l K M d kc ks n lo (r.toList ++ st) h1 Q) : GL l K M d kc ks pc lo (v2 :: v1 :: v0 :: .ref b :: st) h Q := by
  have := g_callN0 (as := [v0, v1, v2]) (kc := kc) (ks := ks) hY hl hc hd1 hW hd kk
  rw [Nat.zero_add, Nat.zero_add] at this
  exact this
theorem g_callN_3k {kc1 ks1 kc2 ks2 : Nat} (hk1 : kc1 + kc2 ≤ kc) (hk2 : ks1 + ks2 ≤ ks) {Y : MI} {ix b d1 : Nat} {v0 v1 v2 : Value} {Q1 : Option Value → cH → Prop} (hY : okI Y) (hl : mN M.1.cls ix Y 3) (hc : CC l K Y d1 kc1 ks1 (.ref b :: [v0, v1, v2]) h Q1) (hd1 : d1 + 1 ≤ d) (hW : (st.map fun v => v.category).sum ≤ 8) (hd : dc M pc (.invokespecial ix) 3 n) (kk : ∀ (r : Option Value) (h1 : cH), Q1 r h1 → GL l K M d kc2 ks2 n lo (r.toList ++ st) h1 Q) : GL l K M d kc ks pc lo (v2 :: v1 :: v0 :: .ref b :: st) h Q :=
  g_room (Nat.le_refl d) hk1 hk2 (g_callN0 (as := [v0, v1, v2]) (kc := kc2) (ks := ks2) hY hl hc hd1 hW hd kk)
end RV
