section CPY
variable {l : Launch} {K : cK} {M : MI} {d kc ks pc n : Nat} {lo : List (Nat × Value)} {st : List Value} {h : cH} {Q : Option Value → cH → Prop}
set_option maxHeartbeats 800000 in
theorem g_clone {k n0 ix : Nat} {f : Nat → Int32} (hl : Cond.methodLink M.1.cls ix ⟨"[I", "clone", "()Ljava/lang/Object;"⟩ ∈ tblG) (ha : aI h k 0 = some (n0, f)) (hd1 : 1 ≤ d) (hW : (st.map fun v => v.category).sum ≤ 8) (hd : dc M pc (.invokevirtual ix) 3 n) (kk : GL l K M d kc ks n lo (.ref h.length :: st) (h ++ [.inl (0, n0, .inl f)]) Q) : GL l K M d (kc + 1) (ks + n0) pc lo (.ref k :: st) h Q := by
  intro p e R s m args below meth c H locs cells slots mc ms ls hB h1 h2 h3 h4 h5 h6 h7 h8 h9 h10
  obtain ⟨hdg, rfl⟩ := hd
  have hts := hB.2.2.2.2.2.1
  have hU := hB.2.2.2.2.2.2.2.2.1
  have hK := hU.1
  have hnm : s.vm.findClass "[I" = some (K.2.2.2.1 0) := (hK.2 0 _ rfl).2
  obtain ⟨c0, t0', f1, f2, f3⟩ := Cond.castable_spec (va_Nw.use (A := args) rfl hU.2.1.2.2.2)
  have hc0 : K.2.2.2.1 0 = c0 := Option.some.inj (hnm.symm.trans f1)
  rw [← hc0] at f3
  intro T hT X
  have hcellT : T.heap[K.1.size + k]? = some (vp_cell (K.2.2.2.1 0) (n0, .inl f)) := by rw [hT]; exact h7.2.1 k _ (wl_at (aI_of ha))
  obtain ⟨-, kA, hkA, comp, hkind⟩ := State.isArrayOf_alike X.warmed.alike ((hK.2 0 _ rfl).1 0 (fun _ => .null))
  obtain ⟨-, kS, hkS, compS, hkindS⟩ := (hK.2 0 _ rfl).1 0 (fun _ => .null)
  have hsz : (vp_cell (K.2.2.2.1 0) (n0, .inl f)).slots.size = n0 := arrV_size _ _ _
  obtain ⟨vm', X', stp⟩ := X.cloneArray hB.1 hB.2.2.2.2.1 (hts _ hl) (hts _ (tg_at 708 (by decide +kernel) rfl)) (hts _ (tg_at 709 (by decide +kernel) rfl)) (hts _ (tg_at 710 (by decide +kernel) rfl)) (hts _ (tg_at 711 (by decide +kernel) rfl)) (a := K.1.size + k) (cell := vp_cell (K.2.2.2.1 0) (n0, .inl f)) hcellT (fun _ h => by cases h) (fun h => by cases h) hnm f2 f3
    (fun i v hv => by
      have hk' : T.vm.classes[K.2.2.2.1 0]? = some kA := hkA
      have hi : i < n0 := by have z := (Array.getElem?_eq_some_iff.mp hv).1; rw [hsz] at z; exact z
      have hv2 := arrV_read (K.2.2.2.1 0) (fun j => Value.int (f j)) hi
      have hv3 : some v = some (Value.int (f i)) := hv.symm.trans hv2
      have hfit : fits .int v = true := by rw [Option.some.inj hv3]; rfl
      have hc1 : (vp_cell (K.2.2.2.1 0) (n0, .inl f)).cls = K.2.2.2.1 0 := rfl
      rw [hc1]
      simpa [State.fitsSlot, State.slotType?, hk', hkind] using hfit)
    (g := F0 m pc ls ((Value.ref k :: st).map (cv K))) rfl (by rw [hB.2.2.1, h10.1]) (rest := st.map (cv K)) rfl (by rw [hB.2.1]; exact hdg) (by omega) (by show 2 * 0 + _ + 14 ≤ _; rw [cat_sum]; omega) (by omega) (by rw [hsz]; omega) (hloader := Vm.clonesLoader_of_array hkS hkindS)
  have hcellE : ({ cls := (vp_cell (K.2.2.2.1 0) (n0, .inl f)).cls, slots := (vp_cell (K.2.2.2.1 0) (n0, .inl f)).slots } : Cell) = vp_cell (K.2.2.2.1 0) (n0, .inl f) := rfl
  rw [hcellE, hsz] at X'
  rw [hcellE] at stp
  generalize hV : vp_cell (K.2.2.2.1 0) (n0, .inl f) = V at X' stp
  generalize hH1 : H.push V = H1
  have z1 : H1.size = H.size + 1 := by rw [← hH1, Array.size_push]
  have e1 : H1[H.size]? = some V := by rw [← hH1, Array.getElem?_push_size]
  have o1 : ∀ q : Nat, q < H.size → H1[q]? = H[q]? := fun q hq => by rw [← hH1, Array.getElem?_push, if_neg (Nat.ne_of_lt hq)]
  obtain ⟨t, b1, b2⟩ := kk p e R s m args below meth c H1 locs (cells + 1) (slots + n0) mc ms ls hB h1 h2 h3 h4 (by omega) (by omega) (cR_push h7 z1 o1 (by
    show H1[K.1.size + h.length]? = some _
    rw [← h7.1, e1, ← hV]; rfl)) (by rw [z1]; omega) h9 h10 ((T.setVm vm').pushCell V) (by rw [← hH1, ← hT]; rfl) X'
  refine ⟨t, stp t ?_, b2⟩
  rw [hT, h7.1]
  exact b1
theorem g_castI {k n0 ix : Nat} {f : Nat → Int32} (hl : Cond.classLink M.1.cls ix "[I" ∈ tblG) (ha : aI h k 0 = some (n0, f)) (hd : dc M pc (.checkcast ix) 3 n) (kk : GL l K M d kc ks n lo (.ref k :: st) h Q) : GL l K M d kc ks pc lo (.ref k :: st) h Q := by
  intro p e R s m args below meth c H locs cells slots mc ms ls hB h1 h2 h3 h4 h5 h6 h7 h8 h9 h10
  obtain ⟨hdg, rfl⟩ := hd
  have hK := hB.2.2.2.2.2.2.2.2.1.1
  have hnm : s.vm.findClass "[I" = some (K.2.2.2.1 0) := (hK.2 0 _ rfl).2
  exact va_castA hB.1 hB.2.1 hB.2.2.2.2.1 (hB.2.2.2.2.2.1 _ hl) h7.2.1 k (cA := K.2.2.2.1 0) (x := (n0, .inl f)) (wl_at (aI_of ha)) hnm hdg (kk p e R s m args below meth c H locs cells slots mc ms ls hB h1 h2 h3 h4 h5 h6 h7 h8 h9 h10)
theorem ap_at {h x : cH} {k : Nat} {e : cE} (he : h[k]? = some e) : (h ++ x)[k]? = some e := by
  rw [List.getElem?_append_left (List.getElem?_eq_some_iff.mp he).1]; exact he
theorem aI_to {h : cH} {k t n : Nat} {f : Nat → Int32} (he : h[k]? = some (.inl (t, n, .inl f))) : aI h k t = some (n, f) := by
  unfold aI; rw [he]; exact if_pos rfl
theorem aL_to {h : cH} {k n : Nat} {f : Nat → Int64} (he : h[k]? = some (.inl (1, n, .inr (.inl f)))) : aL h k = some (n, f) := by
  unfold aL; rw [he]; exact if_pos rfl
theorem aR_to {h : cH} {k t n : Nat} {f : Nat → Option Nat} (he : h[k]? = some (.inl (t, n, .inr (.inr (.inr (.inr f)))))) : aR h k t = some (n, f) := by
  unfold aR; rw [he]; exact if_pos rfl
theorem fld_to {h : cH} {k ci j : Nat} {fs : List Value} {v : Value} (he : h[k]? = some (.inr (ci, fs))) (hv : fs[j]? = some v) : fld h k ci j = some v := by
  unfold fld; rw [he]; exact (if_pos rfl).trans hv
/-- an object behind a heap, and what its constructor makes behind it -/
def hO (h : cH) (ci : Nat) (fs : List Value) (as : cH) : cH := h ++ (.inr (ci, fs) :: as)
theorem hO_at {h : cH} {ci : Nat} {fs : List Value} {as : cH} : (hO h ci fs as)[h.length]? = some (.inr (ci, fs)) := by
  unfold hO; rw [List.getElem?_append_right (Nat.le_refl _), Nat.sub_self]; rfl
theorem hO_e {h : cH} {ci : Nat} {fs : List Value} {as : cH} {o i q : Nat} {e : cE} (hn : h.length = o) (he : as[i]? = some e) (hq : o + 1 + i = q) : (hO h ci fs as)[q]? = some e := by
  subst hn hq
  unfold hO
  rw [List.getElem?_append_right (by omega), show h.length + 1 + i - h.length = i + 1 by omega, List.getElem?_cons_succ]; exact he
theorem hO_f {h : cH} {ci : Nat} {fs : List Value} {as : cH} {o j : Nat} {v : Value} (hn : h.length = o) (hv : fs[j]? = some v) : fld (hO h ci fs as) o ci j = some v := by
  subst hn; exact fld_to hO_at hv
theorem hO_s {h : cH} {ci : Nat} {fs fs2 : List Value} {as : cH} {o j : Nat} {v : Value} (hn : h.length = o) (h2 : fs.set j v = fs2) : sfl (hO h ci fs as) o j v = hO h ci fs2 as := by
  subst hn h2
  unfold sfl; rw [hO_at]
  show (hO h ci fs as).set h.length _ = _
  unfold hO; rw [List.set_append_right _ _ (Nat.le_refl _), Nat.sub_self]; rfl
theorem hO_t {h : cH} {ci : Nat} {fs : List Value} {as as2 : cH} {o i q : Nat} {e : cE} (hn : h.length = o) (hq : o + 1 + i = q) (h2 : as.set i e = as2) : (hO h ci fs as).set q e = hO h ci fs as2 := by
  subst hn hq h2
  unfold hO
  rw [List.set_append_right _ _ (by omega), show h.length + 1 + i - h.length = i + 1 by omega, List.set_cons_succ]
theorem hO_l {h : cH} {ci : Nat} {fs : List Value} {as : cH} : (hO h ci fs as).length = h.length + 1 + as.length := by
  unfold hO; rw [List.length_append, List.length_cons]; omega
theorem hO_n {h : cH} {ci : Nat} {fs : List Value} {as : cH} {e : cE} : hO h ci fs as ++ [e] = hO h ci fs (as ++ [e]) := by
  unfold hO; rw [List.append_assoc]; rfl
theorem hO_hO {h : cH} {ci cj : Nat} {fs gs : List Value} {as bs : cH} : hO (hO h ci fs as) cj gs bs = hO h ci fs (as ++ (.inr (cj, gs) :: bs)) := by
  unfold hO; rw [List.append_assoc]; rfl
theorem hO_kf {h : cH} {ci : Nat} {fs : List Value} {as : cH} {k c j : Nat} {v : Value} (hv : fld h k c j = some v) : fld (hO h ci fs as) k c j = some v := by
  obtain ⟨gs, h1, h2⟩ := fld_of hv
  exact fld_to (ap_at h1) h2
theorem hO_ka {h : cH} {ci : Nat} {fs : List Value} {as : cH} {k t N : Nat} {f : Nat → Int32} (hv : aI h k t = some (N, f)) : aI (hO h ci fs as) k t = some (N, f) := aI_to (ap_at (aI_of hv))
theorem g_oF {ix ci j o : Nat} {ty : FieldType} {fs fs2 : List Value} {as : cH} {v w : Value} (hn : h.length = o) (hf : fl M.1.cls ix ci j ty true) (hini : M.1.name = "<init>") (hcn : (classes[ci]?).map (fun r => r.1) = some M.1.cls) (hd : dc M pc (.putfield ix) 3 n) (hv : fs[j]? = some w) (hnr : narrow ty (cv K v) = cv K v) (hfit : fits ty (cv K v) = true) (h2 : fs.set j v = fs2) (kk : GL l K M d kc ks n lo st (hO h ci fs2 as) Q) : GL l K M d kc ks pc lo (v :: .ref o :: st) (hO h ci fs as) Q :=
  g_putFG hf hini hcn hd (hO_f hn hv) hnr hfit (by rw [hO_s hn h2]; exact kk)
theorem g_oG {ix ci j o : Nat} {ty : FieldType} {fs fs2 : List Value} {as : cH} {v w : Value} (hn : h.length = o) (hf : fl M.1.cls ix ci j ty false) (hd : dc M pc (.putfield ix) 3 n) (hv : fs[j]? = some w) (hnr : narrow ty (cv K v) = cv K v) (hfit : fits ty (cv K v) = true) (h2 : fs.set j v = fs2) (kk : GL l K M d kc ks n lo st (hO h ci fs2 as) Q) : GL l K M d kc ks pc lo (v :: .ref o :: st) (hO h ci fs as) Q :=
  g_putG hf hd (hO_f hn hv) hnr hfit (by rw [hO_s hn h2]; exact kk)
theorem g_oR {ci o q : Nat} {fs : List Value} {as as2 : cH} {e : cE} (hn : h.length = o) (hq : o + 1 + as.length = q) (ha : as ++ [e] = as2) (kk : GL l K M d kc ks pc lo (.ref q :: st) (hO h ci fs as2) Q) : GL l K M d kc ks pc lo (.ref (hO h ci fs as).length :: st) (hO h ci fs as ++ [e]) Q := by
  subst ha; rw [hO_l, hn, hq, hO_n]; exact kk
end CPY
theorem ofNat_nI (a : Nat) : Int32.ofNat a = nI a := rfl
theorem min_nI {a b : Nat} (h : a ≤ b) (hb : b < 2147483648) : (if nI a < nI b then nI a else nI b) = nI a := by
  by_cases e : a = b
  · subst e; exact ite_self _
  · refine if_pos ?_
    rw [i_lt, nI_ti (by omega), nI_ti hb]; omega
set_option maxHeartbeats 800000 in
theorem rAr_copyOf {l : Launch} {K : cK} {d : Nat} {h : cH} {k n0 : Nat} {f : Nat → Int32} (q : Nat) (ha : aI h k 0 = some (n0, f)) (hq : q ≤ n0) (hn : n0 ≤ 400) (hd : 1 ≤ d) : CC l K mAr_copyOf d 1 q [.ref k, .int (nI q)] h (fun r h1 => ∃ g : Nat → Int32, (∀ j, j < q → g j = f j) ∧ r = some (.ref h.length) ∧ h1 = h ++ [.inl (0, q, .inl g)]) := by
  refine CC.of okAr_copyOf (Nat.le_of_ble_eq_true rfl) ?_
  refine g_iload_n dAr_copyOf_0 rfl ?_
  refine g_aload_n dAr_copyOf_1 rfl ?_
  refine g_alenI dAr_copyOf_2 (by decide) ha ?_
  refine g_topI (nI n0) rfl ?_
  refine g_room (kc2 := 0 + 1) (ks2 := 0 + q) (Nat.le_refl _) (by omega) (by omega) ?_
  by_cases e : q = n0
  · subst e
    refine g_ic_ne ((q : Nat) : Int) ((q : Nat) : Int) 14 (nI_ti (by omega)) (nI_ti (by omega)) dAr_copyOf_3 rfl (fun c => absurd rfl c) (fun _ => ?_)
    refine g_aload_n dAr_copyOf_6 rfl ?_
    refine g_clone mwAr_316 ha hd (Nat.le_of_ble_eq_true rfl) dAr_copyOf_7 ?_
    refine g_castI (n0 := q) (f := f) clAr_317 (aI_to (by rw [List.getElem?_append_right (Nat.le_refl _), Nat.sub_self]; rfl)) dAr_copyOf_10 ?_
    exact g_aret (Or.inr ⟨_, rfl⟩) rfl (Or.inr ⟨_, rfl⟩) dAr_copyOf_13 ⟨f, fun _ _ => rfl, rfl, rfl⟩
  · refine g_ic_ne ((q : Nat) : Int) ((n0 : Nat) : Int) 14 (nI_ti (by omega)) (nI_ti (by omega)) dAr_copyOf_3 rfl (fun _ => ?_) (fun c => absurd c (by omega))
    refine g_iload_n dAr_copyOf_14 rfl ?_
    obtain ⟨x1, x2⟩ := nn_nI (a := q) (by omega)
    refine g_newI (N := q) x1 x2 (by omega) dAr_copyOf_15 ?_
    have hsz : (h ++ [(.inl (0, q, .inl (fun _ => (0 : Int32))) : cE)])[h.length]? = some (.inl (0, q, .inl (fun _ => 0))) := by
      rw [List.getElem?_append_right (Nat.le_refl _), Nat.sub_self]; rfl
    have ha1 : aI (h ++ [(.inl (0, q, .inl (fun _ => (0 : Int32))) : cE)]) k 0 = some (n0, f) := aI_to (ap_at (aI_of ha))
    refine g_astore_n dAr_copyOf_17 (by decide) ?_
    refine g_aload_n dAr_copyOf_18 rfl ?_
    refine g_iconstv (nI 0) dAr_copyOf_19 rfl ?_
    refine g_aload_n dAr_copyOf_20 rfl ?_
    refine g_iconstv (nI 0) dAr_copyOf_21 rfl ?_
    refine g_aload_n dAr_copyOf_22 rfl ?_
    refine g_alenI dAr_copyOf_23 (by decide) ha1 ?_
    refine g_topI (nI n0) rfl ?_
    refine g_iload_n dAr_copyOf_24 rfl ?_
    refine g_min mlAr_304 hd (Nat.le_of_ble_eq_true rfl) dAr_copyOf_25 ?_
    refine g_topI (nI q) (min_nI hq (by omega)) ?_
    refine g_cpI (h2 := h ++ [.inl (0, q, .inl (va_cpy f (fun _ => 0) 0 0 q))]) 0 0 q mwAr_150 ha1 (aI_to hsz) (by omega) (by omega) (by omega) (by omega) (by rw [List.set_append_right _ _ (Nat.le_refl _), Nat.sub_self]; rfl) hd (Nat.le_of_ble_eq_true rfl) dAr_copyOf_28 ?_
    refine g_aload_n dAr_copyOf_31 rfl ?_
    exact g_aret (Or.inr ⟨_, rfl⟩) rfl (Or.inr ⟨_, rfl⟩) dAr_copyOf_32 ⟨_, fun j hj => by unfold va_cpy; rw [if_pos ⟨by omega, by omega⟩]; congr 1; omega, rfl, rfl⟩
theorem hp_len {I : wI} {L : wL} {R : wR} {dy : cH} : (hp I L R dy).length = dy.length + 105 := rfl
theorem hp_hO {I : wI} {L : wL} {R : wR} {dy : cH} {fs : List Value} {as : cH} : hO (hp I L R dy) 9 fs as = hp I L R (hO dy 9 fs as) := rfl
set_option maxHeartbeats 1000000 in
theorem r9_init {l : Launch} {K : cK} {d : Nat} {I : wI} {L : wL} {R : wR} {dy : cH} (nc b : Nat) (h5 : I 14 5 = nI nc) (hb10 : I 14 10 = nI b) (hnc : nc ≤ 12) (hb : b ≤ 400) (hd : 2 ≤ d) : CC l K m9_init d 6 (4 * nc + 2 * b) [.ref (dy.length + 105), .ref 14] (hO (hp I L R dy) 9 [.int 0, .null, .null, .null, .null, .null, .null] []) (fun r h1 => ∃ G1 G2 G3 G4 G5 G6 : Nat → Int32, (∀ c, c < nc → G1 c = I 15 c ∧ G2 c = I 16 c ∧ G3 c = I 17 c ∧ G4 c = I 18 c) ∧ (∀ k, k < b → G5 k = I 19 k ∧ G6 k = I 20 k) ∧ r = none ∧ h1 = hO (hp I L R dy) 9 [.int (nI nc), .ref ((dy.length + 105) + 1), .ref ((dy.length + 105) + 2), .ref ((dy.length + 105) + 3), .ref ((dy.length + 105) + 4), .ref ((dy.length + 105) + 5), .ref ((dy.length + 105) + 6)] [.inl (0, nc, .inl G1), .inl (0, nc, .inl G2), .inl (0, nc, .inl G3), .inl (0, nc, .inl G4), .inl (0, b, .inl G5), .inl (0, b, .inl G6)]) := by
  have hn : (hp I L R dy).length = (dy.length + 105) := rfl
  refine CC.of ok9_init (Nat.le_of_ble_eq_true rfl) ?_
  refine g_aload_n d9_init_0 rfl ?_
  refine g_obj mw9_1 (by omega) (Nat.le_of_ble_eq_true rfl) d9_init_1 ?_
  refine g_aload_n d9_init_4 rfl ?_
  refine g_aload_n d9_init_5 rfl ?_
  refine g_get fl9_7 d9_init_6 (hO_kf f_14_5) ?_
  refine g_topI (nI nc) h5 ?_
  refine g_oF (fs2 := [.int (nI nc), .null, .null, .null, .null, .null, .null]) hn fl9_13 rfl rfl d9_init_9 rfl rfl rfl rfl ?_
  refine g_aload_n d9_init_12 rfl ?_
  refine g_aload_n d9_init_13 rfl ?_
  refine g_get fl9_16 d9_init_14 (hO_kf f_14_6) ?_
  refine g_aload_n d9_init_17 rfl ?_
  refine g_get fl9_13 d9_init_18 (hO_f hn rfl) ?_
  refine g_callS_2k (kc1 := 1) (ks1 := nc) (kc2 := 5) (ks2 := 0 + nc + nc + nc + b + b) (by omega) (by omega) smAr_copyOf ml9_20 (rAr_copyOf (h := hO (hp I L R dy) 9 [.int (nI nc), .null, .null, .null, .null, .null, .null] []) nc (hO_ka a_15) (by omega) (by omega) (Nat.le_refl 1)) (by omega) (Nat.le_of_ble_eq_true rfl) d9_init_21 (fun r h1 hx => ?_)
  obtain ⟨G1, hG1, rfl, rfl⟩ := hx
  refine g_oR (st := [.ref (dy.length + 105)]) (q := (dy.length + 105) + 1) (as2 := [.inl (0, nc, .inl G1)]) hn (by show _ + 1 + 0 = _; omega) rfl ?_
  refine g_oF (fs2 := [.int (nI nc), .ref ((dy.length + 105) + 1), .null, .null, .null, .null, .null]) hn fl9_26 rfl rfl d9_init_24 rfl rfl rfl rfl ?_
  refine g_aload_n d9_init_27 rfl ?_
  refine g_aload_n d9_init_28 rfl ?_
  refine g_get fl9_27 d9_init_29 (hO_kf f_14_7) ?_
  refine g_aload_n d9_init_32 rfl ?_
  refine g_get fl9_13 d9_init_33 (hO_f hn rfl) ?_
  refine g_callS_2k (kc1 := 1) (ks1 := nc) (kc2 := 4) (ks2 := 0 + nc + nc + b + b) (by omega) (by omega) smAr_copyOf ml9_20 (rAr_copyOf (h := hO (hp I L R dy) 9 [.int (nI nc), .ref ((dy.length + 105) + 1), .null, .null, .null, .null, .null] [.inl (0, nc, .inl G1)]) nc (hO_ka a_16) (by omega) (by omega) (Nat.le_refl 1)) (by omega) (Nat.le_of_ble_eq_true rfl) d9_init_36 (fun r h1 hx => ?_)
  obtain ⟨G2, hG2, rfl, rfl⟩ := hx
  refine g_oR (st := [.ref (dy.length + 105)]) (q := (dy.length + 105) + 2) (as2 := [.inl (0, nc, .inl G1), .inl (0, nc, .inl G2)]) hn (by show _ + 1 + 1 = _; omega) rfl ?_
  refine g_oF (fs2 := [.int (nI nc), .ref ((dy.length + 105) + 1), .ref ((dy.length + 105) + 2), .null, .null, .null, .null]) hn fl9_30 rfl rfl d9_init_39 rfl rfl rfl rfl ?_
  refine g_aload_n d9_init_42 rfl ?_
  refine g_aload_n d9_init_43 rfl ?_
  refine g_get fl9_31 d9_init_44 (hO_kf f_14_8) ?_
  refine g_aload_n d9_init_47 rfl ?_
  refine g_get fl9_13 d9_init_48 (hO_f hn rfl) ?_
  refine g_callS_2k (kc1 := 1) (ks1 := nc) (kc2 := 3) (ks2 := 0 + nc + b + b) (by omega) (by omega) smAr_copyOf ml9_20 (rAr_copyOf (h := hO (hp I L R dy) 9 [.int (nI nc), .ref ((dy.length + 105) + 1), .ref ((dy.length + 105) + 2), .null, .null, .null, .null] [.inl (0, nc, .inl G1), .inl (0, nc, .inl G2)]) nc (hO_ka a_17) (by omega) (by omega) (Nat.le_refl 1)) (by omega) (Nat.le_of_ble_eq_true rfl) d9_init_51 (fun r h1 hx => ?_)
  obtain ⟨G3, hG3, rfl, rfl⟩ := hx
  refine g_oR (st := [.ref (dy.length + 105)]) (q := (dy.length + 105) + 3) (as2 := [.inl (0, nc, .inl G1), .inl (0, nc, .inl G2), .inl (0, nc, .inl G3)]) hn (by show _ + 1 + 2 = _; omega) rfl ?_
  refine g_oF (fs2 := [.int (nI nc), .ref ((dy.length + 105) + 1), .ref ((dy.length + 105) + 2), .ref ((dy.length + 105) + 3), .null, .null, .null]) hn fl9_34 rfl rfl d9_init_54 rfl rfl rfl rfl ?_
  refine g_aload_n d9_init_57 rfl ?_
  refine g_aload_n d9_init_58 rfl ?_
  refine g_get fl9_35 d9_init_59 (hO_kf f_14_9) ?_
  refine g_aload_n d9_init_62 rfl ?_
  refine g_get fl9_13 d9_init_63 (hO_f hn rfl) ?_
  refine g_callS_2k (kc1 := 1) (ks1 := nc) (kc2 := 2) (ks2 := 0 + b + b) (by omega) (by omega) smAr_copyOf ml9_20 (rAr_copyOf (h := hO (hp I L R dy) 9 [.int (nI nc), .ref ((dy.length + 105) + 1), .ref ((dy.length + 105) + 2), .ref ((dy.length + 105) + 3), .null, .null, .null] [.inl (0, nc, .inl G1), .inl (0, nc, .inl G2), .inl (0, nc, .inl G3)]) nc (hO_ka a_18) (by omega) (by omega) (Nat.le_refl 1)) (by omega) (Nat.le_of_ble_eq_true rfl) d9_init_66 (fun r h1 hx => ?_)
  obtain ⟨G4, hG4, rfl, rfl⟩ := hx
  refine g_oR (st := [.ref (dy.length + 105)]) (q := (dy.length + 105) + 4) (as2 := [.inl (0, nc, .inl G1), .inl (0, nc, .inl G2), .inl (0, nc, .inl G3), .inl (0, nc, .inl G4)]) hn (by show _ + 1 + 3 = _; omega) rfl ?_
  refine g_oF (fs2 := [.int (nI nc), .ref ((dy.length + 105) + 1), .ref ((dy.length + 105) + 2), .ref ((dy.length + 105) + 3), .ref ((dy.length + 105) + 4), .null, .null]) hn fl9_38 rfl rfl d9_init_69 rfl rfl rfl rfl ?_
  refine g_aload_n d9_init_72 rfl ?_
  refine g_aload_n d9_init_73 rfl ?_
  refine g_get fl9_39 d9_init_74 (hO_kf f_14_11) ?_
  refine g_aload_n d9_init_77 rfl ?_
  refine g_get fl9_42 d9_init_78 (hO_kf f_14_10) ?_
  refine g_topI (nI b) hb10 ?_
  refine g_callS_2k (kc1 := 1) (ks1 := b) (kc2 := 1) (ks2 := 0 + b) (by omega) (by omega) smAr_copyOf ml9_20 (rAr_copyOf (h := hO (hp I L R dy) 9 [.int (nI nc), .ref ((dy.length + 105) + 1), .ref ((dy.length + 105) + 2), .ref ((dy.length + 105) + 3), .ref ((dy.length + 105) + 4), .null, .null] [.inl (0, nc, .inl G1), .inl (0, nc, .inl G2), .inl (0, nc, .inl G3), .inl (0, nc, .inl G4)]) b (hO_ka a_19) (by omega) (by omega) (Nat.le_refl 1)) (by omega) (Nat.le_of_ble_eq_true rfl) d9_init_81 (fun r h1 hx => ?_)
  obtain ⟨G5, hG5, rfl, rfl⟩ := hx
  refine g_oR (st := [.ref (dy.length + 105)]) (q := (dy.length + 105) + 5) (as2 := [.inl (0, nc, .inl G1), .inl (0, nc, .inl G2), .inl (0, nc, .inl G3), .inl (0, nc, .inl G4), .inl (0, b, .inl G5)]) hn (by show _ + 1 + 4 = _; omega) rfl ?_
  refine g_oF (fs2 := [.int (nI nc), .ref ((dy.length + 105) + 1), .ref ((dy.length + 105) + 2), .ref ((dy.length + 105) + 3), .ref ((dy.length + 105) + 4), .ref ((dy.length + 105) + 5), .null]) hn fl9_45 rfl rfl d9_init_84 rfl rfl rfl rfl ?_
  refine g_aload_n d9_init_87 rfl ?_
  refine g_aload_n d9_init_88 rfl ?_
  refine g_get fl9_46 d9_init_89 (hO_kf f_14_12) ?_
  refine g_aload_n d9_init_92 rfl ?_
  refine g_get fl9_42 d9_init_93 (hO_kf f_14_10) ?_
  refine g_topI (nI b) hb10 ?_
  refine g_callS_2k (kc1 := 1) (ks1 := b) (kc2 := 0) (ks2 := 0) (by omega) (by omega) smAr_copyOf ml9_20 (rAr_copyOf (h := hO (hp I L R dy) 9 [.int (nI nc), .ref ((dy.length + 105) + 1), .ref ((dy.length + 105) + 2), .ref ((dy.length + 105) + 3), .ref ((dy.length + 105) + 4), .ref ((dy.length + 105) + 5), .null] [.inl (0, nc, .inl G1), .inl (0, nc, .inl G2), .inl (0, nc, .inl G3), .inl (0, nc, .inl G4), .inl (0, b, .inl G5)]) b (hO_ka a_20) (by omega) (by omega) (Nat.le_refl 1)) (by omega) (Nat.le_of_ble_eq_true rfl) d9_init_96 (fun r h1 hx => ?_)
  obtain ⟨G6, hG6, rfl, rfl⟩ := hx
  refine g_oR (st := [.ref (dy.length + 105)]) (q := (dy.length + 105) + 6) (as2 := [.inl (0, nc, .inl G1), .inl (0, nc, .inl G2), .inl (0, nc, .inl G3), .inl (0, nc, .inl G4), .inl (0, b, .inl G5), .inl (0, b, .inl G6)]) hn (by show _ + 1 + 5 = _; omega) rfl ?_
  refine g_oF (fs2 := [.int (nI nc), .ref ((dy.length + 105) + 1), .ref ((dy.length + 105) + 2), .ref ((dy.length + 105) + 3), .ref ((dy.length + 105) + 4), .ref ((dy.length + 105) + 5), .ref ((dy.length + 105) + 6)]) hn fl9_49 rfl rfl d9_init_99 rfl rfl rfl rfl ?_
  exact g_vret rfl d9_init_102 ⟨G1, G2, G3, G4, G5, G6, fun c hc => ⟨hG1 c hc, hG2 c hc, hG3 c hc, hG4 c hc⟩, fun k hk => ⟨hG5 k hk, hG6 k hk⟩, rfl, rfl⟩
