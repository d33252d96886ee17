section RY
variable {l : Launch} {K : cK} {M : MI} {d kc ks pc n : Nat} {lo : List (Nat × Value)} {st : List Value} {h : cH} {Q : Option Value → cH → Prop}
theorem g_nload_n {z : Fin 4} (hd : dc M pc (.aload_n z) 1 n) (hv : lk lo z = some .null) (k : GL l K M d kc ks n lo (.null :: st) h Q) : GL l K M d kc ks pc lo st h Q := by
  intro p e R s m args below meth c H locs cells slots mc ms ls hB h1 h2 h3 h4 h5 h6 h7 h8 h9 h10
  obtain ⟨hdg, rfl⟩ := hd
  exact lv_aload_nN hB.1 hB.2.1 hdg rfl (lh_of h10 hv) (k p e R s m args below meth c H locs cells slots mc ms ls hB h1 h2 h3 h4 h5 h6 h7 h8 h9 h10)
theorem g_nload {z : Nat} (hd : dc M pc (.aload z) 2 n) (hv : lk lo z = some .null) (k : GL l K M d kc ks n lo (.null :: st) h Q) : GL l K M d kc ks pc lo st h Q := by
  intro p e R s m args below meth c H locs cells slots mc ms ls hB h1 h2 h3 h4 h5 h6 h7 h8 h9 h10
  obtain ⟨hdg, rfl⟩ := hd
  exact lv_aloadN hB.1 hB.2.1 hdg (lh_of h10 hv) (k p e R s m args below meth c H locs cells slots mc ms ls hB h1 h2 h3 h4 h5 h6 h7 h8 h9 h10)
/-- a reference or null -/
theorem g_vload_n {z : Fin 4} {o : Option Nat} (hd : dc M pc (.aload_n z) 1 n) (hv : lk lo z = some (rfv o)) (k : GL l K M d kc ks n lo (rfv o :: st) h Q) : GL l K M d kc ks pc lo st h Q := by
  cases o with
  | none => exact g_nload_n hd hv k
  | some x => exact g_aload_n hd hv k
theorem g_vload {z : Nat} {o : Option Nat} (hd : dc M pc (.aload z) 2 n) (hv : lk lo z = some (rfv o)) (k : GL l K M d kc ks n lo (rfv o :: st) h Q) : GL l K M d kc ks pc lo st h Q := by
  cases o with
  | none => exact g_nload hd hv k
  | some x => exact g_aload hd hv k
theorem g_mono {Q2 : Option Value → cH → Prop} (k : GL l K M d kc ks pc lo st h Q) (hq : ∀ r h1, Q r h1 → Q2 r h1) : GL l K M d kc ks pc lo st h Q2 := by
  intro p e R s m args below meth c H locs cells slots mc ms ls hB h1 h2 h3 h4 h5 h6 h7 h8 h9 h10
  have z := k p e R s m args below meth c H locs cells slots mc ms ls hB h1 h2 h3 h4 h5 h6 h7 h8 h9 h10
  intro T hT X
  obtain ⟨t, a, b⟩ := z T hT X
  obtain ⟨o, q1, q2, ⟨r, hh, g1, g2, g3, g4⟩, q5⟩ := b
  exact ⟨t, a, o, q1, q2, ⟨r, hh, g1, g2, hq r hh g3, g4⟩, q5⟩
end RY
/-- a range that means v -/
def rgC (op arg : Nat → Nat) (a b : Nat) (v : Den) : Prop := (a = b ∧ v = d1) ∨ SC op arg a b v 64
theorem rgC.ev {op arg : Nat → Nat} {a b : Nat} {v : Den} (h : rgC op arg a b v) (env : Nat → Int64) : ∃ f res, eC op arg env b f a [] = some res ∧ ((res = none ∧ v env = none) ∨ ∃ s, res = some s ∧ v env = some (s.headD 1)) := by
  rcases h with ⟨rfl, rfl⟩ | h
  · exact ⟨1, some [], by rw [eC_s, if_pos (Nat.le_refl _)], Or.inr ⟨[], rfl, rfl⟩⟩
  · obtain ⟨f, hf⟩ := h.ev (Nat.le_refl _) env
    refine ⟨f, _, hf, ?_⟩
    cases hv : v env with
    | none => exact Or.inl ⟨rfl, rfl⟩
    | some x => exact Or.inr ⟨[x], rfl, rfl⟩
def clC (op arg : Nat → Nat) (s1 s2 t2 : Nat) (c : Cl) : Prop := c.1 ≤ 2 ∧ s1 ≤ s2 ∧ s2 ≤ t2 ∧ rgC op arg s1 s2 c.2.1 ∧ rgC op arg s2 t2 c.2.2
/-- a text of the class that means cs -/
def CTX (dy : cH) (T : Nat) (cs : List Cl) : Prop := ∃ (sz : Nat) (A : Nat → Nat → Int32) (st wi : Nat → Nat), TXT dy T cs.length sz A ∧ (∀ k, k < sz → A 5 k = nI (st k) ∧ A 6 k = nI (wi k) ∧ vst st wi k ∧ (29 ≤ cop st wi k → k < wi k)) ∧ ∀ c, c < cs.length → ∃ s1 s2 t2, A 1 c = nI (cs.getD c (0, d0, d0)).1 ∧ A 2 c = nI s1 ∧ A 3 c = nI s2 ∧ A 4 c = nI t2 ∧ t2 ≤ sz ∧ clC (cop st wi) (carg st wi) s1 s2 t2 (cs.getD c (0, d0, d0))
theorem CTX.ap {dy dz : cH} {T : Nat} {cs : List Cl} (h : CTX dy T cs) : CTX (dy ++ dz) T cs := by
  obtain ⟨sz, A, st, wi, h1, h2⟩ := h
  exact ⟨sz, A, st, wi, h1.ap, h2⟩
/-- what reckoning leaves -/
def RF (r0 s0 : Nat) (I : wI) (L : wL) (I2 : wI) (L2 : wL) : Prop := (∀ c, c ≠ r0 → I2 c = I c) ∧ (∀ j, j ≠ 2 → j ≠ 3 → I2 r0 j = I r0 j) ∧ (∀ c, c ≠ s0 → c ≠ r0 → L2 c = L c)
theorem RF.tr {r0 s0 : Nat} {I I2 I3 : wI} {L L2 L3 : wL} (h : RF r0 s0 I L I2 L2) (h2 : RF r0 s0 I2 L2 I3 L3) : RF r0 s0 I L I3 L3 := ⟨fun c hc => (h2.1 c hc).trans (h.1 c hc), fun j a b => (h2.2.1 j a b).trans (h.2.1 j a b), fun c a b => (h2.2.2 c a b).trans (h.2.2 c a b)⟩
theorem clp_n {hi : Nat} (hh : hi < 1000) (v : Int64) : (if (if v < lN hi then v else lN hi) < lN 0 then lN 0 else (if v < lN hi then v else lN hi)).toInt32 = nI (clp 0 hi v).toNat := by
  have e0 : (lN 0).toInt = 0 := rfl
  have eh : (lN hi).toInt = (hi : Int) := lN_toInt (by omega)
  unfold clp
  by_cases a : v < lN hi
  · rw [if_pos a]
    have a2 := a; rw [l_lt, eh] at a2
    by_cases b : v < lN 0
    · rw [if_pos b, if_pos (by rw [l_lt, e0] at b; exact b), lN_i]; rfl
    · have b2 := b; rw [l_lt, e0] at b2
      rw [if_neg b, if_neg b2, if_neg (by omega), i_eq, l2i_small (by omega) (by omega), nI_ti (by omega)]; omega
  · rw [if_neg a]
    have a2 := a; rw [l_lt, eh] at a2
    rw [if_neg (by rw [l_lt, eh, e0]; omega), lN_i, if_neg (by omega)]
    by_cases b : (hi : Int) < v.toInt
    · rw [if_pos b]; congr 1
    · rw [if_neg b]; congr 1; omega
set_option maxHeartbeats 200000 in
theorem r5_22_reckon {l : Launch} {K : cK} {d : Nat} {I : wI} {L : wL} {R : wR} {dy : cH} {T nc sz : Nat} {A : Nat → Nat → Int32} (hX : TXT dy T nc sz A) (st wi : Nat → Nat) (hv : ∀ k, k < sz → A 5 k = nI (st k) ∧ A 6 k = nI (wi k) ∧ vst st wi k ∧ (29 ≤ cop st wi k → k < wi k)) (env : Nat → Int64) (henv : ∀ j, j < 7 → env (j + 1) = (I 23 j).toInt64) (a b : Nat) (hab : a ≤ b) (hb : b ≤ sz) (v : Den) (hr : rgC (cop st wi) (carg st wi) a b v) (hd : 1 ≤ d) : CX l K m5_reckon d [.ref 22, .ref T, .int (nI a), .int (nI b)] (hp I L R dy) (α := wI × wL × Int64) (fun x => RF 22 24 I L x.1 x.2.1 ∧ x.2.1 22 = L 22 ∧ x.1 22 3 = (if v env = none then 1 else 0) ∧ ∀ y, v env = some y → x.2.2 = y) (fun x => .long x.2.2) (fun x => hp x.1 x.2.1 R dy) := by
  obtain ⟨f, res, hf, hres⟩ := hr.ev env
  have hsz4 := hX
  obtain ⟨_, _, _, _, _, _, _, _, _, _, hsz4⟩ := hsz4
  refine CC.of ok5_reckon (Nat.le_of_ble_eq_true rfl) ?_
  refine g_aload_n d5_reckon_0 rfl ?_
  refine g_iconstv (nI 0) d5_reckon_1 rfl ?_
  refine g_putIh _ fl5_56 d5_reckon_2 f_22_2 s_22_2 ?_
  refine g_aload_n d5_reckon_5 rfl ?_
  refine g_iconstv (nI 0) d5_reckon_6 rfl ?_
  refine g_putZh _ fl5_36 d5_reckon_7 f_22_3 (by decide) s_22_3 ?_
  refine g_iload_n d5_reckon_10 rfl ?_
  refine g_istore d5_reckon_11 (by decide) ?_
  refine g_lo [(0, .ref 22), (1, .ref T), (2, .int (nI a)), (3, .int (nI b)), (4, .int (nI a))] ⟨rfl, rfl, rfl, rfl, rfl, trivial⟩ ?_
  refine g_mono (r5_22_rkL (I := I) (L := L) hX st wi b hb (fun k hk => hv k (by omega)) env henv (nI a) (by omega) f a [] (uI (uI I 22 2 (nI 0)) 22 3 (nI 0)) L res trivial (fun c hc => by rw [uI_n hc, uI_n hc]) (fun j j1 j2 => by rw [uI_sn j2, uI_sn j1]) (fun _ _ => rfl) rfl rfl (by decide) (by omega) hf) (fun z h q => ?_)
  obtain ⟨x, ⟨x1, x2, x3, x4, x5⟩, rfl, rfl⟩ := q
  refine ⟨x, ⟨⟨x1, x2, fun c c1 c2 => x3 c c1⟩, x3 22 (by decide), ?_, fun y hy => ?_⟩, rfl, rfl⟩
  · rcases hres with ⟨q1, q2⟩ | ⟨s, q1, q2⟩
    · rw [x4, q1, q2]; rfl
    · rw [x4, q1, q2]; rfl
  · rcases hres with ⟨q1, q2⟩ | ⟨s, q1, q2⟩
    · rw [q2] at hy; cases hy
    · rw [q2] at hy; injection hy with hy; rw [x5 s q1]; exact hy
set_option maxHeartbeats 200000 in
theorem r5_22_told {l : Launch} {K : cK} {d : Nat} {I : wI} {L : wL} {R : wR} {dy : cH} (hi : Nat) (hh : hi < 1000) (hd : 1 ≤ d) : CE l K m5_toldWithin d [.ref 22, .int (nI 0), .int (nI hi)] (hp I L R dy) (.int (nI (clp 0 hi (L 22 4)).toNat)) (hp I L R dy) := by
  refine CC.of ok5_toldWithin (Nat.le_of_ble_eq_true rfl) ?_
  refine g_iload_n d5_toldWithin_0 rfl ?_
  refine g_i2lN (by omega) d5_toldWithin_1 ?_
  refine g_iload_n d5_toldWithin_2 rfl ?_
  refine g_i2lN (by omega) d5_toldWithin_3 ?_
  refine g_aload_n d5_toldWithin_4 rfl ?_
  refine g_get fl5_43 d5_toldWithin_5 f_22_4 ?_
  refine g_minL ml5_47 (by omega) (Nat.le_of_ble_eq_true rfl) d5_toldWithin_8 ?_
  refine g_maxL ml5_53 (by omega) (Nat.le_of_ble_eq_true rfl) d5_toldWithin_11 ?_
  refine g_l2i d5_toldWithin_14 ?_
  refine g_topI (nI (clp 0 hi (L 22 4)).toNat) (clp_n hh _) ?_
  exact g_iret rfl d5_toldWithin_15 (⟨rfl, rfl⟩)
set_option maxHeartbeats 1000000 in
theorem r5_22_lhL {l : Launch} {K : cK} {d : Nat} {I : wI} {L : wL} {R : wR} {dy : cH} {T : Nat} {cs : List Cl} (hC : CTX dy T cs) (head : Nat) (hh : head ≤ 2) (env : Nat → Int64) (henv : ∀ j, j < 7 → env (j + 1) = (I 23 j).toInt64) (hd : 2 ≤ d) : ∀ (m : Nat) (I2 : wI) (L2 : wL), m ≤ cs.length → RF 22 24 I L I2 L2 → GL l K m5_lastHolds d 0 0 13 [(0, .ref 22), (1, .ref T), (2, .int (nI head)), (3, .int (mkI m))] [] (hp I2 L2 R dy) (fun z h => ∃ x : wI × wL, (RF 22 24 I L x.1 x.2 ∧ ∀ v, tW cs env head m = some v → x.2 22 4 = v) ∧ z = some (.int (if (tW cs env head m).isSome = true then 1 else 0)) ∧ h = hp x.1 x.2 R dy) := by
  obtain ⟨sz, A, st, wi, hX, hv, hc⟩ := hC
  have hsz4 := hX
  obtain ⟨_, _, _, _, _, _, _, _, _, hn12, hsz4⟩ := hsz4
  intro m
  induction m with
  | zero =>
    intro I2 L2 hm hF
    refine g_iload_n d5_lastHolds_13 rfl ?_
    refine g_iz_lt (-1) 102 (by decide) d5_lastHolds_14 rfl (fun _ => ?_) (fun c14 => absurd c14 (by decide))
    refine g_iconstv (nI 0) d5_lastHolds_102 rfl ?_
    exact g_zret rfl (by decide) d5_lastHolds_103 (⟨(I2, L2), ⟨hF, fun v hv => by cases hv⟩, rfl, rfl⟩)
  | succ m ih =>
    intro I2 L2 hm hF
    obtain ⟨s1, s2, t2, c1, c2, c3, c4, c5, c6, c7, c8, c9, c10⟩ := hc m (by omega)
    rw [mkI_s]
    have hE : tW cs env head (m + 1) = (tl1 (cs.getD m (0, d0, d0)) env head).elim (tW cs env head m) some := rfl
    have henv2 : ∀ j, j < 7 → env (j + 1) = (I2 23 j).toInt64 := fun j hj => by rw [hF.1 23 (by decide)]; exact henv j hj
    generalize cs.getD m (0, d0, d0) = c at *
    have hsk : ∀ (I3 : wI) (L3 : wL), RF 22 24 I L I3 L3 → tl1 c env head = none → GL l K m5_lastHolds d 0 0 96 [(0, .ref 22), (1, .ref T), (2, .int (nI head)), (3, .int (nI m))] [] (hp I3 L3 R dy) (fun z h => ∃ x : wI × wL, (RF 22 24 I L x.1 x.2 ∧ ∀ v, tW cs env head (m + 1) = some v → x.2 22 4 = v) ∧ z = some (.int (if (tW cs env head (m + 1)).isSome = true then 1 else 0)) ∧ h = hp x.1 x.2 R dy) := by
      intro I3 L3 hF3 hnone
      rw [hE, hnone]
      refine g_iinc (mkI m) d5_lastHolds_96 rfl (by cases m with | zero => decide | succ m => rw [mkI_s, nI_dec (by omega)]; rfl) (by decide) ?_
      refine g_goto 13 d5_lastHolds_99 rfl ?_
      refine g_lo [(0, .ref 22), (1, .ref T), (2, .int (nI head)), (3, .int (mkI m))] ⟨rfl, rfl, rfl, rfl, trivial⟩ ?_
      exact ih I3 L3 (by omega) hF3
    by_cases hh2 : c.1 = head
    rotate_left
    · skip
      refine g_iload_n d5_lastHolds_13 rfl ?_
      refine g_iz_lt ((m : Nat) : Int) 102 (nI_ti (by omega)) d5_lastHolds_14 rfl (fun c14 => absurd c14 (by omega)) (fun _ => ?_)
      refine g_aload_n d5_lastHolds_17 rfl ?_
      refine g_get fl5_23 d5_lastHolds_18 (hX.f1) ?_
      refine g_iload_n d5_lastHolds_21 rfl ?_
      refine g_ialdN (m) d5_lastHolds_22 hX.a1 (rfl) (by omega) (by omega) ?_
      refine g_topI (nI (c.1)) (c1) ?_
      refine g_iload_n d5_lastHolds_23 rfl ?_
      refine g_ic_eq ((c.1 : Nat) : Int) ((head : Nat) : Int) 30 (nI_ti (by omega)) (nI_ti (by omega)) d5_lastHolds_24 rfl (fun c24 => absurd c24 (by omega)) (fun _ => ?_)
      refine g_goto 96 d5_lastHolds_27 rfl ?_
      refine g_lo [(0, .ref 22), (1, .ref T), (2, .int (nI head)), (3, .int (nI m))] ⟨rfl, rfl, rfl, rfl, trivial⟩ ?_
      exact hsk I2 L2 hF (by unfold tl1; rw [if_neg hh2])
    have ht1 : tl1 c env head = (c.2.2 env).bind (fun x => if x = 0 then none else c.2.1 env) := by unfold tl1; rw [if_pos hh2]
    cases hte : c.2.2 env with
    | none =>
      refine g_iload_n d5_lastHolds_13 rfl ?_
      refine g_iz_lt ((m : Nat) : Int) 102 (nI_ti (by omega)) d5_lastHolds_14 rfl (fun c14 => absurd c14 (by omega)) (fun _ => ?_)
      refine g_aload_n d5_lastHolds_17 rfl ?_
      refine g_get fl5_23 d5_lastHolds_18 (hX.f1) ?_
      refine g_iload_n d5_lastHolds_21 rfl ?_
      refine g_ialdN (m) d5_lastHolds_22 hX.a1 (rfl) (by omega) (by omega) ?_
      refine g_topI (nI (c.1)) (c1) ?_
      refine g_iload_n d5_lastHolds_23 rfl ?_
      refine g_ic_eq ((c.1 : Nat) : Int) ((head : Nat) : Int) 30 (nI_ti (by omega)) (nI_ti (by omega)) d5_lastHolds_24 rfl (fun _ => ?_) (fun c24 => absurd c24 (by omega))
      refine g_aload_n d5_lastHolds_30 rfl ?_
      refine g_aload_n d5_lastHolds_31 rfl ?_
      refine g_aload_n d5_lastHolds_32 rfl ?_
      refine g_get fl5_26 d5_lastHolds_33 (hX.f3) ?_
      refine g_iload_n d5_lastHolds_36 rfl ?_
      refine g_ialdN (m) d5_lastHolds_37 hX.a3 (rfl) (by omega) (by omega) ?_
      refine g_topI (nI (s2)) (c3) ?_
      refine g_aload_n d5_lastHolds_38 rfl ?_
      refine g_get fl5_29 d5_lastHolds_39 (hX.f4) ?_
      refine g_iload_n d5_lastHolds_42 rfl ?_
      refine g_ialdN (m) d5_lastHolds_43 hX.a4 (rfl) (by omega) (by omega) ?_
      refine g_topI (nI (t2)) (c4) ?_
      refine g_XV3 vm5_reckon ml5_32 c_22 (r5_22_reckon (I := I2) (L := L2) hX st wi hv env henv2 s2 t2 (by omega) c5 c.2.2 c10 (Nat.le_refl 1)) (by omega) (Nat.le_of_ble_eq_true rfl) d5_lastHolds_44 (fun x hx => ?_)
      obtain ⟨x1, x2, x3, x4⟩ := hx
      rw [hte] at x3
      refine g_lstore d5_lastHolds_47 (by decide) ?_
      refine g_aload_n d5_lastHolds_49 rfl ?_
      refine g_get fl5_36 d5_lastHolds_50 f_22_3 ?_
      refine g_topI ((1 : Int32)) (x3) ?_
      refine g_iz_ne (1) 96 (by decide) d5_lastHolds_53 rfl (fun _ => ?_) (fun c53 => absurd c53 (by decide))
      refine g_lo [(0, .ref 22), (1, .ref T), (2, .int (nI head)), (3, .int (nI m))] ⟨rfl, rfl, rfl, rfl, trivial⟩ ?_
      exact hsk x.1 x.2.1 (hF.tr x1) (by rw [ht1, hte]; rfl)
    | some u =>
      by_cases hu : u = 0
      · skip
        refine g_iload_n d5_lastHolds_13 rfl ?_
        refine g_iz_lt ((m : Nat) : Int) 102 (nI_ti (by omega)) d5_lastHolds_14 rfl (fun c14 => absurd c14 (by omega)) (fun _ => ?_)
        refine g_aload_n d5_lastHolds_17 rfl ?_
        refine g_get fl5_23 d5_lastHolds_18 (hX.f1) ?_
        refine g_iload_n d5_lastHolds_21 rfl ?_
        refine g_ialdN (m) d5_lastHolds_22 hX.a1 (rfl) (by omega) (by omega) ?_
        refine g_topI (nI (c.1)) (c1) ?_
        refine g_iload_n d5_lastHolds_23 rfl ?_
        refine g_ic_eq ((c.1 : Nat) : Int) ((head : Nat) : Int) 30 (nI_ti (by omega)) (nI_ti (by omega)) d5_lastHolds_24 rfl (fun _ => ?_) (fun c24 => absurd c24 (by omega))
        refine g_aload_n d5_lastHolds_30 rfl ?_
        refine g_aload_n d5_lastHolds_31 rfl ?_
        refine g_aload_n d5_lastHolds_32 rfl ?_
        refine g_get fl5_26 d5_lastHolds_33 (hX.f3) ?_
        refine g_iload_n d5_lastHolds_36 rfl ?_
        refine g_ialdN (m) d5_lastHolds_37 hX.a3 (rfl) (by omega) (by omega) ?_
        refine g_topI (nI (s2)) (c3) ?_
        refine g_aload_n d5_lastHolds_38 rfl ?_
        refine g_get fl5_29 d5_lastHolds_39 (hX.f4) ?_
        refine g_iload_n d5_lastHolds_42 rfl ?_
        refine g_ialdN (m) d5_lastHolds_43 hX.a4 (rfl) (by omega) (by omega) ?_
        refine g_topI (nI (t2)) (c4) ?_
        refine g_XV3 vm5_reckon ml5_32 c_22 (r5_22_reckon (I := I2) (L := L2) hX st wi hv env henv2 s2 t2 (by omega) c5 c.2.2 c10 (Nat.le_refl 1)) (by omega) (Nat.le_of_ble_eq_true rfl) d5_lastHolds_44 (fun x hx => ?_)
        obtain ⟨x1, x2, x3, x4⟩ := hx
        rw [hte] at x3
        have x5 := x4 u hte
        refine g_lstore d5_lastHolds_47 (by decide) ?_
        refine g_aload_n d5_lastHolds_49 rfl ?_
        refine g_get fl5_36 d5_lastHolds_50 f_22_3 ?_
        refine g_topI ((0 : Int32)) (x3) ?_
        refine g_iz_ne (0) 96 (by decide) d5_lastHolds_53 rfl (fun c53 => absurd c53 (by decide)) (fun _ => ?_)
        refine g_lload d5_lastHolds_56 rfl ?_
        refine g_lconstv (0) d5_lastHolds_58 rfl ?_
        refine g_lx_ne x.2.2.toInt (0) 66 (rfl) (by decide) d5_lastHolds_59 d5_lastHolds_60 rfl (fun c59 => absurd c59 (fun z => z (by rw [x5, hu]; rfl))) (fun _ => ?_)
        refine g_goto 96 d5_lastHolds_63 rfl ?_
        refine g_lo [(0, .ref 22), (1, .ref T), (2, .int (nI head)), (3, .int (nI m))] ⟨rfl, rfl, rfl, rfl, trivial⟩ ?_
        exact hsk x.1 x.2.1 (hF.tr x1) (by rw [ht1, hte]; exact if_pos hu)
      · have ht2 : tl1 c env head = c.2.1 env := by rw [ht1, hte]; exact if_neg hu
        cases hsu : c.2.1 env with
        | none =>
          refine g_iload_n d5_lastHolds_13 rfl ?_
          refine g_iz_lt ((m : Nat) : Int) 102 (nI_ti (by omega)) d5_lastHolds_14 rfl (fun c14 => absurd c14 (by omega)) (fun _ => ?_)
          refine g_aload_n d5_lastHolds_17 rfl ?_
          refine g_get fl5_23 d5_lastHolds_18 (hX.f1) ?_
          refine g_iload_n d5_lastHolds_21 rfl ?_
          refine g_ialdN (m) d5_lastHolds_22 hX.a1 (rfl) (by omega) (by omega) ?_
          refine g_topI (nI (c.1)) (c1) ?_
          refine g_iload_n d5_lastHolds_23 rfl ?_
          refine g_ic_eq ((c.1 : Nat) : Int) ((head : Nat) : Int) 30 (nI_ti (by omega)) (nI_ti (by omega)) d5_lastHolds_24 rfl (fun _ => ?_) (fun c24 => absurd c24 (by omega))
          refine g_aload_n d5_lastHolds_30 rfl ?_
          refine g_aload_n d5_lastHolds_31 rfl ?_
          refine g_aload_n d5_lastHolds_32 rfl ?_
          refine g_get fl5_26 d5_lastHolds_33 (hX.f3) ?_
          refine g_iload_n d5_lastHolds_36 rfl ?_
          refine g_ialdN (m) d5_lastHolds_37 hX.a3 (rfl) (by omega) (by omega) ?_
          refine g_topI (nI (s2)) (c3) ?_
          refine g_aload_n d5_lastHolds_38 rfl ?_
          refine g_get fl5_29 d5_lastHolds_39 (hX.f4) ?_
          refine g_iload_n d5_lastHolds_42 rfl ?_
          refine g_ialdN (m) d5_lastHolds_43 hX.a4 (rfl) (by omega) (by omega) ?_
          refine g_topI (nI (t2)) (c4) ?_
          refine g_XV3 vm5_reckon ml5_32 c_22 (r5_22_reckon (I := I2) (L := L2) hX st wi hv env henv2 s2 t2 (by omega) c5 c.2.2 c10 (Nat.le_refl 1)) (by omega) (Nat.le_of_ble_eq_true rfl) d5_lastHolds_44 (fun x hx => ?_)
          obtain ⟨x1, x2, x3, x4⟩ := hx
          rw [hte] at x3
          have x5 := x4 u hte
          refine g_lstore d5_lastHolds_47 (by decide) ?_
          refine g_aload_n d5_lastHolds_49 rfl ?_
          refine g_get fl5_36 d5_lastHolds_50 f_22_3 ?_
          refine g_topI ((0 : Int32)) (x3) ?_
          refine g_iz_ne (0) 96 (by decide) d5_lastHolds_53 rfl (fun c53 => absurd c53 (by decide)) (fun _ => ?_)
          refine g_lload d5_lastHolds_56 rfl ?_
          refine g_lconstv (0) d5_lastHolds_58 rfl ?_
          refine g_lx_ne x.2.2.toInt (0) 66 (rfl) (by decide) d5_lastHolds_59 d5_lastHolds_60 rfl (fun _ => ?_) (fun c59 => absurd c59 (fun z => hu (by rw [← x5, l_eq]; exact z)))
          refine g_aload_n d5_lastHolds_66 rfl ?_
          refine g_aload_n d5_lastHolds_67 rfl ?_
          refine g_aload_n d5_lastHolds_68 rfl ?_
          refine g_aload_n d5_lastHolds_69 rfl ?_
          refine g_get fl5_40 d5_lastHolds_70 (hX.f2) ?_
          refine g_iload_n d5_lastHolds_73 rfl ?_
          refine g_ialdN (m) d5_lastHolds_74 hX.a2 (rfl) (by omega) (by omega) ?_
          refine g_topI (nI (s1)) (c2) ?_
          refine g_aload_n d5_lastHolds_75 rfl ?_
          refine g_get fl5_26 d5_lastHolds_76 (hX.f3) ?_
          refine g_iload_n d5_lastHolds_79 rfl ?_
          refine g_ialdN (m) d5_lastHolds_80 hX.a3 (rfl) (by omega) (by omega) ?_
          refine g_topI (nI (s2)) (c3) ?_
          refine g_XV3 vm5_reckon ml5_32 c_22 (r5_22_reckon (I := x.1) (L := x.2.1) hX st wi hv env (fun j hj => by rw [x1.1 23 (by decide)]; exact henv2 j hj) s1 s2 (by omega) (by omega) c.2.1 c9 (Nat.le_refl 1)) (by omega) (Nat.le_of_ble_eq_true rfl) d5_lastHolds_81 (fun y hy => ?_)
          obtain ⟨y1, y2, y3, y4⟩ := hy
          rw [hsu] at y3
          refine g_putLh _ fl5_43 d5_lastHolds_84 f_22_4 s_22_4 ?_
          refine g_aload_n d5_lastHolds_87 rfl ?_
          refine g_get fl5_36 d5_lastHolds_88 f_22_3 ?_
          refine g_topI ((1 : Int32)) (y3) ?_
          refine g_iz_ne (1) 96 (by decide) d5_lastHolds_91 rfl (fun _ => ?_) (fun c91 => absurd c91 (by decide))
          refine g_lo [(0, .ref 22), (1, .ref T), (2, .int (nI head)), (3, .int (nI m))] ⟨rfl, rfl, rfl, rfl, trivial⟩ ?_
          exact hsk y.1 (uL y.2.1 22 4 y.2.2) ((hF.tr x1).tr (⟨y1.1, y1.2.1, fun c c1 c2 => (uL_n c2).trans (y1.2.2 c c1 c2)⟩)) (by rw [ht2, hsu])
        | some w =>
          refine g_iload_n d5_lastHolds_13 rfl ?_
          refine g_iz_lt ((m : Nat) : Int) 102 (nI_ti (by omega)) d5_lastHolds_14 rfl (fun c14 => absurd c14 (by omega)) (fun _ => ?_)
          refine g_aload_n d5_lastHolds_17 rfl ?_
          refine g_get fl5_23 d5_lastHolds_18 (hX.f1) ?_
          refine g_iload_n d5_lastHolds_21 rfl ?_
          refine g_ialdN (m) d5_lastHolds_22 hX.a1 (rfl) (by omega) (by omega) ?_
          refine g_topI (nI (c.1)) (c1) ?_
          refine g_iload_n d5_lastHolds_23 rfl ?_
          refine g_ic_eq ((c.1 : Nat) : Int) ((head : Nat) : Int) 30 (nI_ti (by omega)) (nI_ti (by omega)) d5_lastHolds_24 rfl (fun _ => ?_) (fun c24 => absurd c24 (by omega))
          refine g_aload_n d5_lastHolds_30 rfl ?_
          refine g_aload_n d5_lastHolds_31 rfl ?_
          refine g_aload_n d5_lastHolds_32 rfl ?_
          refine g_get fl5_26 d5_lastHolds_33 (hX.f3) ?_
          refine g_iload_n d5_lastHolds_36 rfl ?_
          refine g_ialdN (m) d5_lastHolds_37 hX.a3 (rfl) (by omega) (by omega) ?_
          refine g_topI (nI (s2)) (c3) ?_
          refine g_aload_n d5_lastHolds_38 rfl ?_
          refine g_get fl5_29 d5_lastHolds_39 (hX.f4) ?_
          refine g_iload_n d5_lastHolds_42 rfl ?_
          refine g_ialdN (m) d5_lastHolds_43 hX.a4 (rfl) (by omega) (by omega) ?_
          refine g_topI (nI (t2)) (c4) ?_
          refine g_XV3 vm5_reckon ml5_32 c_22 (r5_22_reckon (I := I2) (L := L2) hX st wi hv env henv2 s2 t2 (by omega) c5 c.2.2 c10 (Nat.le_refl 1)) (by omega) (Nat.le_of_ble_eq_true rfl) d5_lastHolds_44 (fun x hx => ?_)
          obtain ⟨x1, x2, x3, x4⟩ := hx
          rw [hte] at x3
          have x5 := x4 u hte
          refine g_lstore d5_lastHolds_47 (by decide) ?_
          refine g_aload_n d5_lastHolds_49 rfl ?_
          refine g_get fl5_36 d5_lastHolds_50 f_22_3 ?_
          refine g_topI ((0 : Int32)) (x3) ?_
          refine g_iz_ne (0) 96 (by decide) d5_lastHolds_53 rfl (fun c53 => absurd c53 (by decide)) (fun _ => ?_)
          refine g_lload d5_lastHolds_56 rfl ?_
          refine g_lconstv (0) d5_lastHolds_58 rfl ?_
          refine g_lx_ne x.2.2.toInt (0) 66 (rfl) (by decide) d5_lastHolds_59 d5_lastHolds_60 rfl (fun _ => ?_) (fun c59 => absurd c59 (fun z => hu (by rw [← x5, l_eq]; exact z)))
          refine g_aload_n d5_lastHolds_66 rfl ?_
          refine g_aload_n d5_lastHolds_67 rfl ?_
          refine g_aload_n d5_lastHolds_68 rfl ?_
          refine g_aload_n d5_lastHolds_69 rfl ?_
          refine g_get fl5_40 d5_lastHolds_70 (hX.f2) ?_
          refine g_iload_n d5_lastHolds_73 rfl ?_
          refine g_ialdN (m) d5_lastHolds_74 hX.a2 (rfl) (by omega) (by omega) ?_
          refine g_topI (nI (s1)) (c2) ?_
          refine g_aload_n d5_lastHolds_75 rfl ?_
          refine g_get fl5_26 d5_lastHolds_76 (hX.f3) ?_
          refine g_iload_n d5_lastHolds_79 rfl ?_
          refine g_ialdN (m) d5_lastHolds_80 hX.a3 (rfl) (by omega) (by omega) ?_
          refine g_topI (nI (s2)) (c3) ?_
          refine g_XV3 vm5_reckon ml5_32 c_22 (r5_22_reckon (I := x.1) (L := x.2.1) hX st wi hv env (fun j hj => by rw [x1.1 23 (by decide)]; exact henv2 j hj) s1 s2 (by omega) (by omega) c.2.1 c9 (Nat.le_refl 1)) (by omega) (Nat.le_of_ble_eq_true rfl) d5_lastHolds_81 (fun y hy => ?_)
          obtain ⟨y1, y2, y3, y4⟩ := hy
          rw [hsu] at y3
          refine g_putLh _ fl5_43 d5_lastHolds_84 f_22_4 s_22_4 ?_
          refine g_aload_n d5_lastHolds_87 rfl ?_
          refine g_get fl5_36 d5_lastHolds_88 f_22_3 ?_
          refine g_topI ((0 : Int32)) (y3) ?_
          refine g_iz_ne (0) 96 (by decide) d5_lastHolds_91 rfl (fun c91 => absurd c91 (by decide)) (fun _ => ?_)
          refine g_iconstv (nI 1) d5_lastHolds_94 rfl ?_
          refine g_zret rfl (by decide) d5_lastHolds_95 (⟨(y.1, uL y.2.1 22 4 y.2.2), ⟨(hF.tr x1).tr (⟨y1.1, y1.2.1, fun c c1 c2 => (uL_n c2).trans (y1.2.2 c c1 c2)⟩), fun v hv => ?_⟩, by rw [hE, ht2, hsu]; rfl, rfl⟩)
          rw [hE, ht2, hsu] at hv
          have hv2 : some w = some v := hv
          injection hv2 with hv2
          show uL y.2.1 22 4 y.2.2 22 4 = v
          rw [uL_ss, y4 w hsu]; exact hv2
set_option maxHeartbeats 200000 in
theorem r5_22_holds {l : Launch} {K : cK} {d : Nat} {I : wI} {L : wL} {R : wR} {dy : cH} {T : Nat} {cs : List Cl} (hC : CTX dy T cs) (head : Nat) (hh : head ≤ 2) (env : Nat → Int64) (henv : ∀ j, j < 7 → env (j + 1) = (I 23 j).toInt64) (hd : 2 ≤ d) : CX l K m5_lastHolds d [.ref 22, .ref T, .int (nI head)] (hp I L R dy) (α := wI × wL) (fun x => RF 22 24 I L x.1 x.2 ∧ ∀ v, tW cs env head cs.length = some v → x.2 22 4 = v) (fun _ => .int (if (tW cs env head cs.length).isSome = true then 1 else 0)) (fun x => hp x.1 x.2 R dy) := by
  have hC2 := hC
  obtain ⟨sz, A, st, wi, hX, hv, hc⟩ := hC2
  refine CC.of ok5_lastHolds (Nat.le_of_ble_eq_true rfl) ?_
  refine g_aload_n d5_lastHolds_0 rfl ?_
  refine g_ifnonnull 6 d5_lastHolds_1 rfl ?_
  refine g_aload_n d5_lastHolds_6 rfl ?_
  refine g_get fl5_17 d5_lastHolds_7 (hX.f0) ?_
  refine g_iconstv (nI 1) d5_lastHolds_10 rfl ?_
  refine g_isub d5_lastHolds_11 ?_
  refine g_topI (mkI cs.length) (by cases cs.length with | zero => decide | succ n => rw [mkI_s]; exact pk_sub (by omega)) ?_
  refine g_istore_n d5_lastHolds_12 (by decide) ?_
  refine g_lo [(0, .ref 22), (1, .ref T), (2, .int (nI head)), (3, .int (mkI cs.length))] ⟨rfl, rfl, rfl, rfl, trivial⟩ ?_
  exact r5_22_lhL hC head hh env henv (by omega) cs.length I L (Nat.le_refl _) ⟨fun _ _ => rfl, fun _ _ _ => rfl, fun _ _ _ => rfl⟩
set_option maxHeartbeats 200000 in
theorem r5_22_hnull {l : Launch} {K : cK} {d : Nat} {I : wI} {L : wL} {R : wR} {dy : cH} (head : Nat) (hd : 0 ≤ d) : CE l K m5_lastHolds d [.ref 22, .null, .int (nI head)] (hp I L R dy) (.int (nI 0)) (hp I L R dy) := by
  refine CC.of ok5_lastHolds (Nat.le_of_ble_eq_true rfl) ?_
  refine g_nload_n d5_lastHolds_0 rfl ?_
  refine g_ifnonnullN d5_lastHolds_1 ?_
  refine g_iconstv (nI 0) d5_lastHolds_4 rfl ?_
  exact g_zret rfl (by decide) d5_lastHolds_5 (⟨rfl, rfl⟩)
set_option maxHeartbeats 200000 in
theorem r5_30_reckon {l : Launch} {K : cK} {d : Nat} {I : wI} {L : wL} {R : wR} {dy : cH} {T nc sz : Nat} {A : Nat → Nat → Int32} (hX : TXT dy T nc sz A) (st wi : Nat → Nat) (hv : ∀ k, k < sz → A 5 k = nI (st k) ∧ A 6 k = nI (wi k) ∧ vst st wi k ∧ (29 ≤ cop st wi k → k < wi k)) (env : Nat → Int64) (henv : ∀ j, j < 7 → env (j + 1) = (I 31 j).toInt64) (a b : Nat) (hab : a ≤ b) (hb : b ≤ sz) (v : Den) (hr : rgC (cop st wi) (carg st wi) a b v) (hd : 1 ≤ d) : CX l K m5_reckon d [.ref 30, .ref T, .int (nI a), .int (nI b)] (hp I L R dy) (α := wI × wL × Int64) (fun x => RF 30 32 I L x.1 x.2.1 ∧ x.2.1 30 = L 30 ∧ x.1 30 3 = (if v env = none then 1 else 0) ∧ ∀ y, v env = some y → x.2.2 = y) (fun x => .long x.2.2) (fun x => hp x.1 x.2.1 R dy) := by
  obtain ⟨f, res, hf, hres⟩ := hr.ev env
  have hsz4 := hX
  obtain ⟨_, _, _, _, _, _, _, _, _, _, hsz4⟩ := hsz4
  refine CC.of ok5_reckon (Nat.le_of_ble_eq_true rfl) ?_
  refine g_aload_n d5_reckon_0 rfl ?_
  refine g_iconstv (nI 0) d5_reckon_1 rfl ?_
  refine g_putIh _ fl5_56 d5_reckon_2 f_30_2 s_30_2 ?_
  refine g_aload_n d5_reckon_5 rfl ?_
  refine g_iconstv (nI 0) d5_reckon_6 rfl ?_
  refine g_putZh _ fl5_36 d5_reckon_7 f_30_3 (by decide) s_30_3 ?_
  refine g_iload_n d5_reckon_10 rfl ?_
  refine g_istore d5_reckon_11 (by decide) ?_
  refine g_lo [(0, .ref 30), (1, .ref T), (2, .int (nI a)), (3, .int (nI b)), (4, .int (nI a))] ⟨rfl, rfl, rfl, rfl, rfl, trivial⟩ ?_
  refine g_mono (r5_30_rkL (I := I) (L := L) hX st wi b hb (fun k hk => hv k (by omega)) env henv (nI a) (by omega) f a [] (uI (uI I 30 2 (nI 0)) 30 3 (nI 0)) L res trivial (fun c hc => by rw [uI_n hc, uI_n hc]) (fun j j1 j2 => by rw [uI_sn j2, uI_sn j1]) (fun _ _ => rfl) rfl rfl (by decide) (by omega) hf) (fun z h q => ?_)
  obtain ⟨x, ⟨x1, x2, x3, x4, x5⟩, rfl, rfl⟩ := q
  refine ⟨x, ⟨⟨x1, x2, fun c c1 c2 => x3 c c1⟩, x3 30 (by decide), ?_, fun y hy => ?_⟩, rfl, rfl⟩
  · rcases hres with ⟨q1, q2⟩ | ⟨s, q1, q2⟩
    · rw [x4, q1, q2]; rfl
    · rw [x4, q1, q2]; rfl
  · rcases hres with ⟨q1, q2⟩ | ⟨s, q1, q2⟩
    · rw [q2] at hy; cases hy
    · rw [q2] at hy; injection hy with hy; rw [x5 s q1]; exact hy
set_option maxHeartbeats 200000 in
theorem r5_30_told {l : Launch} {K : cK} {d : Nat} {I : wI} {L : wL} {R : wR} {dy : cH} (hi : Nat) (hh : hi < 1000) (hd : 1 ≤ d) : CE l K m5_toldWithin d [.ref 30, .int (nI 0), .int (nI hi)] (hp I L R dy) (.int (nI (clp 0 hi (L 30 4)).toNat)) (hp I L R dy) := by
  refine CC.of ok5_toldWithin (Nat.le_of_ble_eq_true rfl) ?_
  refine g_iload_n d5_toldWithin_0 rfl ?_
  refine g_i2lN (by omega) d5_toldWithin_1 ?_
  refine g_iload_n d5_toldWithin_2 rfl ?_
  refine g_i2lN (by omega) d5_toldWithin_3 ?_
  refine g_aload_n d5_toldWithin_4 rfl ?_
  refine g_get fl5_43 d5_toldWithin_5 f_30_4 ?_
  refine g_minL ml5_47 (by omega) (Nat.le_of_ble_eq_true rfl) d5_toldWithin_8 ?_
  refine g_maxL ml5_53 (by omega) (Nat.le_of_ble_eq_true rfl) d5_toldWithin_11 ?_
  refine g_l2i d5_toldWithin_14 ?_
  refine g_topI (nI (clp 0 hi (L 30 4)).toNat) (clp_n hh _) ?_
  exact g_iret rfl d5_toldWithin_15 (⟨rfl, rfl⟩)
set_option maxHeartbeats 1000000 in
theorem r5_30_lhL {l : Launch} {K : cK} {d : Nat} {I : wI} {L : wL} {R : wR} {dy : cH} {T : Nat} {cs : List Cl} (hC : CTX dy T cs) (head : Nat) (hh : head ≤ 2) (env : Nat → Int64) (henv : ∀ j, j < 7 → env (j + 1) = (I 31 j).toInt64) (hd : 2 ≤ d) : ∀ (m : Nat) (I2 : wI) (L2 : wL), m ≤ cs.length → RF 30 32 I L I2 L2 → GL l K m5_lastHolds d 0 0 13 [(0, .ref 30), (1, .ref T), (2, .int (nI head)), (3, .int (mkI m))] [] (hp I2 L2 R dy) (fun z h => ∃ x : wI × wL, (RF 30 32 I L x.1 x.2 ∧ ∀ v, tW cs env head m = some v → x.2 30 4 = v) ∧ z = some (.int (if (tW cs env head m).isSome = true then 1 else 0)) ∧ h = hp x.1 x.2 R dy) := by
  obtain ⟨sz, A, st, wi, hX, hv, hc⟩ := hC
  have hsz4 := hX
  obtain ⟨_, _, _, _, _, _, _, _, _, hn12, hsz4⟩ := hsz4
  intro m
  induction m with
  | zero =>
    intro I2 L2 hm hF
    refine g_iload_n d5_lastHolds_13 rfl ?_
    refine g_iz_lt (-1) 102 (by decide) d5_lastHolds_14 rfl (fun _ => ?_) (fun c14 => absurd c14 (by decide))
    refine g_iconstv (nI 0) d5_lastHolds_102 rfl ?_
    exact g_zret rfl (by decide) d5_lastHolds_103 (⟨(I2, L2), ⟨hF, fun v hv => by cases hv⟩, rfl, rfl⟩)
  | succ m ih =>
    intro I2 L2 hm hF
    obtain ⟨s1, s2, t2, c1, c2, c3, c4, c5, c6, c7, c8, c9, c10⟩ := hc m (by omega)
    rw [mkI_s]
    have hE : tW cs env head (m + 1) = (tl1 (cs.getD m (0, d0, d0)) env head).elim (tW cs env head m) some := rfl
    have henv2 : ∀ j, j < 7 → env (j + 1) = (I2 31 j).toInt64 := fun j hj => by rw [hF.1 31 (by decide)]; exact henv j hj
    generalize cs.getD m (0, d0, d0) = c at *
    have hsk : ∀ (I3 : wI) (L3 : wL), RF 30 32 I L I3 L3 → tl1 c env head = none → GL l K m5_lastHolds d 0 0 96 [(0, .ref 30), (1, .ref T), (2, .int (nI head)), (3, .int (nI m))] [] (hp I3 L3 R dy) (fun z h => ∃ x : wI × wL, (RF 30 32 I L x.1 x.2 ∧ ∀ v, tW cs env head (m + 1) = some v → x.2 30 4 = v) ∧ z = some (.int (if (tW cs env head (m + 1)).isSome = true then 1 else 0)) ∧ h = hp x.1 x.2 R dy) := by
      intro I3 L3 hF3 hnone
      rw [hE, hnone]
      refine g_iinc (mkI m) d5_lastHolds_96 rfl (by cases m with | zero => decide | succ m => rw [mkI_s, nI_dec (by omega)]; rfl) (by decide) ?_
      refine g_goto 13 d5_lastHolds_99 rfl ?_
      refine g_lo [(0, .ref 30), (1, .ref T), (2, .int (nI head)), (3, .int (mkI m))] ⟨rfl, rfl, rfl, rfl, trivial⟩ ?_
      exact ih I3 L3 (by omega) hF3
    by_cases hh2 : c.1 = head
    rotate_left
    · skip
      refine g_iload_n d5_lastHolds_13 rfl ?_
      refine g_iz_lt ((m : Nat) : Int) 102 (nI_ti (by omega)) d5_lastHolds_14 rfl (fun c14 => absurd c14 (by omega)) (fun _ => ?_)
      refine g_aload_n d5_lastHolds_17 rfl ?_
      refine g_get fl5_23 d5_lastHolds_18 (hX.f1) ?_
      refine g_iload_n d5_lastHolds_21 rfl ?_
      refine g_ialdN (m) d5_lastHolds_22 hX.a1 (rfl) (by omega) (by omega) ?_
      refine g_topI (nI (c.1)) (c1) ?_
      refine g_iload_n d5_lastHolds_23 rfl ?_
      refine g_ic_eq ((c.1 : Nat) : Int) ((head : Nat) : Int) 30 (nI_ti (by omega)) (nI_ti (by omega)) d5_lastHolds_24 rfl (fun c24 => absurd c24 (by omega)) (fun _ => ?_)
      refine g_goto 96 d5_lastHolds_27 rfl ?_
      refine g_lo [(0, .ref 30), (1, .ref T), (2, .int (nI head)), (3, .int (nI m))] ⟨rfl, rfl, rfl, rfl, trivial⟩ ?_
      exact hsk I2 L2 hF (by unfold tl1; rw [if_neg hh2])
    have ht1 : tl1 c env head = (c.2.2 env).bind (fun x => if x = 0 then none else c.2.1 env) := by unfold tl1; rw [if_pos hh2]
    cases hte : c.2.2 env with
    | none =>
      refine g_iload_n d5_lastHolds_13 rfl ?_
      refine g_iz_lt ((m : Nat) : Int) 102 (nI_ti (by omega)) d5_lastHolds_14 rfl (fun c14 => absurd c14 (by omega)) (fun _ => ?_)
      refine g_aload_n d5_lastHolds_17 rfl ?_
      refine g_get fl5_23 d5_lastHolds_18 (hX.f1) ?_
      refine g_iload_n d5_lastHolds_21 rfl ?_
      refine g_ialdN (m) d5_lastHolds_22 hX.a1 (rfl) (by omega) (by omega) ?_
      refine g_topI (nI (c.1)) (c1) ?_
      refine g_iload_n d5_lastHolds_23 rfl ?_
      refine g_ic_eq ((c.1 : Nat) : Int) ((head : Nat) : Int) 30 (nI_ti (by omega)) (nI_ti (by omega)) d5_lastHolds_24 rfl (fun _ => ?_) (fun c24 => absurd c24 (by omega))
      refine g_aload_n d5_lastHolds_30 rfl ?_
      refine g_aload_n d5_lastHolds_31 rfl ?_
      refine g_aload_n d5_lastHolds_32 rfl ?_
      refine g_get fl5_26 d5_lastHolds_33 (hX.f3) ?_
      refine g_iload_n d5_lastHolds_36 rfl ?_
      refine g_ialdN (m) d5_lastHolds_37 hX.a3 (rfl) (by omega) (by omega) ?_
      refine g_topI (nI (s2)) (c3) ?_
      refine g_aload_n d5_lastHolds_38 rfl ?_
      refine g_get fl5_29 d5_lastHolds_39 (hX.f4) ?_
      refine g_iload_n d5_lastHolds_42 rfl ?_
      refine g_ialdN (m) d5_lastHolds_43 hX.a4 (rfl) (by omega) (by omega) ?_
      refine g_topI (nI (t2)) (c4) ?_
      refine g_XV3 vm5_reckon ml5_32 c_30 (r5_30_reckon (I := I2) (L := L2) hX st wi hv env henv2 s2 t2 (by omega) c5 c.2.2 c10 (Nat.le_refl 1)) (by omega) (Nat.le_of_ble_eq_true rfl) d5_lastHolds_44 (fun x hx => ?_)
      obtain ⟨x1, x2, x3, x4⟩ := hx
      rw [hte] at x3
      refine g_lstore d5_lastHolds_47 (by decide) ?_
      refine g_aload_n d5_lastHolds_49 rfl ?_
      refine g_get fl5_36 d5_lastHolds_50 f_30_3 ?_
      refine g_topI ((1 : Int32)) (x3) ?_
      refine g_iz_ne (1) 96 (by decide) d5_lastHolds_53 rfl (fun _ => ?_) (fun c53 => absurd c53 (by decide))
      refine g_lo [(0, .ref 30), (1, .ref T), (2, .int (nI head)), (3, .int (nI m))] ⟨rfl, rfl, rfl, rfl, trivial⟩ ?_
      exact hsk x.1 x.2.1 (hF.tr x1) (by rw [ht1, hte]; rfl)
    | some u =>
      by_cases hu : u = 0
      · skip
        refine g_iload_n d5_lastHolds_13 rfl ?_
        refine g_iz_lt ((m : Nat) : Int) 102 (nI_ti (by omega)) d5_lastHolds_14 rfl (fun c14 => absurd c14 (by omega)) (fun _ => ?_)
        refine g_aload_n d5_lastHolds_17 rfl ?_
        refine g_get fl5_23 d5_lastHolds_18 (hX.f1) ?_
        refine g_iload_n d5_lastHolds_21 rfl ?_
        refine g_ialdN (m) d5_lastHolds_22 hX.a1 (rfl) (by omega) (by omega) ?_
        refine g_topI (nI (c.1)) (c1) ?_
        refine g_iload_n d5_lastHolds_23 rfl ?_
        refine g_ic_eq ((c.1 : Nat) : Int) ((head : Nat) : Int) 30 (nI_ti (by omega)) (nI_ti (by omega)) d5_lastHolds_24 rfl (fun _ => ?_) (fun c24 => absurd c24 (by omega))
        refine g_aload_n d5_lastHolds_30 rfl ?_
        refine g_aload_n d5_lastHolds_31 rfl ?_
        refine g_aload_n d5_lastHolds_32 rfl ?_
        refine g_get fl5_26 d5_lastHolds_33 (hX.f3) ?_
        refine g_iload_n d5_lastHolds_36 rfl ?_
        refine g_ialdN (m) d5_lastHolds_37 hX.a3 (rfl) (by omega) (by omega) ?_
        refine g_topI (nI (s2)) (c3) ?_
        refine g_aload_n d5_lastHolds_38 rfl ?_
        refine g_get fl5_29 d5_lastHolds_39 (hX.f4) ?_
        refine g_iload_n d5_lastHolds_42 rfl ?_
        refine g_ialdN (m) d5_lastHolds_43 hX.a4 (rfl) (by omega) (by omega) ?_
        refine g_topI (nI (t2)) (c4) ?_
        refine g_XV3 vm5_reckon ml5_32 c_30 (r5_30_reckon (I := I2) (L := L2) hX st wi hv env henv2 s2 t2 (by omega) c5 c.2.2 c10 (Nat.le_refl 1)) (by omega) (Nat.le_of_ble_eq_true rfl) d5_lastHolds_44 (fun x hx => ?_)
        obtain ⟨x1, x2, x3, x4⟩ := hx
        rw [hte] at x3
        have x5 := x4 u hte
        refine g_lstore d5_lastHolds_47 (by decide) ?_
        refine g_aload_n d5_lastHolds_49 rfl ?_
        refine g_get fl5_36 d5_lastHolds_50 f_30_3 ?_
        refine g_topI ((0 : Int32)) (x3) ?_
        refine g_iz_ne (0) 96 (by decide) d5_lastHolds_53 rfl (fun c53 => absurd c53 (by decide)) (fun _ => ?_)
        refine g_lload d5_lastHolds_56 rfl ?_
        refine g_lconstv (0) d5_lastHolds_58 rfl ?_
        refine g_lx_ne x.2.2.toInt (0) 66 (rfl) (by decide) d5_lastHolds_59 d5_lastHolds_60 rfl (fun c59 => absurd c59 (fun z => z (by rw [x5, hu]; rfl))) (fun _ => ?_)
        refine g_goto 96 d5_lastHolds_63 rfl ?_
        refine g_lo [(0, .ref 30), (1, .ref T), (2, .int (nI head)), (3, .int (nI m))] ⟨rfl, rfl, rfl, rfl, trivial⟩ ?_
        exact hsk x.1 x.2.1 (hF.tr x1) (by rw [ht1, hte]; exact if_pos hu)
      · have ht2 : tl1 c env head = c.2.1 env := by rw [ht1, hte]; exact if_neg hu
        cases hsu : c.2.1 env with
        | none =>
          refine g_iload_n d5_lastHolds_13 rfl ?_
          refine g_iz_lt ((m : Nat) : Int) 102 (nI_ti (by omega)) d5_lastHolds_14 rfl (fun c14 => absurd c14 (by omega)) (fun _ => ?_)
          refine g_aload_n d5_lastHolds_17 rfl ?_
          refine g_get fl5_23 d5_lastHolds_18 (hX.f1) ?_
          refine g_iload_n d5_lastHolds_21 rfl ?_
          refine g_ialdN (m) d5_lastHolds_22 hX.a1 (rfl) (by omega) (by omega) ?_
          refine g_topI (nI (c.1)) (c1) ?_
          refine g_iload_n d5_lastHolds_23 rfl ?_
          refine g_ic_eq ((c.1 : Nat) : Int) ((head : Nat) : Int) 30 (nI_ti (by omega)) (nI_ti (by omega)) d5_lastHolds_24 rfl (fun _ => ?_) (fun c24 => absurd c24 (by omega))
          refine g_aload_n d5_lastHolds_30 rfl ?_
          refine g_aload_n d5_lastHolds_31 rfl ?_
          refine g_aload_n d5_lastHolds_32 rfl ?_
          refine g_get fl5_26 d5_lastHolds_33 (hX.f3) ?_
          refine g_iload_n d5_lastHolds_36 rfl ?_
          refine g_ialdN (m) d5_lastHolds_37 hX.a3 (rfl) (by omega) (by omega) ?_
          refine g_topI (nI (s2)) (c3) ?_
          refine g_aload_n d5_lastHolds_38 rfl ?_
          refine g_get fl5_29 d5_lastHolds_39 (hX.f4) ?_
          refine g_iload_n d5_lastHolds_42 rfl ?_
          refine g_ialdN (m) d5_lastHolds_43 hX.a4 (rfl) (by omega) (by omega) ?_
          refine g_topI (nI (t2)) (c4) ?_
          refine g_XV3 vm5_reckon ml5_32 c_30 (r5_30_reckon (I := I2) (L := L2) hX st wi hv env henv2 s2 t2 (by omega) c5 c.2.2 c10 (Nat.le_refl 1)) (by omega) (Nat.le_of_ble_eq_true rfl) d5_lastHolds_44 (fun x hx => ?_)
          obtain ⟨x1, x2, x3, x4⟩ := hx
          rw [hte] at x3
          have x5 := x4 u hte
          refine g_lstore d5_lastHolds_47 (by decide) ?_
          refine g_aload_n d5_lastHolds_49 rfl ?_
          refine g_get fl5_36 d5_lastHolds_50 f_30_3 ?_
          refine g_topI ((0 : Int32)) (x3) ?_
          refine g_iz_ne (0) 96 (by decide) d5_lastHolds_53 rfl (fun c53 => absurd c53 (by decide)) (fun _ => ?_)
          refine g_lload d5_lastHolds_56 rfl ?_
          refine g_lconstv (0) d5_lastHolds_58 rfl ?_
          refine g_lx_ne x.2.2.toInt (0) 66 (rfl) (by decide) d5_lastHolds_59 d5_lastHolds_60 rfl (fun _ => ?_) (fun c59 => absurd c59 (fun z => hu (by rw [← x5, l_eq]; exact z)))
          refine g_aload_n d5_lastHolds_66 rfl ?_
          refine g_aload_n d5_lastHolds_67 rfl ?_
          refine g_aload_n d5_lastHolds_68 rfl ?_
          refine g_aload_n d5_lastHolds_69 rfl ?_
          refine g_get fl5_40 d5_lastHolds_70 (hX.f2) ?_
          refine g_iload_n d5_lastHolds_73 rfl ?_
          refine g_ialdN (m) d5_lastHolds_74 hX.a2 (rfl) (by omega) (by omega) ?_
          refine g_topI (nI (s1)) (c2) ?_
          refine g_aload_n d5_lastHolds_75 rfl ?_
          refine g_get fl5_26 d5_lastHolds_76 (hX.f3) ?_
          refine g_iload_n d5_lastHolds_79 rfl ?_
          refine g_ialdN (m) d5_lastHolds_80 hX.a3 (rfl) (by omega) (by omega) ?_
          refine g_topI (nI (s2)) (c3) ?_
          refine g_XV3 vm5_reckon ml5_32 c_30 (r5_30_reckon (I := x.1) (L := x.2.1) hX st wi hv env (fun j hj => by rw [x1.1 31 (by decide)]; exact henv2 j hj) s1 s2 (by omega) (by omega) c.2.1 c9 (Nat.le_refl 1)) (by omega) (Nat.le_of_ble_eq_true rfl) d5_lastHolds_81 (fun y hy => ?_)
          obtain ⟨y1, y2, y3, y4⟩ := hy
          rw [hsu] at y3
          refine g_putLh _ fl5_43 d5_lastHolds_84 f_30_4 s_30_4 ?_
          refine g_aload_n d5_lastHolds_87 rfl ?_
          refine g_get fl5_36 d5_lastHolds_88 f_30_3 ?_
          refine g_topI ((1 : Int32)) (y3) ?_
          refine g_iz_ne (1) 96 (by decide) d5_lastHolds_91 rfl (fun _ => ?_) (fun c91 => absurd c91 (by decide))
          refine g_lo [(0, .ref 30), (1, .ref T), (2, .int (nI head)), (3, .int (nI m))] ⟨rfl, rfl, rfl, rfl, trivial⟩ ?_
          exact hsk y.1 (uL y.2.1 30 4 y.2.2) ((hF.tr x1).tr (⟨y1.1, y1.2.1, fun c c1 c2 => (uL_n c2).trans (y1.2.2 c c1 c2)⟩)) (by rw [ht2, hsu])
        | some w =>
          refine g_iload_n d5_lastHolds_13 rfl ?_
          refine g_iz_lt ((m : Nat) : Int) 102 (nI_ti (by omega)) d5_lastHolds_14 rfl (fun c14 => absurd c14 (by omega)) (fun _ => ?_)
          refine g_aload_n d5_lastHolds_17 rfl ?_
          refine g_get fl5_23 d5_lastHolds_18 (hX.f1) ?_
          refine g_iload_n d5_lastHolds_21 rfl ?_
          refine g_ialdN (m) d5_lastHolds_22 hX.a1 (rfl) (by omega) (by omega) ?_
          refine g_topI (nI (c.1)) (c1) ?_
          refine g_iload_n d5_lastHolds_23 rfl ?_
          refine g_ic_eq ((c.1 : Nat) : Int) ((head : Nat) : Int) 30 (nI_ti (by omega)) (nI_ti (by omega)) d5_lastHolds_24 rfl (fun _ => ?_) (fun c24 => absurd c24 (by omega))
          refine g_aload_n d5_lastHolds_30 rfl ?_
          refine g_aload_n d5_lastHolds_31 rfl ?_
          refine g_aload_n d5_lastHolds_32 rfl ?_
          refine g_get fl5_26 d5_lastHolds_33 (hX.f3) ?_
          refine g_iload_n d5_lastHolds_36 rfl ?_
          refine g_ialdN (m) d5_lastHolds_37 hX.a3 (rfl) (by omega) (by omega) ?_
          refine g_topI (nI (s2)) (c3) ?_
          refine g_aload_n d5_lastHolds_38 rfl ?_
          refine g_get fl5_29 d5_lastHolds_39 (hX.f4) ?_
          refine g_iload_n d5_lastHolds_42 rfl ?_
          refine g_ialdN (m) d5_lastHolds_43 hX.a4 (rfl) (by omega) (by omega) ?_
          refine g_topI (nI (t2)) (c4) ?_
          refine g_XV3 vm5_reckon ml5_32 c_30 (r5_30_reckon (I := I2) (L := L2) hX st wi hv env henv2 s2 t2 (by omega) c5 c.2.2 c10 (Nat.le_refl 1)) (by omega) (Nat.le_of_ble_eq_true rfl) d5_lastHolds_44 (fun x hx => ?_)
          obtain ⟨x1, x2, x3, x4⟩ := hx
          rw [hte] at x3
          have x5 := x4 u hte
          refine g_lstore d5_lastHolds_47 (by decide) ?_
          refine g_aload_n d5_lastHolds_49 rfl ?_
          refine g_get fl5_36 d5_lastHolds_50 f_30_3 ?_
          refine g_topI ((0 : Int32)) (x3) ?_
          refine g_iz_ne (0) 96 (by decide) d5_lastHolds_53 rfl (fun c53 => absurd c53 (by decide)) (fun _ => ?_)
          refine g_lload d5_lastHolds_56 rfl ?_
          refine g_lconstv (0) d5_lastHolds_58 rfl ?_
          refine g_lx_ne x.2.2.toInt (0) 66 (rfl) (by decide) d5_lastHolds_59 d5_lastHolds_60 rfl (fun _ => ?_) (fun c59 => absurd c59 (fun z => hu (by rw [← x5, l_eq]; exact z)))
          refine g_aload_n d5_lastHolds_66 rfl ?_
          refine g_aload_n d5_lastHolds_67 rfl ?_
          refine g_aload_n d5_lastHolds_68 rfl ?_
          refine g_aload_n d5_lastHolds_69 rfl ?_
          refine g_get fl5_40 d5_lastHolds_70 (hX.f2) ?_
          refine g_iload_n d5_lastHolds_73 rfl ?_
          refine g_ialdN (m) d5_lastHolds_74 hX.a2 (rfl) (by omega) (by omega) ?_
          refine g_topI (nI (s1)) (c2) ?_
          refine g_aload_n d5_lastHolds_75 rfl ?_
          refine g_get fl5_26 d5_lastHolds_76 (hX.f3) ?_
          refine g_iload_n d5_lastHolds_79 rfl ?_
          refine g_ialdN (m) d5_lastHolds_80 hX.a3 (rfl) (by omega) (by omega) ?_
          refine g_topI (nI (s2)) (c3) ?_
          refine g_XV3 vm5_reckon ml5_32 c_30 (r5_30_reckon (I := x.1) (L := x.2.1) hX st wi hv env (fun j hj => by rw [x1.1 31 (by decide)]; exact henv2 j hj) s1 s2 (by omega) (by omega) c.2.1 c9 (Nat.le_refl 1)) (by omega) (Nat.le_of_ble_eq_true rfl) d5_lastHolds_81 (fun y hy => ?_)
          obtain ⟨y1, y2, y3, y4⟩ := hy
          rw [hsu] at y3
          refine g_putLh _ fl5_43 d5_lastHolds_84 f_30_4 s_30_4 ?_
          refine g_aload_n d5_lastHolds_87 rfl ?_
          refine g_get fl5_36 d5_lastHolds_88 f_30_3 ?_
          refine g_topI ((0 : Int32)) (y3) ?_
          refine g_iz_ne (0) 96 (by decide) d5_lastHolds_91 rfl (fun c91 => absurd c91 (by decide)) (fun _ => ?_)
          refine g_iconstv (nI 1) d5_lastHolds_94 rfl ?_
          refine g_zret rfl (by decide) d5_lastHolds_95 (⟨(y.1, uL y.2.1 30 4 y.2.2), ⟨(hF.tr x1).tr (⟨y1.1, y1.2.1, fun c c1 c2 => (uL_n c2).trans (y1.2.2 c c1 c2)⟩), fun v hv => ?_⟩, by rw [hE, ht2, hsu]; rfl, rfl⟩)
          rw [hE, ht2, hsu] at hv
          have hv2 : some w = some v := hv
          injection hv2 with hv2
          show uL y.2.1 30 4 y.2.2 30 4 = v
          rw [uL_ss, y4 w hsu]; exact hv2
set_option maxHeartbeats 200000 in
theorem r5_30_holds {l : Launch} {K : cK} {d : Nat} {I : wI} {L : wL} {R : wR} {dy : cH} {T : Nat} {cs : List Cl} (hC : CTX dy T cs) (head : Nat) (hh : head ≤ 2) (env : Nat → Int64) (henv : ∀ j, j < 7 → env (j + 1) = (I 31 j).toInt64) (hd : 2 ≤ d) : CX l K m5_lastHolds d [.ref 30, .ref T, .int (nI head)] (hp I L R dy) (α := wI × wL) (fun x => RF 30 32 I L x.1 x.2 ∧ ∀ v, tW cs env head cs.length = some v → x.2 30 4 = v) (fun _ => .int (if (tW cs env head cs.length).isSome = true then 1 else 0)) (fun x => hp x.1 x.2 R dy) := by
  have hC2 := hC
  obtain ⟨sz, A, st, wi, hX, hv, hc⟩ := hC2
  refine CC.of ok5_lastHolds (Nat.le_of_ble_eq_true rfl) ?_
  refine g_aload_n d5_lastHolds_0 rfl ?_
  refine g_ifnonnull 6 d5_lastHolds_1 rfl ?_
  refine g_aload_n d5_lastHolds_6 rfl ?_
  refine g_get fl5_17 d5_lastHolds_7 (hX.f0) ?_
  refine g_iconstv (nI 1) d5_lastHolds_10 rfl ?_
  refine g_isub d5_lastHolds_11 ?_
  refine g_topI (mkI cs.length) (by cases cs.length with | zero => decide | succ n => rw [mkI_s]; exact pk_sub (by omega)) ?_
  refine g_istore_n d5_lastHolds_12 (by decide) ?_
  refine g_lo [(0, .ref 30), (1, .ref T), (2, .int (nI head)), (3, .int (mkI cs.length))] ⟨rfl, rfl, rfl, rfl, trivial⟩ ?_
  exact r5_30_lhL hC head hh env henv (by omega) cs.length I L (Nat.le_refl _) ⟨fun _ _ => rfl, fun _ _ _ => rfl, fun _ _ _ => rfl⟩
set_option maxHeartbeats 200000 in
theorem r5_30_hnull {l : Launch} {K : cK} {d : Nat} {I : wI} {L : wL} {R : wR} {dy : cH} (head : Nat) (hd : 0 ≤ d) : CE l K m5_lastHolds d [.ref 30, .null, .int (nI head)] (hp I L R dy) (.int (nI 0)) (hp I L R dy) := by
  refine CC.of ok5_lastHolds (Nat.le_of_ble_eq_true rfl) ?_
  refine g_nload_n d5_lastHolds_0 rfl ?_
  refine g_ifnonnullN d5_lastHolds_1 ?_
  refine g_iconstv (nI 0) d5_lastHolds_4 rfl ?_
  exact g_zret rfl (by decide) d5_lastHolds_5 (⟨rfl, rfl⟩)
