set_option maxHeartbeats 400000 in
theorem r12_tells_loop {l : Launch} {K : cK} {d : Nat} {I : wI} {L : wL} {R : wR} {dy : cH} (b nc : Nat) (hd s1 s2 t1 t2 op arg : Nat → Nat) (hT : TM (I 76) b nc hd s1 s2 t1 t2 op arg) (head : Nat) (hh : head ≤ 2) (w : Int64) (env : Nat → Int64) (ho : I 74 15 = 0 ∧ env = L 87 ∨ I 74 15 = 1 ∧ env = L 88) (hd9 : 3 ≤ d) :
    ∀ (n c : Nat) (I2 : wI) (L2 : wL), c + n = nc → SF I L (I2, L2) → I2 74 28 = nI b → (∀ k, k ≠ 89 → k ≠ 74 → L2 k = L k) →
    GL l K m12_tells d 0 0 11 [(0, .ref 74), (1, .int (nI b)), (2, .int (nI head)), (5, .long (tF op arg env hd s1 s2 t1 t2 head w c)), (7, .int (nI c))] [] (hp I2 L2 R dy) (fun r h => ∃ x : wI × wL, (SF I L x ∧ ∀ k, k ≠ 89 → k ≠ 74 → x.2 k = L k) ∧ r = some (.long (tF op arg env hd s1 s2 t1 t2 head w nc)) ∧ h = hp x.1 x.2 R dy) := by
  have hT0 := hT
  obtain ⟨t0, hnc, hb9, hcl, hwf⟩ := hT
  intro n
  induction n with
  | zero =>
    intro c I2 L2 hcn hS h28 hL
    have e76 : I2 76 = I 76 := hS.1 76 (by decide)
    obtain rfl : c = nc := by omega
    refine g_iload d12_tells_11 rfl ?_
    refine g_aload_n d12_tells_13 rfl ?_
    refine g_get fl12_13 d12_tells_14 f_74_3 ?_
    refine g_iload_n d12_tells_17 rfl ?_
    refine g_iconstv (nI 1) d12_tells_18 rfl ?_
    refine g_iaddN d12_tells_19 ?_
    refine g_ialdN ((b + 1)) d12_tells_20 a_76 (rfl) (by omega) (by decide) ?_
    refine g_topI (nI c) (by rw [e76]; exact t0) ?_
    refine g_ic_ge ((c : Nat) : Int) ((c : Nat) : Int) 76 (nI_ti (by omega)) (nI_ti (by omega)) d12_tells_21 rfl (fun _ => ?_) (fun c21 => absurd c21 (by omega))
    refine g_lload d12_tells_76 rfl ?_
    exact g_lret rfl d12_tells_78 (⟨(I2, L2), ⟨hS, hL⟩, rfl, rfl⟩)
  | succ n ih =>
    intro c I2 L2 hcn hS h28 hL
    have e76 : I2 76 = I 76 := hS.1 76 (by decide)
    have hc : c < nc := by omega
    obtain ⟨q0, q0', -⟩ := hcl c hc
    by_cases hh1 : hd c = head
    · skip
      refine g_iload d12_tells_11 rfl ?_
      refine g_aload_n d12_tells_13 rfl ?_
      refine g_get fl12_13 d12_tells_14 f_74_3 ?_
      refine g_iload_n d12_tells_17 rfl ?_
      refine g_iconstv (nI 1) d12_tells_18 rfl ?_
      refine g_iaddN d12_tells_19 ?_
      refine g_ialdN ((b + 1)) d12_tells_20 a_76 (rfl) (by omega) (by decide) ?_
      refine g_topI (nI nc) (by rw [e76]; exact t0) ?_
      refine g_ic_ge ((c : Nat) : Int) ((nc : Nat) : Int) 76 (nI_ti (by omega)) (nI_ti (by omega)) d12_tells_21 rfl (fun c21 => absurd c21 (by omega)) (fun _ => ?_)
      refine g_iload_n d12_tells_24 rfl ?_
      refine g_iconstv (nI 2) d12_tells_25 rfl ?_
      refine g_iaddN d12_tells_26 ?_
      refine g_bipushv (nI 8) d12_tells_27 rfl ?_
      refine g_iload d12_tells_29 rfl ?_
      refine g_imulN d12_tells_31 ?_
      refine g_iaddN d12_tells_32 ?_
      refine g_istore d12_tells_33 (by decide) ?_
      refine g_aload_n d12_tells_35 rfl ?_
      refine g_get fl12_13 d12_tells_36 f_74_3 ?_
      refine g_iload d12_tells_39 rfl ?_
      refine g_ialdN (((b + 2) + (8 * c))) d12_tells_41 a_76 (rfl) (by omega) (by decide) ?_
      refine g_topI (nI (hd c)) (by rw [e76]; exact q0) ?_
      refine g_iload_n d12_tells_42 rfl ?_
      refine g_ic_ne (((hd c) : Nat) : Int) ((head : Nat) : Int) 70 (nI_ti (by omega)) (nI_ti (by omega)) d12_tells_43 rfl (fun c43 => absurd c43 (by omega)) (fun _ => ?_)
      refine g_aload_n d12_tells_46 rfl ?_
      refine g_iload d12_tells_47 rfl ?_
      refine g_XV1 vm12_isSo ml12_375 c_74 (r12_isSo b nc hd s1 s2 t1 t2 op arg (by rw [e76]; exact hT0) h28 env (by rw [show I2 74 15 = I 74 15 from hS.2.1 15 (by decide) (by decide), hL 87 (by decide) (by decide), hL 88 (by decide) (by decide)]; exact ho) c hc (Nat.le_refl 2)) (by omega) (Nat.le_of_ble_eq_true rfl) d12_tells_49 (fun y hy => ?_)
      obtain ⟨I3, L3⟩ := y
      obtain ⟨y1, y2, y3, y4⟩ := hy
      dsimp only at y2 y3 y4 ⊢
      have hS3 : SF I L (I3, L3) := hS.tr y1
      have h283 : I3 74 28 = nI b := y2.trans h28
      have hL3 : ∀ k, k ≠ 89 → k ≠ 74 → L3 k = L k := fun k a e => (y3 k a e).trans (hL k a e)
      cases hv : cl op arg env (hd c) (s1 c) (s2 c) (t1 c) (t2 c) with
      | none =>
        have hstep : tF op arg env hd s1 s2 t1 t2 head w (c + 1) = tF op arg env hd s1 s2 t1 t2 head w c := by show (if hd c = head then (cl op arg env (hd c) (s1 c) (s2 c) (t1 c) (t2 c)).getD _ else _) = _; rw [if_pos hh1, hv]; rfl
        refine g_bz 70 d12_tells_52 rfl (fun _ => ?_) (fun c52 => absurd c52 (by simp))
        refine g_iincN d12_tells_70 rfl (by decide) ?_
        refine g_goto 11 d12_tells_73 rfl ?_
        refine g_lo [(0, .ref 74), (1, .int (nI b)), (2, .int (nI head)), (5, .long (tF op arg env hd s1 s2 t1 t2 head w (c + 1))), (7, .int (nI (c + 1)))] ⟨rfl, rfl, rfl, by rw [hstep]; rfl, rfl, trivial⟩ ?_
        exact ih (c + 1) I3 L3 (by omega) hS3 h283 hL3
      | some v =>
        by_cases hh2 : head = 2
        · have hstep : tF op arg env hd s1 s2 t1 t2 head w (c + 1) = 1 := by
            show (if hd c = head then (cl op arg env (hd c) (s1 c) (s2 c) (t1 c) (t2 c)).getD _ else _) = _
            rw [if_pos hh1, hv]
            unfold cl at hv
            split at hv
            · cases hv
            · rw [if_pos (by omega)] at hv; exact (Option.some.inj hv).symm
          refine g_bz 70 d12_tells_52 rfl (fun c52 => absurd c52 (by simp)) (fun _ => ?_)
          refine g_iload_n d12_tells_55 rfl ?_
          refine g_iconstv (nI 2) d12_tells_56 rfl ?_
          refine g_ic_ne ((head : Nat) : Int) (2) 64 (nI_ti (by omega)) (by decide) d12_tells_57 rfl (fun c57 => absurd c57 (by omega)) (fun _ => ?_)
          refine g_lconstv (1) d12_tells_60 rfl ?_
          refine g_goto 68 d12_tells_61 rfl ?_
          refine g_lstore d12_tells_68 (by decide) ?_
          refine g_iincN d12_tells_70 rfl (by decide) ?_
          refine g_goto 11 d12_tells_73 rfl ?_
          refine g_lo [(0, .ref 74), (1, .int (nI b)), (2, .int (nI head)), (5, .long (tF op arg env hd s1 s2 t1 t2 head w (c + 1))), (7, .int (nI (c + 1)))] ⟨rfl, rfl, rfl, by rw [hstep]; rfl, rfl, trivial⟩ ?_
          exact ih (c + 1) I3 L3 (by omega) hS3 h283 hL3
        · have hstep : tF op arg env hd s1 s2 t1 t2 head w (c + 1) = v := by
            show (if hd c = head then (cl op arg env (hd c) (s1 c) (s2 c) (t1 c) (t2 c)).getD _ else _) = _
            rw [if_pos hh1, hv]
            rfl
          have hv34 : L3 74 34 = v := y4 v (by omega) hv
          refine g_bz 70 d12_tells_52 rfl (fun c52 => absurd c52 (by simp)) (fun _ => ?_)
          refine g_iload_n d12_tells_55 rfl ?_
          refine g_iconstv (nI 2) d12_tells_56 rfl ?_
          refine g_ic_ne ((head : Nat) : Int) (2) 64 (nI_ti (by omega)) (by decide) d12_tells_57 rfl (fun _ => ?_) (fun c57 => absurd c57 (by omega))
          refine g_aload_n d12_tells_64 rfl ?_
          refine g_get fl12_372 d12_tells_65 f_74_34 ?_
          refine g_topL (v) (hv34) ?_
          refine g_lstore d12_tells_68 (by decide) ?_
          refine g_iincN d12_tells_70 rfl (by decide) ?_
          refine g_goto 11 d12_tells_73 rfl ?_
          refine g_lo [(0, .ref 74), (1, .int (nI b)), (2, .int (nI head)), (5, .long (tF op arg env hd s1 s2 t1 t2 head w (c + 1))), (7, .int (nI (c + 1)))] ⟨rfl, rfl, rfl, by rw [hstep]; rfl, rfl, trivial⟩ ?_
          exact ih (c + 1) I3 L3 (by omega) hS3 h283 hL3
    · have hstep : tF op arg env hd s1 s2 t1 t2 head w (c + 1) = tF op arg env hd s1 s2 t1 t2 head w c := by show (if hd c = head then _ else _) = _; rw [if_neg hh1]
      refine g_iload d12_tells_11 rfl ?_
      refine g_aload_n d12_tells_13 rfl ?_
      refine g_get fl12_13 d12_tells_14 f_74_3 ?_
      refine g_iload_n d12_tells_17 rfl ?_
      refine g_iconstv (nI 1) d12_tells_18 rfl ?_
      refine g_iaddN d12_tells_19 ?_
      refine g_ialdN ((b + 1)) d12_tells_20 a_76 (rfl) (by omega) (by decide) ?_
      refine g_topI (nI nc) (by rw [e76]; exact t0) ?_
      refine g_ic_ge ((c : Nat) : Int) ((nc : Nat) : Int) 76 (nI_ti (by omega)) (nI_ti (by omega)) d12_tells_21 rfl (fun c21 => absurd c21 (by omega)) (fun _ => ?_)
      refine g_iload_n d12_tells_24 rfl ?_
      refine g_iconstv (nI 2) d12_tells_25 rfl ?_
      refine g_iaddN d12_tells_26 ?_
      refine g_bipushv (nI 8) d12_tells_27 rfl ?_
      refine g_iload d12_tells_29 rfl ?_
      refine g_imulN d12_tells_31 ?_
      refine g_iaddN d12_tells_32 ?_
      refine g_istore d12_tells_33 (by decide) ?_
      refine g_aload_n d12_tells_35 rfl ?_
      refine g_get fl12_13 d12_tells_36 f_74_3 ?_
      refine g_iload d12_tells_39 rfl ?_
      refine g_ialdN (((b + 2) + (8 * c))) d12_tells_41 a_76 (rfl) (by omega) (by decide) ?_
      refine g_topI (nI (hd c)) (by rw [e76]; exact q0) ?_
      refine g_iload_n d12_tells_42 rfl ?_
      refine g_ic_ne (((hd c) : Nat) : Int) ((head : Nat) : Int) 70 (nI_ti (by omega)) (nI_ti (by omega)) d12_tells_43 rfl (fun _ => ?_) (fun c43 => absurd c43 (by omega))
      refine g_iincN d12_tells_70 rfl (by decide) ?_
      refine g_goto 11 d12_tells_73 rfl ?_
      refine g_lo [(0, .ref 74), (1, .int (nI b)), (2, .int (nI head)), (5, .long (tF op arg env hd s1 s2 t1 t2 head w (c + 1))), (7, .int (nI (c + 1)))] ⟨rfl, rfl, rfl, by rw [hstep]; rfl, rfl, trivial⟩ ?_
      exact ih (c + 1) I2 L2 (by omega) hS h28 hL
theorem r12_tells {l : Launch} {K : cK} {d : Nat} {I : wI} {L : wL} {R : wR} {dy : cH} (b nc : Nat) (hd s1 s2 t1 t2 op arg : Nat → Nat) (hT : TM (I 76) b nc hd s1 s2 t1 t2 op arg) (head : Nat) (hh : head ≤ 2) (w : Int64) (env : Nat → Int64) (ho : I 74 15 = 0 ∧ env = L 87 ∨ I 74 15 = 1 ∧ env = L 88) (hd9 : 3 ≤ d) : CX l K m12_tells d [.ref 74, .int (nI b), .int (nI head), .long w] (hp I L R dy) (α := wI × wL) (fun x => SF I L x ∧ ∀ k, k ≠ 89 → k ≠ 74 → x.2 k = L k) (fun _ => .long (tF op arg env hd s1 s2 t1 t2 head w nc)) (fun x => hp x.1 x.2 R dy) := by
  have hb9 : b + 900 ≤ 10880 := hT.2.2.1
  refine CC.of ok12_tells (Nat.le_of_ble_eq_true rfl) ?_
  refine g_aload_n d12_tells_0 rfl ?_
  refine g_iload_n d12_tells_1 rfl ?_
  refine g_putIh _ fl12_355 d12_tells_2 f_74_28 s_74_28 ?_
  refine g_lload_n d12_tells_5 rfl ?_
  refine g_lstore d12_tells_6 (by decide) ?_
  refine g_iconstv (nI 0) d12_tells_8 rfl ?_
  refine g_istore d12_tells_9 (by decide) ?_
  refine g_lo [(0, .ref 74), (1, .int (nI b)), (2, .int (nI head)), (5, .long (tF op arg env hd s1 s2 t1 t2 head w 0)), (7, .int (nI 0))] ⟨rfl, rfl, rfl, rfl, rfl, trivial⟩ ?_
  exact r12_tells_loop (I := I) (L := L) b nc hd s1 s2 t1 t2 op arg hT head hh w env ho hd9 nc 0 (uI I 74 28 (nI b)) L (by omega) ⟨fun k hk => uI_n hk, fun j h _ => (by show uI I 74 28 (nI b) 74 j = I 74 j; rw [uI_at, if_neg (fun q => h q.2)]), fun _ _ _ _ _ => rfl, fun _ _ _ => rfl⟩ (by rw [uI_ss]) (fun _ _ _ => rfl)
/-- a number brought between two -/
def clp (lo hi : Int) (v : Int64) : Int := if v.toInt < lo then lo else if hi < v.toInt then hi else v.toInt
theorem l2i_small {v : Int64} (h0 : 0 ≤ v.toInt) (h1 : v.toInt < 2147483648) : v.toInt32.toInt = v.toInt := by
  rw [Int64.toInt_toInt32]
  exact Int.bmod_eq_of_le (by omega) (by omega)
set_option maxHeartbeats 200000 in
theorem r12_within {l : Launch} {K : cK} {d : Nat} {h : cH} (v : Int64) (hi : Nat) (hh : hi < 1000) (hd : 0 ≤ d) : CE l K m12_within d [.long v, .int (nI 0), .int (nI hi)] h (.int (nI (clp 0 hi v).toNat)) h := by
  refine CC.of ok12_within (Nat.le_of_ble_eq_true rfl) ?_
  refine g_lload_n d12_within_0 rfl ?_
  refine g_iload_n d12_within_1 rfl ?_
  refine g_i2lN (by omega) d12_within_2 ?_
  refine g_lx_ge _ ((0 : Nat) : Int) 11 (rfl) (lN_toInt (by omega)) d12_within_3 d12_within_4 rfl (fun c3 => ?_) (fun c3 => ?_)
  · refine g_lload_n d12_within_11 rfl ?_
    refine g_iload_n d12_within_12 rfl ?_
    refine g_i2lN (by omega) d12_within_13 ?_
    refine g_lx_le _ ((hi : Nat) : Int) 22 (rfl) (lN_toInt (by omega)) d12_within_14 d12_within_15 rfl (fun c14 => ?_) (fun c14 => ?_)
    · refine g_lload_n d12_within_22 rfl ?_
      refine g_l2i d12_within_23 ?_
      exact g_iret rfl d12_within_24 (⟨congrArg (fun z => some (Value.int z)) (by unfold clp; first | rw [if_pos (by omega)]; rfl | rw [if_neg (by omega), if_pos (by omega)]; rfl | rw [if_neg (by omega), if_neg (by omega), i_eq, l2i_small (by omega) (by omega), nI_ti (by omega)]; omega), rfl⟩)
    · refine g_iload_n d12_within_18 rfl ?_
      refine g_goto 24 d12_within_19 rfl ?_
      exact g_iret rfl d12_within_24 (⟨congrArg (fun z => some (Value.int z)) (by unfold clp; first | rw [if_pos (by omega)]; rfl | rw [if_neg (by omega), if_pos (by omega)]; rfl | rw [if_neg (by omega), if_neg (by omega), i_eq, l2i_small (by omega) (by omega), nI_ti (by omega)]; omega), rfl⟩)
  · refine g_iload_n d12_within_7 rfl ?_
    refine g_goto 24 d12_within_8 rfl ?_
    exact g_iret rfl d12_within_24 (⟨congrArg (fun z => some (Value.int z)) (by unfold clp; first | rw [if_pos (by omega)]; rfl | rw [if_neg (by omega), if_pos (by omega)]; rfl | rw [if_neg (by omega), if_neg (by omega), i_eq, l2i_small (by omega) (by omega), nI_ti (by omega)]; omega), rfl⟩)
/-- what a text tells, by what is set, for a head, without: a text of the row -/
def TMF (g : Nat → Int32) (b : Nat) (F : (Nat → Int64) → Nat → Int64 → Int64) : Prop := (∃ (nc : Nat) (hd s1 s2 t1 t2 op arg : Nat → Nat), TM g b nc hd s1 s2 t1 t2 op arg ∧ ∀ env head w, F env head w = tF op arg env hd s1 s2 t1 t2 head w nc) ∧ ∀ (e1 e2 : Nat → Int64), (∀ j, 1 ≤ j → j ≤ 7 → e1 j = e2 j) → F e1 = F e2
abbrev lawF : Type := Option ((Nat → Int64) → Nat → Int64 → Int64)
/-- which law is asked -/
def askd (I : wI) (lf : lawF) : Prop := (lf = none ∧ I 74 35 = -1) ∨ ∃ (a : Nat) (F : (Nat → Int64) → Nat → Int64 → Int64), lf = some F ∧ a < 6 ∧ I 74 35 = nI a ∧ TMF (I 76) (80 + 900 * a) F
def lE (sl si ra wa ca sy mo : Int64) : Nat → Int64 := fun j => if j = 1 then sl else if j = 2 then si else if j = 3 then ra else if j = 4 then wa else if j = 5 then ca else if j = 6 then sy else mo
def cmF (lf : lawF) (env : Nat → Int64) : Nat := match lf with
  | none => 5
  | some F => (clp 0 10 (F env 0 5)).toNat
def fiF (lf : lawF) (env : Nat → Int64) (fine : Nat) : Nat := match lf with
  | none => fine
  | some F => (clp 0 99 (F env 1 (lN fine))).toNat
def spB (lf : lawF) (env : Nat → Int64) : Bool := match lf with
  | none => false
  | some F => decide (F env 2 0 = 1)
theorem askd.sf {I : wI} {L : wL} {x : wI × wL} {lf : lawF} (h : SF I L x) (ha : askd I lf) : askd x.1 lf := by
  unfold askd
  rw [h.2.1 35 (by decide) (by decide), h.1 76 (by decide)]
  exact ha
/-- what is set, in the row -/
def sL (L : wL) (a b c e f g k : Int64) : wL := uL (uL (uL (uL (uL (uL (uL L 87 1 a) 87 2 b) 87 3 c) 87 4 e) 87 5 f) 87 6 g) 87 7 k
theorem sL_env {L : wL} {a b c e f g k : Int64} : ∀ j, 1 ≤ j → j ≤ 7 → sL L a b c e f g k 87 j = lE a b c e f g k j := by
  intro j h1 h7
  rcases (by omega : j = 1 ∨ j = 2 ∨ j = 3 ∨ j = 4 ∨ j = 5 ∨ j = 6 ∨ j = 7) with rfl | rfl | rfl | rfl | rfl | rfl | rfl <;> simp [sL, uL_at, lE]
theorem sL_n {L : wL} {a b c e f g k : Int64} {q : Nat} (h : q ≠ 87) : sL L a b c e f g k q = L q := by simp [sL, uL_n h]
theorem SF.set {I : wI} {L : wL} {a b c e f g k : Int64} : SF I L (I, sL L a b c e f g k) := ⟨fun _ _ => rfl, fun _ _ _ => rfl, fun _ _ h _ _ => sL_n h, fun j _ _ => by show sL L a b c e f g k 74 j = _; rw [sL_n (by decide)]⟩
set_option maxHeartbeats 200000 in
theorem r12_setLaw {l : Launch} {K : cK} {d : Nat} {I : wI} {L : wL} {R : wR} {dy : cH} (a b c e : Int32) (hd : 1 ≤ d) : CV l K m12_setLaw d [.ref 74, .int a, .int b, .int c, .int e] (hp I L R dy) (hp I (sL L a.toInt64 b.toInt64 (I 76 9).toInt64 (I 74 36).toInt64 c.toInt64 e.toInt64 (I 76 13).toInt64) R dy) := by
  refine CC.of ok12_setLaw (Nat.le_of_ble_eq_true rfl) ?_
  refine g_aload_n d12_setLaw_0 rfl ?_
  refine g_get fl12_74 d12_setLaw_1 f_74_29 ?_
  refine g_iconstv (nI 1) d12_setLaw_4 rfl ?_
  refine g_iload_n d12_setLaw_5 rfl ?_
  refine g_i2l d12_setLaw_6 ?_
  refine g_lastN (1) _ d12_setLaw_7 a_87 (rfl) (by omega) (by decide) t_87 ?_
  refine g_aload_n d12_setLaw_8 rfl ?_
  refine g_get fl12_74 d12_setLaw_9 f_74_29 ?_
  refine g_iconstv (nI 2) d12_setLaw_12 rfl ?_
  refine g_iload_n d12_setLaw_13 rfl ?_
  refine g_i2l d12_setLaw_14 ?_
  refine g_lastN (2) _ d12_setLaw_15 a_87 (rfl) (by omega) (by decide) t_87 ?_
  refine g_aload_n d12_setLaw_16 rfl ?_
  refine g_get fl12_74 d12_setLaw_17 f_74_29 ?_
  refine g_iconstv (nI 3) d12_setLaw_20 rfl ?_
  refine g_aload_n d12_setLaw_21 rfl ?_
  refine g_iconstv (nI 3) d12_setLaw_22 rfl ?_
  refine g_EV1 vm12_term ml12_378 c_74 (r12_term (3) (by omega) (Nat.le_refl 0)) (by omega) (Nat.le_of_ble_eq_true rfl) d12_setLaw_23 ?_
  refine g_i2l d12_setLaw_26 ?_
  refine g_lastN (3) _ d12_setLaw_27 a_87 (rfl) (by omega) (by decide) t_87 ?_
  refine g_aload_n d12_setLaw_28 rfl ?_
  refine g_get fl12_74 d12_setLaw_29 f_74_29 ?_
  refine g_iconstv (nI 4) d12_setLaw_32 rfl ?_
  refine g_aload_n d12_setLaw_33 rfl ?_
  refine g_get fl12_381 d12_setLaw_34 f_74_36 ?_
  refine g_topI (I 74 (36)) rfl ?_
  refine g_i2l d12_setLaw_37 ?_
  refine g_lastN (4) _ d12_setLaw_38 a_87 (rfl) (by omega) (by decide) t_87 ?_
  refine g_aload_n d12_setLaw_39 rfl ?_
  refine g_get fl12_74 d12_setLaw_40 f_74_29 ?_
  refine g_iconstv (nI 5) d12_setLaw_43 rfl ?_
  refine g_iload_n d12_setLaw_44 rfl ?_
  refine g_i2l d12_setLaw_45 ?_
  refine g_lastN (5) _ d12_setLaw_46 a_87 (rfl) (by omega) (by decide) t_87 ?_
  refine g_aload_n d12_setLaw_47 rfl ?_
  refine g_get fl12_74 d12_setLaw_48 f_74_29 ?_
  refine g_bipushv (nI 6) d12_setLaw_51 rfl ?_
  refine g_iload d12_setLaw_53 rfl ?_
  refine g_i2l d12_setLaw_55 ?_
  refine g_lastN (6) _ d12_setLaw_56 a_87 (rfl) (by omega) (by decide) t_87 ?_
  refine g_aload_n d12_setLaw_57 rfl ?_
  refine g_get fl12_74 d12_setLaw_58 f_74_29 ?_
  refine g_bipushv (nI 7) d12_setLaw_61 rfl ?_
  refine g_aload_n d12_setLaw_63 rfl ?_
  refine g_bipushv (nI 7) d12_setLaw_64 rfl ?_
  refine g_EV1 vm12_term ml12_378 c_74 (r12_term (7) (by omega) (Nat.le_refl 0)) (by omega) (Nat.le_of_ble_eq_true rfl) d12_setLaw_66 ?_
  refine g_i2l d12_setLaw_69 ?_
  refine g_lastN (7) _ d12_setLaw_70 a_87 (rfl) (by omega) (by decide) t_87 ?_
  exact g_vret rfl d12_setLaw_71 (⟨rfl, rfl⟩)
set_option maxHeartbeats 400000 in
theorem r12_comesOf {l : Launch} {K : cK} {d : Nat} {I : wI} {L : wL} {R : wR} {dy : cH} (sl si : Nat) (h1 : sl < 2147483648) (h2 : si < 2147483648) (lf : lawF) (ha : askd I lf) (ho : I 74 15 = 0) (hd : 4 ≤ d) : CX l K m12_comesOf d [.ref 74, .int (nI sl), .int (nI si)] (hp I L R dy) (α := wI × wL) (fun x => SF I L x) (fun _ => .int (nI (cmF lf (lE (lN sl) (lN si) (I 76 9).toInt64 (I 74 36).toInt64 (-1) (-1) (I 76 13).toInt64)))) (fun x => hp x.1 x.2 R dy) := by
  refine CC.of ok12_comesOf (Nat.le_of_ble_eq_true rfl) ?_
  rcases ha with ⟨rfl, ha⟩ | ⟨a, F, rfl, ha6, ha, ⟨⟨nc, hd0, s1, s2, t1, t2, op, arg, hT, hF⟩, hinv⟩⟩
  · skip
    refine g_aload_n d12_comesOf_0 rfl ?_
    refine g_get fl12_384 d12_comesOf_1 f_74_35 ?_
    refine g_topI ((-1 : Int32)) (ha) ?_
    refine g_iconstv ((-1 : Int32)) d12_comesOf_4 rfl ?_
    refine g_ic_ne (-1) (-1) 10 (by decide) (by decide) d12_comesOf_5 rfl (fun c5 => absurd c5 (by decide)) (fun _ => ?_)
    refine g_iconstv (nI 5) d12_comesOf_8 rfl ?_
    exact g_iret rfl d12_comesOf_9 (⟨(I, L), SF.rf, rfl, rfl⟩)
  · skip
    refine g_aload_n d12_comesOf_0 rfl ?_
    refine g_get fl12_384 d12_comesOf_1 f_74_35 ?_
    refine g_topI (nI a) (ha) ?_
    refine g_iconstv ((-1 : Int32)) d12_comesOf_4 rfl ?_
    refine g_ic_ne ((a : Nat) : Int) (-1) 10 (nI_ti (by omega)) (by decide) d12_comesOf_5 rfl (fun _ => ?_) (fun c5 => absurd c5 (by omega))
    refine g_aload_n d12_comesOf_10 rfl ?_
    refine g_iload_n d12_comesOf_11 rfl ?_
    refine g_iload_n d12_comesOf_12 rfl ?_
    refine g_iconstv ((-1 : Int32)) d12_comesOf_13 rfl ?_
    refine g_iconstv ((-1 : Int32)) d12_comesOf_14 rfl ?_
    refine g_VV4 vm12_setLaw ml12_387 c_74 (r12_setLaw _ _ _ _ (Nat.le_refl 1)) (by omega) (Nat.le_of_ble_eq_true rfl) d12_comesOf_15 ?_
    rw [nI_l h1, nI_l h2]
    refine g_aload_n d12_comesOf_18 rfl ?_
    refine g_bipushv (nI 80) d12_comesOf_19 rfl ?_
    refine g_sipushv (nI 900) d12_comesOf_21 rfl ?_
    refine g_aload_n d12_comesOf_24 rfl ?_
    refine g_get fl12_384 d12_comesOf_25 f_74_35 ?_
    refine g_topI (nI a) (ha) ?_
    refine g_imulN d12_comesOf_28 ?_
    refine g_iaddN d12_comesOf_29 ?_
    refine g_iconstv (nI 0) d12_comesOf_30 rfl ?_
    refine g_ldc2 d12_comesOf_31 kl12_391 ?_
    refine g_XV3 vm12_tells ml12_393 c_74 (r12_tells (80 + 900 * a) nc hd0 s1 s2 t1 t2 op arg (by exact hT) 0 (by decide) 5 _ (Or.inl ⟨by exact ho, rfl⟩) (Nat.le_refl 3)) (by omega) (Nat.le_of_ble_eq_true rfl) d12_comesOf_34 (fun x hx => ?_)
    refine g_topL (F (lE (lN sl) (lN si) (I 76 9).toInt64 (I 74 36).toInt64 (-1) (-1) (I 76 13).toInt64) 0 5) (by show tF op arg _ hd0 s1 s2 t1 t2 0 5 nc = F (lE (lN sl) (lN si) (I 76 9).toInt64 (I 74 36).toInt64 (-1) (-1) (I 76 13).toInt64) 0 5; rw [← hF]; exact congrFun (congrFun (hinv _ _ (fun j h1 h7 => sL_env j h1 h7)) _) _) ?_
    refine g_iconstv (nI 0) d12_comesOf_37 rfl ?_
    refine g_bipushv (nI 10) d12_comesOf_38 rfl ?_
    refine g_ES3 sm12_within ml12_397 (r12_within _ 10 (by decide) (Nat.le_refl 0)) (by omega) (Nat.le_of_ble_eq_true rfl) d12_comesOf_40 ?_
    exact g_iret rfl d12_comesOf_43 (⟨x, SF.set.tr hx.1, rfl, rfl⟩)
set_option maxHeartbeats 400000 in
theorem r12_finesOf {l : Launch} {K : cK} {d : Nat} {I : wI} {L : wL} {R : wR} {dy : cH} (sl si c fr : Nat) (h1 : sl < 2147483648) (h2 : si < 2147483648) (hc : c < 6) (hfr : I 76 (14 + 4 * c + 0) = nI fr) (hle : fr ≤ sl) (fine : Nat) (hfi : fine < 1000) (lf : lawF) (ha : askd I lf) (ho : I 74 15 = 0) (hd : 4 ≤ d) : CX l K m12_finesOf d [.ref 74, .int (nI sl), .int (nI si), .int (nI c), .int (nI fine)] (hp I L R dy) (α := wI × wL) (fun x => SF I L x) (fun _ => .int (nI (fiF lf (lE (lN sl) (lN si) (I 76 9).toInt64 (I 74 36).toInt64 (lN c) (lN (sl - fr)) (I 76 13).toInt64) fine))) (fun x => hp x.1 x.2 R dy) := by
  refine CC.of ok12_finesOf (Nat.le_of_ble_eq_true rfl) ?_
  rcases ha with ⟨rfl, ha⟩ | ⟨a, F, rfl, ha6, ha, ⟨⟨nc, hd0, s1, s2, t1, t2, op, arg, hT, hF⟩, hinv⟩⟩
  · skip
    refine g_aload_n d12_finesOf_0 rfl ?_
    refine g_get fl12_384 d12_finesOf_1 f_74_35 ?_
    refine g_topI ((-1 : Int32)) (ha) ?_
    refine g_iconstv ((-1 : Int32)) d12_finesOf_4 rfl ?_
    refine g_ic_ne (-1) (-1) 11 (by decide) (by decide) d12_finesOf_5 rfl (fun c5 => absurd c5 (by decide)) (fun _ => ?_)
    refine g_iload d12_finesOf_8 rfl ?_
    exact g_iret rfl d12_finesOf_10 (⟨(I, L), SF.rf, rfl, rfl⟩)
  · skip
    refine g_aload_n d12_finesOf_0 rfl ?_
    refine g_get fl12_384 d12_finesOf_1 f_74_35 ?_
    refine g_topI (nI a) (ha) ?_
    refine g_iconstv ((-1 : Int32)) d12_finesOf_4 rfl ?_
    refine g_ic_ne ((a : Nat) : Int) (-1) 11 (nI_ti (by omega)) (by decide) d12_finesOf_5 rfl (fun _ => ?_) (fun c5 => absurd c5 (by omega))
    refine g_aload_n d12_finesOf_11 rfl ?_
    refine g_iload_n d12_finesOf_12 rfl ?_
    refine g_iload_n d12_finesOf_13 rfl ?_
    refine g_iload_n d12_finesOf_14 rfl ?_
    refine g_iload_n d12_finesOf_15 rfl ?_
    refine g_aload_n d12_finesOf_16 rfl ?_
    refine g_iload_n d12_finesOf_17 rfl ?_
    refine g_iconstv (nI 0) d12_finesOf_18 rfl ?_
    refine g_EV2 vm12_ofCar ml12_167 c_74 (r12_ofCar (c) (0) (by omega) (by omega) (Nat.le_refl 0)) (by omega) (Nat.le_of_ble_eq_true rfl) d12_finesOf_19 ?_
    refine g_topI (nI fr) (hfr) ?_
    refine g_isubN (hle) d12_finesOf_22 ?_
    refine g_VV4 vm12_setLaw ml12_387 c_74 (r12_setLaw _ _ _ _ (Nat.le_refl 1)) (by omega) (Nat.le_of_ble_eq_true rfl) d12_finesOf_23 ?_
    rw [nI_l h1, nI_l h2, nI_l (by omega : c < 2147483648), nI_l (by omega : sl - fr < 2147483648)]
    refine g_aload_n d12_finesOf_26 rfl ?_
    refine g_bipushv (nI 80) d12_finesOf_27 rfl ?_
    refine g_sipushv (nI 900) d12_finesOf_29 rfl ?_
    refine g_aload_n d12_finesOf_32 rfl ?_
    refine g_get fl12_384 d12_finesOf_33 f_74_35 ?_
    refine g_topI (nI a) (ha) ?_
    refine g_imulN d12_finesOf_36 ?_
    refine g_iaddN d12_finesOf_37 ?_
    refine g_iconstv (nI 1) d12_finesOf_38 rfl ?_
    refine g_iload d12_finesOf_39 rfl ?_
    refine g_i2lN (by omega) d12_finesOf_41 ?_
    refine g_XV3 vm12_tells ml12_393 c_74 (r12_tells (80 + 900 * a) nc hd0 s1 s2 t1 t2 op arg (by exact hT) 1 (by decide) (lN fine) _ (Or.inl ⟨by exact ho, rfl⟩) (Nat.le_refl 3)) (by omega) (Nat.le_of_ble_eq_true rfl) d12_finesOf_42 (fun x hx => ?_)
    refine g_topL (F (lE (lN sl) (lN si) (I 76 9).toInt64 (I 74 36).toInt64 (lN c) (lN (sl - fr)) (I 76 13).toInt64) 1 (lN fine)) (by show tF op arg _ hd0 s1 s2 t1 t2 1 (lN fine) nc = F (lE (lN sl) (lN si) (I 76 9).toInt64 (I 74 36).toInt64 (lN c) (lN (sl - fr)) (I 76 13).toInt64) 1 (lN fine); rw [← hF]; exact congrFun (congrFun (hinv _ _ (fun j h1 h7 => sL_env j h1 h7)) _) _) ?_
    refine g_iconstv (nI 0) d12_finesOf_45 rfl ?_
    refine g_bipushv (nI 99) d12_finesOf_46 rfl ?_
    refine g_ES3 sm12_within ml12_397 (r12_within _ 99 (by decide) (Nat.le_refl 0)) (by omega) (Nat.le_of_ble_eq_true rfl) d12_finesOf_48 ?_
    exact g_iret rfl d12_finesOf_51 (⟨x, SF.set.tr hx.1, rfl, rfl⟩)
set_option maxHeartbeats 400000 in
theorem r12_isSpared {l : Launch} {K : cK} {d : Nat} {I : wI} {L : wL} {R : wR} {dy : cH} (sl si c fr : Nat) (h1 : sl < 2147483648) (h2 : si < 2147483648) (hc : c < 6) (hfr : I 76 (14 + 4 * c + 0) = nI fr) (hle : fr ≤ sl) (lf : lawF) (ha : askd I lf) (ho : I 74 15 = 0) (hd : 4 ≤ d) : CX l K m12_isSpared d [.ref 74, .int (nI sl), .int (nI si), .int (nI c)] (hp I L R dy) (α := wI × wL) (fun x => SF I L x) (fun _ => .int (if spB lf (lE (lN sl) (lN si) (I 76 9).toInt64 (I 74 36).toInt64 (lN c) (lN (sl - fr)) (I 76 13).toInt64) = true then 1 else 0)) (fun x => hp x.1 x.2 R dy) := by
  refine CC.of ok12_isSpared (Nat.le_of_ble_eq_true rfl) ?_
  rcases ha with ⟨rfl, ha⟩ | ⟨a, F, rfl, ha6, ha, ⟨⟨nc, hd0, s1, s2, t1, t2, op, arg, hT, hF⟩, hinv⟩⟩
  · skip
    refine g_aload_n d12_isSpared_0 rfl ?_
    refine g_get fl12_384 d12_isSpared_1 f_74_35 ?_
    refine g_topI ((-1 : Int32)) (ha) ?_
    refine g_iconstv ((-1 : Int32)) d12_isSpared_4 rfl ?_
    refine g_ic_ne (-1) (-1) 10 (by decide) (by decide) d12_isSpared_5 rfl (fun c5 => absurd c5 (by decide)) (fun _ => ?_)
    refine g_iconstv (nI 0) d12_isSpared_8 rfl ?_
    exact g_zret rfl (by decide) d12_isSpared_9 (⟨(I, L), SF.rf, rfl, rfl⟩)
  · skip
    refine g_aload_n d12_isSpared_0 rfl ?_
    refine g_get fl12_384 d12_isSpared_1 f_74_35 ?_
    refine g_topI (nI a) (ha) ?_
    refine g_iconstv ((-1 : Int32)) d12_isSpared_4 rfl ?_
    refine g_ic_ne ((a : Nat) : Int) (-1) 10 (nI_ti (by omega)) (by decide) d12_isSpared_5 rfl (fun _ => ?_) (fun c5 => absurd c5 (by omega))
    refine g_aload_n d12_isSpared_10 rfl ?_
    refine g_iload_n d12_isSpared_11 rfl ?_
    refine g_iload_n d12_isSpared_12 rfl ?_
    refine g_iload_n d12_isSpared_13 rfl ?_
    refine g_iload_n d12_isSpared_14 rfl ?_
    refine g_aload_n d12_isSpared_15 rfl ?_
    refine g_iload_n d12_isSpared_16 rfl ?_
    refine g_iconstv (nI 0) d12_isSpared_17 rfl ?_
    refine g_EV2 vm12_ofCar ml12_167 c_74 (r12_ofCar (c) (0) (by omega) (by omega) (Nat.le_refl 0)) (by omega) (Nat.le_of_ble_eq_true rfl) d12_isSpared_18 ?_
    refine g_topI (nI fr) (hfr) ?_
    refine g_isubN (hle) d12_isSpared_21 ?_
    refine g_VV4 vm12_setLaw ml12_387 c_74 (r12_setLaw _ _ _ _ (Nat.le_refl 1)) (by omega) (Nat.le_of_ble_eq_true rfl) d12_isSpared_22 ?_
    rw [nI_l h1, nI_l h2, nI_l (by omega : c < 2147483648), nI_l (by omega : sl - fr < 2147483648)]
    refine g_aload_n d12_isSpared_25 rfl ?_
    refine g_bipushv (nI 80) d12_isSpared_26 rfl ?_
    refine g_sipushv (nI 900) d12_isSpared_28 rfl ?_
    refine g_aload_n d12_isSpared_31 rfl ?_
    refine g_get fl12_384 d12_isSpared_32 f_74_35 ?_
    refine g_topI (nI a) (ha) ?_
    refine g_imulN d12_isSpared_35 ?_
    refine g_iaddN d12_isSpared_36 ?_
    refine g_iconstv (nI 2) d12_isSpared_37 rfl ?_
    refine g_lconstv (0) d12_isSpared_38 rfl ?_
    refine g_XV3 vm12_tells ml12_393 c_74 (r12_tells (80 + 900 * a) nc hd0 s1 s2 t1 t2 op arg (by exact hT) 2 (by decide) 0 _ (Or.inl ⟨by exact ho, rfl⟩) (Nat.le_refl 3)) (by omega) (Nat.le_of_ble_eq_true rfl) d12_isSpared_39 (fun x hx => ?_)
    refine g_topL (F (lE (lN sl) (lN si) (I 76 9).toInt64 (I 74 36).toInt64 (lN c) (lN (sl - fr)) (I 76 13).toInt64) 2 0) (by show tF op arg _ hd0 s1 s2 t1 t2 2 0 nc = F (lE (lN sl) (lN si) (I 76 9).toInt64 (I 74 36).toInt64 (lN c) (lN (sl - fr)) (I 76 13).toInt64) 2 0; rw [← hF]; exact congrFun (congrFun (hinv _ _ (fun j h1 h7 => sL_env j h1 h7)) _) _) ?_
    refine g_lconstv (1) d12_isSpared_42 rfl ?_
    refine g_lx_ne _ (1) 51 (rfl) (by decide) d12_isSpared_43 d12_isSpared_44 rfl (fun c43 => ?_) (fun c43 => ?_)
    · refine g_iconstv (nI 0) d12_isSpared_51 rfl ?_
      exact g_zret rfl (by decide) d12_isSpared_52 (⟨x, SF.set.tr hx.1, congrArg (fun z => some (Value.int z)) (by unfold spB; first | rw [if_pos (by simp only [decide_eq_true_eq]; rw [l_eq]; exact c43)]; rfl | rw [if_neg (by simp only [decide_eq_true_eq]; rw [l_eq]; exact c43)]; rfl), rfl⟩)
    · refine g_iconstv (nI 1) d12_isSpared_47 rfl ?_
      refine g_goto 52 d12_isSpared_48 rfl ?_
      exact g_zret rfl (by decide) d12_isSpared_52 (⟨x, SF.set.tr hx.1, congrArg (fun z => some (Value.int z)) (by unfold spB; first | rw [if_pos (by simp only [decide_eq_true_eq]; rw [l_eq]; exact c43)]; rfl | rw [if_neg (by simp only [decide_eq_true_eq]; rw [l_eq]; exact c43)]; rfl), rfl⟩)
set_option maxHeartbeats 200000 in
theorem r12_askNow {l : Launch} {K : cK} {d : Nat} {I : wI} {L : wL} {R : wR} {dy : cH}  (hd : 1 ≤ d) : CV l K m12_askNow d [.ref 74] (hp I L R dy) (hp (uI (uI I 74 35 (I 76 5)) 74 36 (I 76 11)) L R dy) := by
  refine CC.of ok12_askNow (Nat.le_of_ble_eq_true rfl) ?_
  refine g_aload_n d12_askNow_0 rfl ?_
  refine g_aload_n d12_askNow_1 rfl ?_
  refine g_get fl12_13 d12_askNow_2 f_74_3 ?_
  refine g_iconstv (nI 5) d12_askNow_5 rfl ?_
  refine g_ialdN (5) d12_askNow_6 a_76 (rfl) (by omega) (by decide) ?_
  refine g_putIh _ fl12_384 d12_askNow_7 f_74_35 s_74_35 ?_
  refine g_aload_n d12_askNow_10 rfl ?_
  refine g_aload_n d12_askNow_11 rfl ?_
  refine g_iconstv (nI 5) d12_askNow_12 rfl ?_
  refine g_EV1 vm12_term ml12_378 c_74 (r12_term (5) (by omega) (Nat.le_refl 0)) (by omega) (Nat.le_of_ble_eq_true rfl) d12_askNow_13 ?_
  refine g_putIh _ fl12_381 d12_askNow_16 f_74_36 s_74_36 ?_
  exact g_vret rfl d12_askNow_19 (⟨rfl, rfl⟩)
def lat (k : Nat) : Nat := if k < 12 then k + 1 else 12
def les (k : Nat) : Nat := k - 1
set_option maxHeartbeats 200000 in
theorem r12_later {l : Launch} {K : cK} {d : Nat} {h : cH} (k : Nat) (hk : k < 1000) (hd : 0 ≤ d) : CE l K m12_later d [.int (nI k)] h (.int (nI (lat k))) h := by
  refine CC.of ok12_later (Nat.le_of_ble_eq_true rfl) ?_
  refine g_iload_n d12_later_0 rfl ?_
  refine g_bipushv (nI 12) d12_later_1 rfl ?_
  refine g_ic_ge ((k : Nat) : Int) (12) 12 (nI_ti (by omega)) (by decide) d12_later_3 rfl (fun c3 => ?_) (fun c3 => ?_)
  · refine g_bipushv (nI 12) d12_later_12 rfl ?_
    exact g_iret rfl d12_later_14 (⟨congrArg (fun z => some (Value.int z)) (by unfold lat; first | rw [if_pos (by omega)] | rw [if_neg (by omega)]), rfl⟩)
  · refine g_iload_n d12_later_6 rfl ?_
    refine g_iconstv (nI 1) d12_later_7 rfl ?_
    refine g_iaddN d12_later_8 ?_
    refine g_goto 14 d12_later_9 rfl ?_
    exact g_iret rfl d12_later_14 (⟨congrArg (fun z => some (Value.int z)) (by unfold lat; first | rw [if_pos (by omega)] | rw [if_neg (by omega)]), rfl⟩)
set_option maxHeartbeats 200000 in
theorem r12_less {l : Launch} {K : cK} {d : Nat} {h : cH} (k : Nat) (hk : k < 1000) (hd : 0 ≤ d) : CE l K m12_less d [.int (nI k)] h (.int (nI (les k))) h := by
  refine CC.of ok12_less (Nat.le_of_ble_eq_true rfl) ?_
  refine g_iload_n d12_less_0 rfl ?_
  refine g_iz_le ((k : Nat) : Int) 10 (nI_ti (by omega)) d12_less_1 rfl (fun c1 => ?_) (fun c1 => ?_)
  · refine g_iconstv (nI 0) d12_less_10 rfl ?_
    exact g_iret rfl d12_less_11 (⟨congrArg (fun z => some (Value.int z)) (by unfold les; first | rfl | (rw [show k = 0 by omega])), rfl⟩)
  · refine g_iload_n d12_less_4 rfl ?_
    refine g_iconstv (nI 1) d12_less_5 rfl ?_
    refine g_isubN (by omega) d12_less_6 ?_
    refine g_goto 11 d12_less_7 rfl ?_
    exact g_iret rfl d12_less_11 (⟨congrArg (fun z => some (Value.int z)) (by unfold les; first | rfl | (rw [show k = 0 by omega])), rfl⟩)
