/-- the terms are as told (the class) -/
def DTc (I : wI) (D : DP) (n : Nat) (lc : Option (List Cl)) : Prop := D.g 9 = I 3 3 ∧ D.g 13 = I 3 7 ∧ D.g 11 = I 3 5 ∧ I 3 4 = nI D.s0 ∧ 1 ≤ D.s0 ∧ D.s0 ≤ 12 ∧ CT I D.coin D.per D.fine ∧ CSC I n D.cF D.cT D.cS D.cL ∧ D.lf = lfO lc ∧ D.z0 < 1000003
theorem DTc.of {I I2 : wI} {D : DP} {n : Nat} {lc : Option (List Cl)} (h : DTc I D n lc) (e1 : I2 1 = I 1) (e2 : I2 2 = I 2) (e3 : I2 3 = I 3) : DTc I2 D n lc := by
  obtain ⟨a, b, c, e, f, g, k, m, o, p⟩ := h
  exact ⟨by rw [e3]; exact a, by rw [e3]; exact b, by rw [e3]; exact c, by rw [e3]; exact e, f, g, k.of e3, m.of e1 e2, o, p⟩
theorem stp_y {D : DP} {c s : Nat} {x : dyT} (h : D.cF c ≤ s ∧ s ≤ D.cT c) : D.stp c s x = dy1 D.coin D.per (D.cF c) (D.cL c) (fun left => coD D.o D.coin D.per (D.cF c) (D.cT c) (D.cS c) (D.fs c) s (D.dk s) left) (fiF D.lf (ceR D.g (D.g 11) c (D.cF c) s (D.dk s)) D.fine) (D.ca s) (spB D.lf (ceR D.g (D.g 11) c (D.cF c) s (D.dk s))) s x := if_pos h
theorem stp_n {D : DP} {c s : Nat} {x : dyT} (h : ¬ (D.cF c ≤ s ∧ s ≤ D.cT c)) : D.stp c s x = x := if_neg h
set_option maxHeartbeats 1000000 in
theorem r1_dr1 {l : Launch} {K : cK} {d : Nat} {I : wI} {L : wL} {R : wR} {dy : cH} {Q : Option Value → cH → Prop} (D : DP) (n : Nat) (lc : Option (List Cl)) (hT : DTc I D n lc) (hL : LWc dy (R 21 1) lc) (h : Option Nat) (hH : HTc dy h D.o) (s : Nat) (hs : s < 12) (hd : 5 ≤ d)
    (kk : ∀ (I3 : wI) (L3 : wL), (FK [22, 23, 28, 30, 31, 44, 45, 46, 47, 48, 49, 50] [22, 24, 30, 32, 33, 34] I L I3 L3 ∧ WW I3 D.g (D.g 11) ∧ I3 44 4 = nI n ∧ I3 44 3 = 1 ∧ (D.o = none → ∀ q, q < n → I3 49 q = nI (D.fs q))) ∧ (∀ q, q < s + 1 → I3 45 q = nI (if D.ca q = true then 1 else 0)) ∧ (∀ q, q < n → DCc I3 q (D.dX q (s + 1))) → GL l K m1_draw d 0 0 201 [(2, rfv h), (0, .ref 44), (1, .ref 1), (4, .long (lN (dz D.z0 (s + 1)))), (6, .int (nI (D.dk s))), (7, .int (nI (D.dn s))), (8, .int (nI s))] [] (hp I3 L3 R dy) Q) :
    ∀ (m c : Nat) (I2 : wI) (L2 : wL), c + m = n → (FK [22, 23, 28, 30, 31, 44, 45, 46, 47, 48, 49, 50] [22, 24, 30, 32, 33, 34] I L I2 L2 ∧ WW I2 D.g (D.g 11) ∧ I2 44 4 = nI n ∧ I2 44 3 = 1 ∧ (D.o = none → ∀ q, q < n → I2 49 q = nI (D.fs q))) ∧ (∀ q, q < s + 1 → I2 45 q = nI (if D.ca q = true then 1 else 0)) ∧ (∀ q, q < n → DCc I2 q (D.dX q (if q < c then s + 1 else s))) → GL l K m1_draw d 0 0 143 [(2, rfv h), (0, .ref 44), (1, .ref 1), (4, .long (lN (dz D.z0 (s + 1)))), (6, .int (nI (D.dk s))), (7, .int (nI (D.dn s))), (8, .int (nI s)), (9, .int (nI c))] [] (hp I2 L2 R dy) Q := by
  obtain ⟨t1, t2, t3, t4, t5, t6, t7, t8, t9, t10⟩ := id hT
  have hn6 := t8.2.1
  obtain ⟨k1, k2⟩ := D.dk_le t5 t6 s
  intro m
  induction m with
  | zero =>
    intro c I2 L2 hc hI
    obtain rfl : c = n := by omega
    obtain ⟨⟨i1, i2, i3, i4, i5⟩, i6, i7⟩ := hI
    refine g_iload d1_draw_143 rfl ?_
    refine g_aload_n d1_draw_145 rfl ?_
    refine g_get fl1_46 d1_draw_146 f_44_4 ?_
    refine g_topI (nI (c)) (i3) ?_
    refine g_ic_ge ((c : Nat) : Int) ((c : Nat) : Int) 201 (nI_ti (by omega)) (nI_ti (by omega)) d1_draw_149 rfl (fun _ => ?_) (fun c149 => absurd c149 (by omega))
    refine g_lo [(2, rfv h), (0, .ref 44), (1, .ref 1), (4, .long (lN (dz D.z0 (s + 1)))), (6, .int (nI (D.dk s))), (7, .int (nI (D.dn s))), (8, .int (nI s))] ⟨rfl, rfl, rfl, rfl, rfl, rfl, rfl, trivial⟩ ?_
    exact kk I2 L2 ⟨⟨i1, i2, i3, i4, i5⟩, i6, fun q hq => by have z := i7 q hq; rw [if_pos hq] at z; exact z⟩
  | succ m ih =>
    intro c I2 L2 hc hI
    obtain ⟨⟨i1, i2, i3, i4, i5⟩, i6, i7⟩ := hI
    have hCC := (t8.2.2 c (by omega)).of (i1.1 2 (by decide))
    have z1 : STA (stI8 I2 c) c (D.cF c) (D.cT c) (D.cS c) (D.cL c) D.coin D.per D.fine := stI8_st hCC (t7.of (i1.1 3 (by decide)))
    obtain ⟨u0, u1, u2, u3, u4, u5, u6, u7, u8, u9, u10, u11, u12, u13, u14, u15⟩ := id z1
    have hxc := i7 c (by omega)
    rw [if_neg (Nat.lt_irrefl c)] at hxc
    have hdx : D.dX c (s + 1) = D.stp c s (D.dX c s) := rfl
    have hnext : ∀ (I4 : wI) (L4 : wL), (FK [22, 23, 28, 30, 31, 44, 45, 46, 47, 48, 49, 50] [22, 24, 30, 32, 33, 34] I L I4 L4 ∧ WW I4 D.g (D.g 11) ∧ I4 44 4 = nI n ∧ I4 44 3 = 1 ∧ (D.o = none → ∀ q, q < n → I4 49 q = nI (D.fs q))) → (I4 45 = I2 45) → DCc I4 c (D.dX c (s + 1)) → DOt I2 I4 c → GL l K m1_draw d 0 0 143 [(2, rfv h), (0, .ref 44), (1, .ref 1), (4, .long (lN (dz D.z0 (s + 1)))), (6, .int (nI (D.dk s))), (7, .int (nI (D.dn s))), (8, .int (nI s)), (9, .int (nI (c + 1)))] [] (hp I4 L4 R dy) Q := fun I4 L4 hA h45 hc1 ho => by
      refine ih (c + 1) I4 L4 (by omega) ⟨hA, fun q hq => by rw [h45]; exact i6 q hq, fun q hq => ?_⟩
      by_cases e : q = c
      · subst e; rw [if_pos (by omega)]; exact hc1
      · obtain ⟨o1, o2, o3, o4⟩ := ho q e
        have z := i7 q hq
        have e2 : (if q < c then s + 1 else s) = if q < c + 1 then s + 1 else s := by
          by_cases e3 : q < c
          · rw [if_pos e3, if_pos (by omega)]
          · rw [if_neg e3, if_neg (by omega)]
        rw [e2] at z
        unfold DCc; rw [o1, o2, o3, o4]; exact z
    by_cases h1 : s < D.cF c
    · have hin : ¬ (D.cF c ≤ s ∧ s ≤ D.cT c) := by omega
      refine g_iload d1_draw_143 rfl ?_
      refine g_aload_n d1_draw_145 rfl ?_
      refine g_get fl1_46 d1_draw_146 f_44_4 ?_
      refine g_topI (nI (n)) (i3) ?_
      refine g_ic_ge ((c : Nat) : Int) ((n : Nat) : Int) 201 (nI_ti (by omega)) (nI_ti (by omega)) d1_draw_149 rfl (fun c149 => absurd c149 (by omega)) (fun _ => ?_)
      refine g_aload_n d1_draw_152 rfl ?_
      refine g_get fl1_38 d1_draw_153 f_44_2 ?_
      refine g_aload_n d1_draw_156 rfl ?_
      refine g_iload d1_draw_157 rfl ?_
      refine g_VV2 vm7_take ml1_50 c_28 (r7_take0 (I := I2) c (by omega) (Nat.le_refl 1)) (by omega) (Nat.le_of_ble_eq_true rfl) d1_draw_159 ?_
      refine g_iload d1_draw_162 rfl ?_
      refine g_aload_n d1_draw_164 rfl ?_
      refine g_get fl1_38 d1_draw_165 f_44_2 ?_
      refine g_get fl1_87 d1_draw_168 f_28_1 ?_
      refine g_topI (nI ((D.cF c))) (u1) ?_
      refine g_ic_lt ((s : Nat) : Int) (((D.cF c) : Nat) : Int) 195 (nI_ti (by omega)) (nI_ti (by omega)) d1_draw_171 rfl (fun _ => ?_) (fun c171 => absurd c171 (by omega))
      refine g_iincN d1_draw_195 rfl (by decide) ?_
      refine g_goto 143 d1_draw_198 rfl ?_
      refine g_lo [(2, rfv h), (0, .ref 44), (1, .ref 1), (4, .long (lN (dz D.z0 (s + 1)))), (6, .int (nI (D.dk s))), (7, .int (nI (D.dn s))), (8, .int (nI s)), (9, .int (nI (c + 1)))] ⟨rfl, rfl, rfl, rfl, rfl, rfl, rfl, rfl, trivial⟩ ?_
      exact hnext _ L2 ⟨i1.tr (stI8_fk (by decide)), i2.of (stI8_n (k := 23) (by decide)), by rw [stI8_n (by decide)]; exact i3, by rw [stI8_n (by decide)]; exact i4, fun a q hq => by rw [stI8_n (by decide)]; exact i5 a q hq⟩ (stI8_n (by decide)) (by rw [hdx, stp_n hin]; unfold DCc; rw [stI8_n (by decide), stI8_n (by decide), stI8_n (by decide), stI8_n (by decide)]; exact hxc) (fun q hq => by rw [stI8_n (by decide), stI8_n (by decide), stI8_n (by decide), stI8_n (by decide)]; exact ⟨rfl, rfl, rfl, rfl⟩)
    by_cases h2 : D.cT c < s
    · have hin : ¬ (D.cF c ≤ s ∧ s ≤ D.cT c) := by omega
      refine g_iload d1_draw_143 rfl ?_
      refine g_aload_n d1_draw_145 rfl ?_
      refine g_get fl1_46 d1_draw_146 f_44_4 ?_
      refine g_topI (nI (n)) (i3) ?_
      refine g_ic_ge ((c : Nat) : Int) ((n : Nat) : Int) 201 (nI_ti (by omega)) (nI_ti (by omega)) d1_draw_149 rfl (fun c149 => absurd c149 (by omega)) (fun _ => ?_)
      refine g_aload_n d1_draw_152 rfl ?_
      refine g_get fl1_38 d1_draw_153 f_44_2 ?_
      refine g_aload_n d1_draw_156 rfl ?_
      refine g_iload d1_draw_157 rfl ?_
      refine g_VV2 vm7_take ml1_50 c_28 (r7_take0 (I := I2) c (by omega) (Nat.le_refl 1)) (by omega) (Nat.le_of_ble_eq_true rfl) d1_draw_159 ?_
      refine g_iload d1_draw_162 rfl ?_
      refine g_aload_n d1_draw_164 rfl ?_
      refine g_get fl1_38 d1_draw_165 f_44_2 ?_
      refine g_get fl1_87 d1_draw_168 f_28_1 ?_
      refine g_topI (nI ((D.cF c))) (u1) ?_
      refine g_ic_lt ((s : Nat) : Int) (((D.cF c) : Nat) : Int) 195 (nI_ti (by omega)) (nI_ti (by omega)) d1_draw_171 rfl (fun c171 => absurd c171 (by omega)) (fun _ => ?_)
      refine g_iload d1_draw_174 rfl ?_
      refine g_aload_n d1_draw_176 rfl ?_
      refine g_get fl1_38 d1_draw_177 f_44_2 ?_
      refine g_get fl1_90 d1_draw_180 f_28_2 ?_
      refine g_topI (nI ((D.cT c))) (u2) ?_
      refine g_ic_gt ((s : Nat) : Int) (((D.cT c) : Nat) : Int) 195 (nI_ti (by omega)) (nI_ti (by omega)) d1_draw_183 rfl (fun _ => ?_) (fun c183 => absurd c183 (by omega))
      refine g_iincN d1_draw_195 rfl (by decide) ?_
      refine g_goto 143 d1_draw_198 rfl ?_
      refine g_lo [(2, rfv h), (0, .ref 44), (1, .ref 1), (4, .long (lN (dz D.z0 (s + 1)))), (6, .int (nI (D.dk s))), (7, .int (nI (D.dn s))), (8, .int (nI s)), (9, .int (nI (c + 1)))] ⟨rfl, rfl, rfl, rfl, rfl, rfl, rfl, rfl, trivial⟩ ?_
      exact hnext _ L2 ⟨i1.tr (stI8_fk (by decide)), i2.of (stI8_n (k := 23) (by decide)), by rw [stI8_n (by decide)]; exact i3, by rw [stI8_n (by decide)]; exact i4, fun a q hq => by rw [stI8_n (by decide)]; exact i5 a q hq⟩ (stI8_n (by decide)) (by rw [hdx, stp_n hin]; unfold DCc; rw [stI8_n (by decide), stI8_n (by decide), stI8_n (by decide), stI8_n (by decide)]; exact hxc) (fun q hq => by rw [stI8_n (by decide), stI8_n (by decide), stI8_n (by decide), stI8_n (by decide)]; exact ⟨rfl, rfl, rfl, rfl⟩)
    refine g_iload d1_draw_143 rfl ?_
    refine g_aload_n d1_draw_145 rfl ?_
    refine g_get fl1_46 d1_draw_146 f_44_4 ?_
    refine g_topI (nI (n)) (i3) ?_
    refine g_ic_ge ((c : Nat) : Int) ((n : Nat) : Int) 201 (nI_ti (by omega)) (nI_ti (by omega)) d1_draw_149 rfl (fun c149 => absurd c149 (by omega)) (fun _ => ?_)
    refine g_aload_n d1_draw_152 rfl ?_
    refine g_get fl1_38 d1_draw_153 f_44_2 ?_
    refine g_aload_n d1_draw_156 rfl ?_
    refine g_iload d1_draw_157 rfl ?_
    refine g_VV2 vm7_take ml1_50 c_28 (r7_take0 (I := I2) c (by omega) (Nat.le_refl 1)) (by omega) (Nat.le_of_ble_eq_true rfl) d1_draw_159 ?_
    refine g_iload d1_draw_162 rfl ?_
    refine g_aload_n d1_draw_164 rfl ?_
    refine g_get fl1_38 d1_draw_165 f_44_2 ?_
    refine g_get fl1_87 d1_draw_168 f_28_1 ?_
    refine g_topI (nI ((D.cF c))) (u1) ?_
    refine g_ic_lt ((s : Nat) : Int) (((D.cF c) : Nat) : Int) 195 (nI_ti (by omega)) (nI_ti (by omega)) d1_draw_171 rfl (fun c171 => absurd c171 (by omega)) (fun _ => ?_)
    refine g_iload d1_draw_174 rfl ?_
    refine g_aload_n d1_draw_176 rfl ?_
    refine g_get fl1_38 d1_draw_177 f_44_2 ?_
    refine g_get fl1_90 d1_draw_180 f_28_2 ?_
    refine g_topI (nI ((D.cT c))) (u2) ?_
    refine g_ic_gt ((s : Nat) : Int) (((D.cT c) : Nat) : Int) 195 (nI_ti (by omega)) (nI_ti (by omega)) d1_draw_183 rfl (fun c183 => absurd c183 (by omega)) (fun _ => ?_)
    refine g_aload_n d1_draw_186 rfl ?_
    refine g_vload_n d1_draw_187 rfl ?_
    refine g_iload d1_draw_188 rfl ?_
    refine g_iload d1_draw_190 rfl ?_
    refine g_WV3 vm1_stand ml1_93 c_44 (r1_stand (I := stI8 I2 c) (L := L2) D.g (D.g 11) (i2.of (stI8_n (by decide))) lc hL c (D.cF c) (D.cT c) (D.cS c) (D.cL c) D.coin D.per D.fine z1 s (D.dk s) (by omega) (by omega) (by omega) (D.ca s) (by rw [stI8_n (by decide), i6 s (by omega)]; cases D.ca s <;> rfl) (D.dX c s) (by unfold DCc; rw [stI8_n (by decide), stI8_n (by decide), stI8_n (by decide), stI8_n (by decide)]; exact hxc) (dX_le D c s) h D.o hH (D.fs c) (fun a => by rw [stI8_n (by decide)]; exact i5 a c (by omega)) (D.fs_le c) (Nat.le_refl 4)) (by omega) (Nat.le_of_ble_eq_true rfl) d1_draw_192 (fun y hy => ?_)
    obtain ⟨I4, L4⟩ := y
    obtain ⟨f4, w4, z4, d4, o4⟩ := hy
    dsimp only at f4 w4 z4 d4 o4 ⊢
    refine g_iincN d1_draw_195 rfl (by decide) ?_
    refine g_goto 143 d1_draw_198 rfl ?_
    refine g_lo [(2, rfv h), (0, .ref 44), (1, .ref 1), (4, .long (lN (dz D.z0 (s + 1)))), (6, .int (nI (D.dk s))), (7, .int (nI (D.dn s))), (8, .int (nI s)), (9, .int (nI (c + 1)))] ⟨rfl, rfl, rfl, rfl, rfl, rfl, rfl, rfl, trivial⟩ ?_
    refine hnext I4 L4 ⟨(i1.tr (stI8_fk (by decide))).tr (f4.up (by decide) (by decide)), w4, by rw [f4.1 44 (by decide), stI8_n (by decide)]; exact i3, by rw [f4.1 44 (by decide), stI8_n (by decide)]; exact i4, fun a q hq => by rw [f4.1 49 (by decide), stI8_n (by decide)]; exact i5 a q hq⟩ (by rw [f4.1 45 (by decide), stI8_n (by decide)]) ?_ (fun q hq => ?_)
    · rw [hdx, stp_y ⟨by omega, by omega⟩, t9]; exact d4
    · have z := o4 q hq
      rw [stI8_n (by decide), stI8_n (by decide), stI8_n (by decide), stI8_n (by decide)] at z
      exact z
set_option maxHeartbeats 1000000 in
theorem r1_dr2 {l : Launch} {K : cK} {d : Nat} {I : wI} {L : wL} {R : wR} {dy : cH} (D : DP) (n : Nat) (lc : Option (List Cl)) (hT : DTc I D n lc) (hL : LWc dy (R 21 1) lc) (h : Option Nat) (hH : HTc dy h D.o) (hd : 5 ≤ d) :
    ∀ (m s : Nat) (I2 : wI) (L2 : wL), s + m = 12 → (FK [22, 23, 28, 30, 31, 44, 45, 46, 47, 48, 49, 50] [22, 24, 30, 32, 33, 34] I L I2 L2 ∧ WW I2 D.g (D.g 11) ∧ I2 44 4 = nI n ∧ I2 44 3 = 1 ∧ (D.o = none → ∀ q, q < n → I2 49 q = nI (D.fs q))) ∧ (∀ q, q < s → I2 45 q = nI (if D.ca q = true then 1 else 0)) ∧ (∀ q, q < n → DCc I2 q (D.dX q s)) → GL l K m1_draw d 0 0 83 [(2, rfv h), (0, .ref 44), (1, .ref 1), (4, .long (lN (dz D.z0 (s)))), (6, .int (nI (D.dk s))), (7, .int (nI (D.dn s))), (8, .int (nI s))] [] (hp I2 L2 R dy) (fun r hh => ∃ y : wI × wL, (FK [22, 23, 28, 30, 31, 44, 45, 46, 47, 48, 49, 50] [22, 24, 30, 32, 33, 34] I L y.1 y.2 ∧ y.1 44 4 = nI n ∧ y.1 44 3 = 1 ∧ (∀ q, q < 12 → y.1 45 q = nI (if D.ca q = true then 1 else 0)) ∧ (∀ q, q < n → DCc y.1 q (D.dX q 12))) ∧ r = some (.int (nI (D.dn 12))) ∧ hh = hp y.1 y.2 R dy) := by
  obtain ⟨t1, t2, t3, t4, t5, t6, t7, t8, t9, t10⟩ := id hT
  intro m
  induction m with
  | zero =>
    intro s I2 L2 hs hI
    obtain rfl : s = 12 := by omega
    obtain ⟨⟨i1, i2, i3, i4, i5⟩, i6, i7⟩ := hI
    refine g_iload d1_draw_83 rfl ?_
    refine g_bipushv (nI 12) d1_draw_85 rfl ?_
    refine g_ic_ge (12) (12) 245 (by decide) (by decide) d1_draw_87 rfl (fun _ => ?_) (fun c87 => absurd c87 (by decide))
    refine g_iload d1_draw_245 rfl ?_
    exact g_iret rfl d1_draw_247 (⟨(I2, L2), ⟨i1, i3, i4, i6, i7⟩, rfl, rfl⟩)
  | succ m ih =>
    intro s I2 L2 hs hI
    obtain ⟨⟨i1, i2, i3, i4, i5⟩, i6, i7⟩ := hI
    obtain ⟨k1, k2⟩ := D.dk_le t5 t6 s
    have hz := dz_lt t10 s
    have hc10 : D.cm s (D.dk s) ≤ 10 := cmR_le _ _ _ _ _
    have hdn := D.dn_le s
    have edk : D.dk (s + 1) = if dz D.z0 (s + 1) % 10 < D.cm s (D.dk s) then 1 else lat (D.dk s) := rfl
    have edn : D.dn (s + 1) = D.dn s + (if D.ca s = true then 1 else 0) := rfl
    have eca : D.ca s = decide (dz D.z0 (s + 1) % 10 < D.cm s (D.dk s)) := rfl
    have ez : dz D.z0 (s + 1) = (dz D.z0 s * 1103 + 12345) % 1000003 := rfl
    have hcmv : cmR D.g (D.g 11) (lfO lc) s (D.dk s) = D.cm s (D.dk s) := by unfold DP.cm; rw [t9]
    by_cases hlt : dz D.z0 (s + 1) % 10 < D.cm s (D.dk s)
    · have hca : D.ca s = true := by rw [eca]; exact decide_eq_true hlt
      rw [if_pos hlt] at edk
      rw [if_pos hca] at edn
      rw [ez] at hlt
      refine g_iload d1_draw_83 rfl ?_
      refine g_bipushv (nI 12) d1_draw_85 rfl ?_
      refine g_ic_ge ((s : Nat) : Int) (12) 245 (nI_ti (by omega)) (by decide) d1_draw_87 rfl (fun c87 => absurd c87 (by omega)) (fun _ => ?_)
      refine g_lload d1_draw_90 rfl ?_
      refine g_ldc2 d1_draw_92 kl1_73 ?_
      refine g_lmul d1_draw_95 ?_
      refine g_topL (lN ((dz D.z0 s) * 1103)) (lN_mul _ _) ?_
      refine g_ldc2 d1_draw_96 kl1_75 ?_
      refine g_ladd d1_draw_99 ?_
      refine g_topL (lN (((dz D.z0 s) * 1103) + 12345)) (lN_add _ _) ?_
      refine g_ldc2 d1_draw_100 kl1_77 ?_
      refine g_lrem d1_draw_103 (by decide) ?_
      refine g_topL (lN ((((dz D.z0 s) * 1103) + 12345) % 1000003)) (pk_lRem (b := 1000003) (by omega) (by omega) (by omega)) ?_
      refine g_lstore d1_draw_104 (by decide) ?_
      refine g_aload_n d1_draw_106 rfl ?_
      refine g_get fl1_9 d1_draw_107 f_44_5 ?_
      refine g_iload d1_draw_110 rfl ?_
      refine g_lload d1_draw_112 rfl ?_
      refine g_ldc2 d1_draw_114 kl1_79 ?_
      refine g_lrem d1_draw_117 (by decide) ?_
      refine g_topL (lN (((((dz D.z0 s) * 1103) + 12345) % 1000003) % 10)) (pk_lRem (b := 10) (by omega) (by omega) (by omega)) ?_
      refine g_aload_n d1_draw_118 rfl ?_
      refine g_get fl1_30 d1_draw_119 f_44_0 ?_
      refine g_iload d1_draw_122 rfl ?_
      refine g_iload d1_draw_124 rfl ?_
      refine g_XV2 vm10_comesOfTen ml1_81 c_21 (r10_comes (I := I2) (L := L2) D.g (D.g 11) i2 lc hL s (D.dk s) (by omega) (by omega) (Nat.le_refl 3)) (by omega) (Nat.le_of_ble_eq_true rfl) d1_draw_126 (fun x hx => ?_)
      refine g_topI (nI ((D.cm s (D.dk s)))) (by rw [hcmv]) ?_
      obtain ⟨I4, L4⟩ := x
      obtain ⟨f4, w4⟩ := hx
      dsimp only at f4 w4 ⊢
      refine g_i2lN (by omega) d1_draw_129 ?_
      refine g_lx_ge (((((((dz D.z0 s) * 1103) + 12345) % 1000003) % 10) : Nat) : Int) (((D.cm s (D.dk s)) : Nat) : Int) 138 (pk_lT (by omega)) (pk_lT (by omega)) d1_draw_130 d1_draw_131 rfl (fun c130 => absurd c130 (by omega)) (fun _ => ?_)
      refine g_iconstv (nI 1) d1_draw_134 rfl ?_
      refine g_goto 139 d1_draw_135 rfl ?_
      refine g_iastN (s) _ d1_draw_139 a_45 (rfl) (by omega) (by decide) t_45 ?_
      refine g_iconstv (nI 0) d1_draw_140 rfl ?_
      refine g_istore d1_draw_141 (by decide) ?_
      refine g_lo [(2, rfv h), (0, .ref 44), (1, .ref 1), (4, .long (lN (dz D.z0 (s + 1)))), (6, .int (nI (D.dk s))), (7, .int (nI (D.dn s))), (8, .int (nI s)), (9, .int (nI 0))] ⟨rfl, rfl, rfl, rfl, rfl, rfl, rfl, rfl, trivial⟩ ?_
      refine r1_dr1 (I := I) (L := L) D n lc hT hL h hH s (by omega) hd (fun I5 L5 hO => ?_) n 0 _ L4 (by omega) ⟨⟨(i1.tr (f4.up (by decide) (by decide))).ui (by decide), w4.of (uI_n (by decide)), by rw [uI_n (by decide), f4.1 44 (by decide)]; exact i3, by rw [uI_n (by decide), f4.1 44 (by decide)]; exact i4, fun a q hq => by rw [uI_n (by decide), f4.1 49 (by decide)]; exact i5 a q hq⟩, fun q hq => ?_, fun q hq => ?_⟩
      rotate_left
      · by_cases e : q = s
        · subst e; rw [uI_ss, if_pos hca]
        · rw [uI_sn e, f4.1 45 (by decide)]; exact i6 q (by omega)
      · rw [if_neg (Nat.not_lt_zero q)]; unfold DCc; rw [uI_n (by decide), uI_n (by decide), uI_n (by decide), uI_n (by decide), f4.1 46 (by decide), f4.1 47 (by decide), f4.1 48 (by decide), f4.1 50 (by decide)]; exact i7 q hq
      obtain ⟨hA, hB, hC⟩ := hO
      have h45 := hB s (by omega)
      rw [if_pos hca] at h45
      refine g_iload d1_draw_201 rfl ?_
      refine g_aload_n d1_draw_203 rfl ?_
      refine g_get fl1_9 d1_draw_204 f_44_5 ?_
      refine g_iload d1_draw_207 rfl ?_
      refine g_ialdN (s) d1_draw_209 a_45 (rfl) (by omega) (by decide) ?_
      refine g_topI (nI (1)) (h45) ?_
      refine g_iaddN d1_draw_210 ?_
      refine g_istore d1_draw_211 (by decide) ?_
      refine g_aload_n d1_draw_213 rfl ?_
      refine g_get fl1_9 d1_draw_214 f_44_5 ?_
      refine g_iload d1_draw_217 rfl ?_
      refine g_ialdN (s) d1_draw_219 a_45 (rfl) (by omega) (by decide) ?_
      refine g_topI (nI (1)) (h45) ?_
      refine g_iconstv (nI 1) d1_draw_220 rfl ?_
      refine g_ic_ne ((1 : Nat) : Int) (1) 228 (nI_ti (by omega)) (by decide) d1_draw_221 rfl (fun c221 => absurd c221 (by omega)) (fun _ => ?_)
      refine g_iconstv (nI 1) d1_draw_224 rfl ?_
      refine g_goto 237 d1_draw_225 rfl ?_
      refine g_istore d1_draw_237 (by decide) ?_
      refine g_iincN d1_draw_239 rfl (by decide) ?_
      refine g_goto 83 d1_draw_242 rfl ?_
      refine g_lo [(2, rfv h), (0, .ref 44), (1, .ref 1), (4, .long (lN (dz D.z0 (s + 1)))), (6, .int (nI (D.dk (s + 1)))), (7, .int (nI (D.dn (s + 1)))), (8, .int (nI (s + 1)))] ⟨rfl, rfl, rfl, rfl, by rw [edk]; rfl, by rw [edn]; rfl, rfl, trivial⟩ ?_
      exact ih (s + 1) I5 L5 (by omega) ⟨hA, hB, hC⟩
    · have hca : ¬ D.ca s = true := by rw [eca]; exact fun z => hlt (of_decide_eq_true z)
      rw [if_neg hlt] at edk
      rw [if_neg hca] at edn
      rw [ez] at hlt
      refine g_iload d1_draw_83 rfl ?_
      refine g_bipushv (nI 12) d1_draw_85 rfl ?_
      refine g_ic_ge ((s : Nat) : Int) (12) 245 (nI_ti (by omega)) (by decide) d1_draw_87 rfl (fun c87 => absurd c87 (by omega)) (fun _ => ?_)
      refine g_lload d1_draw_90 rfl ?_
      refine g_ldc2 d1_draw_92 kl1_73 ?_
      refine g_lmul d1_draw_95 ?_
      refine g_topL (lN ((dz D.z0 s) * 1103)) (lN_mul _ _) ?_
      refine g_ldc2 d1_draw_96 kl1_75 ?_
      refine g_ladd d1_draw_99 ?_
      refine g_topL (lN (((dz D.z0 s) * 1103) + 12345)) (lN_add _ _) ?_
      refine g_ldc2 d1_draw_100 kl1_77 ?_
      refine g_lrem d1_draw_103 (by decide) ?_
      refine g_topL (lN ((((dz D.z0 s) * 1103) + 12345) % 1000003)) (pk_lRem (b := 1000003) (by omega) (by omega) (by omega)) ?_
      refine g_lstore d1_draw_104 (by decide) ?_
      refine g_aload_n d1_draw_106 rfl ?_
      refine g_get fl1_9 d1_draw_107 f_44_5 ?_
      refine g_iload d1_draw_110 rfl ?_
      refine g_lload d1_draw_112 rfl ?_
      refine g_ldc2 d1_draw_114 kl1_79 ?_
      refine g_lrem d1_draw_117 (by decide) ?_
      refine g_topL (lN (((((dz D.z0 s) * 1103) + 12345) % 1000003) % 10)) (pk_lRem (b := 10) (by omega) (by omega) (by omega)) ?_
      refine g_aload_n d1_draw_118 rfl ?_
      refine g_get fl1_30 d1_draw_119 f_44_0 ?_
      refine g_iload d1_draw_122 rfl ?_
      refine g_iload d1_draw_124 rfl ?_
      refine g_XV2 vm10_comesOfTen ml1_81 c_21 (r10_comes (I := I2) (L := L2) D.g (D.g 11) i2 lc hL s (D.dk s) (by omega) (by omega) (Nat.le_refl 3)) (by omega) (Nat.le_of_ble_eq_true rfl) d1_draw_126 (fun x hx => ?_)
      refine g_topI (nI ((D.cm s (D.dk s)))) (by rw [hcmv]) ?_
      obtain ⟨I4, L4⟩ := x
      obtain ⟨f4, w4⟩ := hx
      dsimp only at f4 w4 ⊢
      refine g_i2lN (by omega) d1_draw_129 ?_
      refine g_lx_ge (((((((dz D.z0 s) * 1103) + 12345) % 1000003) % 10) : Nat) : Int) (((D.cm s (D.dk s)) : Nat) : Int) 138 (pk_lT (by omega)) (pk_lT (by omega)) d1_draw_130 d1_draw_131 rfl (fun _ => ?_) (fun c130 => absurd c130 (by omega))
      refine g_iconstv (nI 0) d1_draw_138 rfl ?_
      refine g_iastN (s) _ d1_draw_139 a_45 (rfl) (by omega) (by decide) t_45 ?_
      refine g_iconstv (nI 0) d1_draw_140 rfl ?_
      refine g_istore d1_draw_141 (by decide) ?_
      refine g_lo [(2, rfv h), (0, .ref 44), (1, .ref 1), (4, .long (lN (dz D.z0 (s + 1)))), (6, .int (nI (D.dk s))), (7, .int (nI (D.dn s))), (8, .int (nI s)), (9, .int (nI 0))] ⟨rfl, rfl, rfl, rfl, rfl, rfl, rfl, rfl, trivial⟩ ?_
      refine r1_dr1 (I := I) (L := L) D n lc hT hL h hH s (by omega) hd (fun I5 L5 hO => ?_) n 0 _ L4 (by omega) ⟨⟨(i1.tr (f4.up (by decide) (by decide))).ui (by decide), w4.of (uI_n (by decide)), by rw [uI_n (by decide), f4.1 44 (by decide)]; exact i3, by rw [uI_n (by decide), f4.1 44 (by decide)]; exact i4, fun a q hq => by rw [uI_n (by decide), f4.1 49 (by decide)]; exact i5 a q hq⟩, fun q hq => ?_, fun q hq => ?_⟩
      rotate_left
      · by_cases e : q = s
        · subst e; rw [uI_ss, if_neg hca]
        · rw [uI_sn e, f4.1 45 (by decide)]; exact i6 q (by omega)
      · rw [if_neg (Nat.not_lt_zero q)]; unfold DCc; rw [uI_n (by decide), uI_n (by decide), uI_n (by decide), uI_n (by decide), f4.1 46 (by decide), f4.1 47 (by decide), f4.1 48 (by decide), f4.1 50 (by decide)]; exact i7 q hq
      obtain ⟨hA, hB, hC⟩ := hO
      have h45 := hB s (by omega)
      rw [if_neg hca] at h45
      refine g_iload d1_draw_201 rfl ?_
      refine g_aload_n d1_draw_203 rfl ?_
      refine g_get fl1_9 d1_draw_204 f_44_5 ?_
      refine g_iload d1_draw_207 rfl ?_
      refine g_ialdN (s) d1_draw_209 a_45 (rfl) (by omega) (by decide) ?_
      refine g_topI (nI (0)) (h45) ?_
      refine g_iaddN d1_draw_210 ?_
      refine g_istore d1_draw_211 (by decide) ?_
      refine g_aload_n d1_draw_213 rfl ?_
      refine g_get fl1_9 d1_draw_214 f_44_5 ?_
      refine g_iload d1_draw_217 rfl ?_
      refine g_ialdN (s) d1_draw_219 a_45 (rfl) (by omega) (by decide) ?_
      refine g_topI (nI (0)) (h45) ?_
      refine g_iconstv (nI 1) d1_draw_220 rfl ?_
      refine g_ic_ne ((0 : Nat) : Int) (1) 228 (nI_ti (by omega)) (by decide) d1_draw_221 rfl (fun _ => ?_) (fun c221 => absurd c221 (by omega))
      refine g_bipushv (nI 12) d1_draw_228 rfl ?_
      refine g_iload d1_draw_230 rfl ?_
      refine g_iconstv (nI 1) d1_draw_232 rfl ?_
      refine g_iaddN d1_draw_233 ?_
      refine g_min ml1_97 (by omega) (Nat.le_of_ble_eq_true rfl) d1_draw_234 ?_
      refine g_topI (nI ((lat (D.dk s)))) (mn_lat (by omega)) ?_
      refine g_istore d1_draw_237 (by decide) ?_
      refine g_iincN d1_draw_239 rfl (by decide) ?_
      refine g_goto 83 d1_draw_242 rfl ?_
      refine g_lo [(2, rfv h), (0, .ref 44), (1, .ref 1), (4, .long (lN (dz D.z0 (s + 1)))), (6, .int (nI (D.dk (s + 1)))), (7, .int (nI (D.dn (s + 1)))), (8, .int (nI (s + 1)))] ⟨rfl, rfl, rfl, rfl, by rw [edk]; rfl, by rw [edn]; rfl, rfl, trivial⟩ ?_
      exact ih (s + 1) I5 L5 (by omega) ⟨hA, hB, hC⟩
set_option maxHeartbeats 1000000 in
theorem r1_dr0 {l : Launch} {K : cK} {d : Nat} {I : wI} {L : wL} {R : wR} {dy : cH} {Q : Option Value → cH → Prop} (D : DP) (n : Nat) (lc : Option (List Cl)) (hT : DTc I D n lc) (hL : LWc dy (R 21 1) lc) (z : Nat) (hd : 5 ≤ d)
    (kk : ∀ (I3 : wI) (L3 : wL), (FK [22, 23, 28, 30, 31, 44, 45, 46, 47, 48, 49, 50] [22, 24, 30, 32, 33, 34] I L I3 L3 ∧ WW I3 D.g (D.g 11) ∧ I3 44 4 = nI n ∧ I3 44 3 = 1 ∧ (∀ q, q < n → DCc I3 q (0, 0, 0, 0)) ∧ SPD I3 L3 fr2 (cmR D.g (D.g 11) (lfO lc)) D.s0) ∧ (∀ q, q < n → I3 49 q = nI (D.fs q)) → GL l K m1_draw d 0 0 65 [(0, .ref 44), (1, .ref 1), (2, .null), (3, .int (nI z))] [] (hp I3 L3 R dy) Q) :
    ∀ (m c : Nat) (I2 : wI) (L2 : wL), c + m = n → (FK [22, 23, 28, 30, 31, 44, 45, 46, 47, 48, 49, 50] [22, 24, 30, 32, 33, 34] I L I2 L2 ∧ WW I2 D.g (D.g 11) ∧ I2 44 4 = nI n ∧ I2 44 3 = 1 ∧ (∀ q, q < n → DCc I2 q (0, 0, 0, 0)) ∧ SPD I2 L2 fr2 (cmR D.g (D.g 11) (lfO lc)) D.s0) ∧ (∀ q, q < c → I2 49 q = nI (D.fs q)) → GL l K m1_draw d 0 0 8 [(0, .ref 44), (1, .ref 1), (2, .null), (3, .int (nI z)), (4, .int (nI c))] [] (hp I2 L2 R dy) Q := by
  obtain ⟨t1, t2, t3, t4, t5, t6, t7, t8, t9, t10⟩ := id hT
  have hn6 := t8.2.1
  intro m
  induction m with
  | zero =>
    intro c I2 L2 hc hI
    obtain rfl : c = n := by omega
    obtain ⟨⟨i1, i2, i3, i4, i5, i6⟩, i7⟩ := id hI
    refine g_nload_n d1_draw_8 rfl ?_
    refine g_ifnonnullN d1_draw_9 ?_
    refine g_iload d1_draw_12 rfl ?_
    refine g_aload_n d1_draw_14 rfl ?_
    refine g_get fl1_46 d1_draw_15 f_44_4 ?_
    refine g_topI (nI (c)) (i3) ?_
    refine g_ic_ge ((c : Nat) : Int) ((c : Nat) : Int) 65 (nI_ti (by omega)) (nI_ti (by omega)) d1_draw_18 rfl (fun _ => ?_) (fun c18 => absurd c18 (by omega))
    refine g_lo [(0, .ref 44), (1, .ref 1), (2, .null), (3, .int (nI z))] ⟨rfl, rfl, rfl, rfl, trivial⟩ ?_
    exact kk I2 L2 hI
  | succ m ih =>
    intro c I2 L2 hc hI
    obtain ⟨⟨i1, i2, i3, i4, i5, i6⟩, i7⟩ := id hI
    have z1 : STA (stI8 I2 c) c (D.cF c) (D.cT c) (D.cS c) (D.cL c) D.coin D.per D.fine := stI8_st ((t8.2.2 c (by omega)).of (i1.1 2 (by decide))) (t7.of (i1.1 3 (by decide)))
    obtain ⟨u0, u1, u2, u3, u4, u5, u6, u7, u8, u9, u10, u11, u12, u13, u14, u15⟩ := id z1
    have hMl : ∀ s, mfv (cmR D.g (D.g 11) (lfO lc)) D.s0 (fnR D.g (D.g 11) (lfO lc) c (D.cF c) D.fine) s 12 ≤ 99000000000000 := fun s => mfv_le _ _ _ (cmR_le _ _ _) (fun a b => fnR_le _ _ _ _ _ a b u15) s
    have hbig : ∀ k, k ≤ 12 → co1 D.coin D.per (D.cF c) (D.cT c) (fun s => (fun s => tdv (cpv (cmR D.g (D.g 11) (lfO lc)) D.s0) (sbR D.g (D.g 11) (lfO lc) c (D.cF c)) (fun s k => fiO lc (ceR D.g (D.g 11) c (D.cF c) s k)) s 12) s + (fun s => tav (cpv (cmR D.g (D.g 11) (lfO lc)) D.s0) (sbR D.g (D.g 11) (lfO lc) c (D.cF c)) (fun s k => fiO lc (ceR D.g (D.g 11) c (D.cF c) s k)) s 12) s * D.fine) k < 4000000000000000000 := fun k hk => by
      rw [td_mf u15]
      have := co1_le D.coin D.per (D.cF c) (D.cT c) u13 u10 _ hMl hk
      omega
    have efs : (fa (co1 D.coin D.per (D.cF c) (D.cT c) (fun s => (fun s => tdv (cpv (cmR D.g (D.g 11) (lfO lc)) D.s0) (sbR D.g (D.g 11) (lfO lc) c (D.cF c)) (fun s k => fiO lc (ceR D.g (D.g 11) c (D.cF c) s k)) s 12) s + (fun s => tav (cpv (cmR D.g (D.g 11) (lfO lc)) D.s0) (sbR D.g (D.g 11) (lfO lc) c (D.cF c)) (fun s k => fiO lc (ceR D.g (D.g 11) c (D.cF c) s k)) s 12) s * D.fine)) 12).2.1 = D.fs c := by rw [td_mf u15]; unfold DP.fs DP.cm; rw [t9]
    refine g_nload_n d1_draw_8 rfl ?_
    refine g_ifnonnullN d1_draw_9 ?_
    refine g_iload d1_draw_12 rfl ?_
    refine g_aload_n d1_draw_14 rfl ?_
    refine g_get fl1_46 d1_draw_15 f_44_4 ?_
    refine g_topI (nI (n)) (i3) ?_
    refine g_ic_ge ((c : Nat) : Int) ((n : Nat) : Int) 65 (nI_ti (by omega)) (nI_ti (by omega)) d1_draw_18 rfl (fun c18 => absurd c18 (by omega)) (fun _ => ?_)
    refine g_aload_n d1_draw_21 rfl ?_
    refine g_get fl1_38 d1_draw_22 f_44_2 ?_
    refine g_aload_n d1_draw_25 rfl ?_
    refine g_iload d1_draw_26 rfl ?_
    refine g_VV2 vm7_take ml1_50 c_28 (r7_take0 (I := I2) c (by omega) (Nat.le_refl 1)) (by omega) (Nat.le_of_ble_eq_true rfl) d1_draw_28 ?_
    refine g_aload_n d1_draw_31 rfl ?_
    refine g_get fl1_34 d1_draw_32 f_44_1 ?_
    refine g_WV0 vm0_reckonFines ml1_56 c_29 (r0_fines (I := stI8 I2 c) (L := L2) D.g (D.g 11) (i2.of (stI8_n (by decide))) lc hL D.s0 (cmR D.g (D.g 11) (lfO lc)) rfl c (D.cF c) (D.cT c) (D.cS c) (D.cL c) D.coin D.per D.fine z1 (i6.of (stI8_n (by decide)) rfl) (Nat.le_refl 4)) (by omega) (Nat.le_of_ble_eq_true rfl) d1_draw_35 (fun y hy => ?_)
    obtain ⟨I4, L4⟩ := y
    obtain ⟨⟨f4, w4, z4, p4⟩, tf4⟩ := hy
    dsimp only at f4 w4 z4 p4 tf4 ⊢
    refine g_aload_n d1_draw_38 rfl ?_
    refine g_get fl1_24 d1_draw_39 f_44_9 ?_
    refine g_iload d1_draw_42 rfl ?_
    refine g_aload_n d1_draw_44 rfl ?_
    refine g_get fl1_34 d1_draw_45 f_44_1 ?_
    refine g_aload_n d1_draw_48 rfl ?_
    refine g_get fl1_38 d1_draw_49 f_44_2 ?_
    refine g_get fl1_61 d1_draw_52 f_28_7 ?_
    refine g_topI (nI (D.fine)) (z4.2.2.2.2.2.2.2.1) ?_
    refine g_EV1 vm0_bestFirst ml1_64 c_29 (r0_best (I := I4) (L := L4) (fun s => tdv (cpv (cmR D.g (D.g 11) (lfO lc)) D.s0) (sbR D.g (D.g 11) (lfO lc) c (D.cF c)) (fun s k => fiO lc (ceR D.g (D.g 11) c (D.cF c) s k)) s 12) (fun s => tav (cpv (cmR D.g (D.g 11) (lfO lc)) D.s0) (sbR D.g (D.g 11) (lfO lc) c (D.cF c)) (fun s k => fiO lc (ceR D.g (D.g 11) c (D.cF c) s k)) s 12) c (D.cF c) (D.cT c) (D.cS c) (D.cL c) D.coin D.per D.fine z4 tf4 D.fine u15 hbig (Nat.le_refl 3)) (by omega) (Nat.le_of_ble_eq_true rfl) d1_draw_55 ?_
    refine g_topI (nI ((D.fs c))) (by rw [efs]) ?_
    refine g_iastN (c) _ d1_draw_58 a_49 (rfl) (by omega) (by decide) t_49 ?_
    refine g_iincN d1_draw_59 rfl (by decide) ?_
    refine g_goto 8 d1_draw_62 rfl ?_
    refine g_lo [(0, .ref 44), (1, .ref 1), (2, .null), (3, .int (nI z)), (4, .int (nI (c + 1)))] ⟨rfl, rfl, rfl, rfl, rfl, trivial⟩ ?_
    refine ih (c + 1) _ L4 (by omega) ⟨⟨((i1.tr (stI8_fk (by decide))).tr (f4.up (by decide) (by decide))).ui (by decide), w4.of (uI_n (by decide)), by rw [uI_n (by decide), f4.1 44 (by decide), stI8_n (by decide)]; exact i3, by rw [uI_n (by decide), f4.1 44 (by decide), stI8_n (by decide)]; exact i4, fun q hq => ?_, p4.of (uI_n (by decide)) rfl⟩, fun q hq => ?_⟩
    · unfold DCc; rw [uI_n (by decide), uI_n (by decide), uI_n (by decide), uI_n (by decide), f4.1 46 (by decide), f4.1 47 (by decide), f4.1 48 (by decide), f4.1 50 (by decide), stI8_n (by decide), stI8_n (by decide), stI8_n (by decide), stI8_n (by decide)]; exact i5 q hq
    · by_cases e : q = c
      · subst e; exact uI_ss
      · rw [uI_sn e, f4.1 49 (by decide), stI8_n (by decide)]; exact i7 q (by omega)
def bgI (I : wI) : wI := cI (cI (cI (cI (uI (uI I 44 3 1) 44 4 (I 1 0)) 46 (fil (I 46) 0 6)) 47 (fil (I 47) 0 6)) 48 (fil (I 48) 0 6)) 50 (fil (I 50) 0 6)
set_option maxHeartbeats 200000 in
theorem r1_begin {l : Launch} {K : cK} {d : Nat} {I : wI} {L : wL} {R : wR} {dy : cH}  (hd : 1 ≤ d) : CV l K m1_begin d [.ref 44, .ref 1] (hp I L R dy) (hp (bgI I) L R dy) := by
  refine CC.of ok1_begin (Nat.le_of_ble_eq_true rfl) ?_
  refine g_aload_n d1_begin_0 rfl ?_
  refine g_iconstv (nI 1) d1_begin_1 rfl ?_
  refine g_putZh _ fl1_102 d1_begin_2 f_44_3 (by decide) s_44_3 ?_
  refine g_aload_n d1_begin_5 rfl ?_
  refine g_aload_n d1_begin_6 rfl ?_
  refine g_get fl1_106 d1_begin_7 f_1_0 ?_
  refine g_topI (I 1 (0)) rfl ?_
  refine g_putIh _ fl1_46 d1_begin_10 f_44_4 s_44_4 ?_
  refine g_aload_n d1_begin_13 rfl ?_
  refine g_get fl1_15 d1_begin_14 f_44_6 ?_
  refine g_iconstv (nI 0) d1_begin_17 rfl ?_
  refine g_VS2 smAr_fill ml1_107 (rAr_fill_46 0 (Nat.le_refl 0)) (by omega) (Nat.le_of_ble_eq_true rfl) d1_begin_18 ?_
  refine g_aload_n d1_begin_21 rfl ?_
  refine g_get fl1_18 d1_begin_22 f_44_7 ?_
  refine g_iconstv (nI 0) d1_begin_25 rfl ?_
  refine g_VS2 smAr_fill ml1_107 (rAr_fill_47 0 (Nat.le_refl 0)) (by omega) (Nat.le_of_ble_eq_true rfl) d1_begin_26 ?_
  refine g_aload_n d1_begin_29 rfl ?_
  refine g_get fl1_21 d1_begin_30 f_44_8 ?_
  refine g_iconstv (nI 0) d1_begin_33 rfl ?_
  refine g_VS2 smAr_fill ml1_107 (rAr_fill_48 0 (Nat.le_refl 0)) (by omega) (Nat.le_of_ble_eq_true rfl) d1_begin_34 ?_
  refine g_aload_n d1_begin_37 rfl ?_
  refine g_get fl1_27 d1_begin_38 f_44_10 ?_
  refine g_iconstv (nI 0) d1_begin_41 rfl ?_
  refine g_VS2 smAr_fill ml1_107 (rAr_fill_50 0 (Nat.le_refl 0)) (by omega) (Nat.le_of_ble_eq_true rfl) d1_begin_42 ?_
  exact g_vret rfl d1_begin_45 (⟨rfl, rfl⟩)
theorem bg_n {I : wI} {k : Nat} (h1 : k ≠ 44) (h2 : k ≠ 46) (h3 : k ≠ 47) (h4 : k ≠ 48) (h5 : k ≠ 50) : bgI I k = I k := by unfold bgI; rw [cI_n h5, cI_n h4, cI_n h3, cI_n h2, uI_n h1, uI_n h1]
theorem bg_fk {I : wI} {L : wL} : FK [22, 23, 28, 30, 31, 44, 45, 46, 47, 48, 49, 50] [22, 24, 30, 32, 33, 34] I L (bgI I) L := ⟨fun k hk => bg_n (fun z => hk (by rw [z]; decide)) (fun z => hk (by rw [z]; decide)) (fun z => hk (by rw [z]; decide)) (fun z => hk (by rw [z]; decide)) (fun z => hk (by rw [z]; decide)), fun _ _ => rfl⟩
theorem bg_3 {I : wI} : bgI I 44 3 = 1 := by unfold bgI; rw [cI_n (by decide), cI_n (by decide), cI_n (by decide), cI_n (by decide), uI_sn (by decide), uI_ss]
theorem bg_4 {I : wI} : bgI I 44 4 = I 1 0 := by unfold bgI; rw [cI_n (by decide), cI_n (by decide), cI_n (by decide), cI_n (by decide), uI_ss]
theorem bg_dc {I : wI} {q : Nat} (h : q < 6) : DCc (bgI I) q (0, 0, 0, 0) := by
  unfold DCc bgI
  rw [cI_n (a := 46) (by decide), cI_n (a := 46) (by decide), cI_n (a := 46) (by decide), cI_s, cI_n (a := 47) (by decide), cI_n (a := 47) (by decide), cI_s, cI_n (a := 48) (by decide), cI_s, cI_s]
  exact ⟨if_pos h, if_pos h, if_pos h, if_pos h⟩
set_option maxHeartbeats 600000 in
theorem r1_drawN {l : Launch} {K : cK} {d : Nat} {I : wI} {L : wL} {R : wR} {dy : cH} (D : DP) (n : Nat) (lc : Option (List Cl)) (hT : DTc I D n lc) (hL : LWc dy (R 21 1) lc) (hw : WW I D.g (D.g 11)) (hSP : SPD I L fr2 (cmR D.g (D.g 11) (lfO lc)) D.s0) (ho : D.o = none) (hd : 5 ≤ d) : CX l K m1_draw d [.ref 44, .ref 1, .null, .int (nI D.z0)] (hp I L R dy) (α := wI × wL) (fun y => FK [22, 23, 28, 30, 31, 44, 45, 46, 47, 48, 49, 50] [22, 24, 30, 32, 33, 34] I L y.1 y.2 ∧ y.1 44 4 = nI n ∧ y.1 44 3 = 1 ∧ (∀ q, q < 12 → y.1 45 q = nI (if D.ca q = true then 1 else 0)) ∧ (∀ q, q < n → DCc y.1 q (D.dX q 12))) (fun _ => .int (nI (D.dn 12))) (fun y => hp y.1 y.2 R dy) := by
  obtain ⟨t1, t2, t3, t4, t5, t6, t7, t8, t9, t10⟩ := id hT
  have hn6 := t8.2.1
  have e4 : bgI I 44 4 = nI n := by rw [bg_4]; exact t8.1
  have wB : WW (bgI I) D.g (D.g 11) := hw.of (bg_n (by decide) (by decide) (by decide) (by decide) (by decide))
  have pB : SPD (bgI I) L fr2 (cmR D.g (D.g 11) (lfO lc)) D.s0 := hSP.of (bg_n (by decide) (by decide) (by decide) (by decide) (by decide)) rfl
  refine CC.of ok1_draw (Nat.le_of_ble_eq_true rfl) ?_
  refine g_aload_n d1_draw_0 rfl ?_
  refine g_aload_n d1_draw_1 rfl ?_
  refine g_VV1 vm1_begin ml1_42 c_44 (r1_begin (Nat.le_refl 1)) (by omega) (Nat.le_of_ble_eq_true rfl) d1_draw_2 ?_
  refine g_iconstv (nI 0) d1_draw_5 rfl ?_
  refine g_istore d1_draw_6 (by decide) ?_
  refine g_lo [(0, .ref 44), (1, .ref 1), (2, .null), (3, .int (nI D.z0)), (4, .int (nI 0))] ⟨rfl, rfl, rfl, rfl, rfl, trivial⟩ ?_
  refine r1_dr0 (I := I) (L := L) D n lc hT hL D.z0 hd (fun I3 L3 hO => ?_) n 0 (bgI I) L (by omega) ⟨⟨bg_fk, wB, e4, bg_3, fun q hq => bg_dc (by omega), pB⟩, fun q hq => absurd hq (Nat.not_lt_zero q)⟩
  obtain ⟨⟨o1, o2, o3, o4, o5, o6⟩, o7⟩ := hO
  refine g_iload_n d1_draw_65 rfl ?_
  refine g_i2lN (by omega) d1_draw_66 ?_
  refine g_lstore d1_draw_67 (by decide) ?_
  refine g_aload_n d1_draw_69 rfl ?_
  refine g_get fl1_68 d1_draw_70 f_1_2 ?_
  refine g_iconstv (nI 4) d1_draw_73 rfl ?_
  refine g_ialdN (4) d1_draw_74 a_3 (rfl) (by omega) (by decide) ?_
  refine g_topI (nI (D.s0)) (by rw [o1.1 3 (by decide)]; exact t4) ?_
  refine g_istore d1_draw_75 (by decide) ?_
  refine g_iconstv (nI 0) d1_draw_77 rfl ?_
  refine g_istore d1_draw_78 (by decide) ?_
  refine g_iconstv (nI 0) d1_draw_80 rfl ?_
  refine g_istore d1_draw_81 (by decide) ?_
  refine g_lo [(2, .null), (0, .ref 44), (1, .ref 1), (4, .long (lN (dz D.z0 (0)))), (6, .int (nI (D.dk 0))), (7, .int (nI (D.dn 0))), (8, .int (nI 0))] ⟨rfl, rfl, rfl, rfl, rfl, rfl, rfl, trivial⟩ ?_
  exact r1_dr2 (I := I) (L := L) D n lc hT hL none (Or.inl ⟨rfl, ho⟩) hd 12 0 I3 L3 (by omega) ⟨⟨o1, o2, o3, o4, fun _ => o7⟩, fun q hq => absurd hq (Nat.not_lt_zero q), o5⟩
set_option maxHeartbeats 600000 in
theorem r1_drawT {l : Launch} {K : cK} {d : Nat} {I : wI} {L : wL} {R : wR} {dy : cH} (D : DP) (n : Nat) (lc : Option (List Cl)) (hT : DTc I D n lc) (hL : LWc dy (R 21 1) lc) (hw : WW I D.g (D.g 11)) (hSP : SPD I L fr2 (cmR D.g (D.g 11) (lfO lc)) D.s0) (T : Nat) (cs : List Cl) (ho : D.o = some (txF cs)) (hC : CTX dy T cs) (hd : 5 ≤ d) : CX l K m1_draw d [.ref 44, .ref 1, .ref T, .int (nI D.z0)] (hp I L R dy) (α := wI × wL) (fun y => FK [22, 23, 28, 30, 31, 44, 45, 46, 47, 48, 49, 50] [22, 24, 30, 32, 33, 34] I L y.1 y.2 ∧ y.1 44 4 = nI n ∧ y.1 44 3 = 1 ∧ (∀ q, q < 12 → y.1 45 q = nI (if D.ca q = true then 1 else 0)) ∧ (∀ q, q < n → DCc y.1 q (D.dX q 12))) (fun _ => .int (nI (D.dn 12))) (fun y => hp y.1 y.2 R dy) := by
  obtain ⟨t1, t2, t3, t4, t5, t6, t7, t8, t9, t10⟩ := id hT
  have hn6 := t8.2.1
  have e4 : bgI I 44 4 = nI n := by rw [bg_4]; exact t8.1
  have wB : WW (bgI I) D.g (D.g 11) := hw.of (bg_n (by decide) (by decide) (by decide) (by decide) (by decide))
  have pB : SPD (bgI I) L fr2 (cmR D.g (D.g 11) (lfO lc)) D.s0 := hSP.of (bg_n (by decide) (by decide) (by decide) (by decide) (by decide)) rfl
  refine CC.of ok1_draw (Nat.le_of_ble_eq_true rfl) ?_
  refine g_aload_n d1_draw_0 rfl ?_
  refine g_aload_n d1_draw_1 rfl ?_
  refine g_VV1 vm1_begin ml1_42 c_44 (r1_begin (Nat.le_refl 1)) (by omega) (Nat.le_of_ble_eq_true rfl) d1_draw_2 ?_
  refine g_iconstv (nI 0) d1_draw_5 rfl ?_
  refine g_istore d1_draw_6 (by decide) ?_
  refine g_aload_n d1_draw_8 rfl ?_
  refine g_ifnonnull 65 d1_draw_9 rfl ?_
  refine g_iload_n d1_draw_65 rfl ?_
  refine g_i2lN (by omega) d1_draw_66 ?_
  refine g_lstore d1_draw_67 (by decide) ?_
  refine g_aload_n d1_draw_69 rfl ?_
  refine g_get fl1_68 d1_draw_70 f_1_2 ?_
  refine g_iconstv (nI 4) d1_draw_73 rfl ?_
  refine g_ialdN (4) d1_draw_74 a_3 (rfl) (by omega) (by decide) ?_
  refine g_topI (nI (D.s0)) (by rw [bg_fk (L := L) |>.1 3 (by decide)]; exact t4) ?_
  refine g_istore d1_draw_75 (by decide) ?_
  refine g_iconstv (nI 0) d1_draw_77 rfl ?_
  refine g_istore d1_draw_78 (by decide) ?_
  refine g_iconstv (nI 0) d1_draw_80 rfl ?_
  refine g_istore d1_draw_81 (by decide) ?_
  refine g_lo [(2, .ref T), (0, .ref 44), (1, .ref 1), (4, .long (lN (dz D.z0 (0)))), (6, .int (nI (D.dk 0))), (7, .int (nI (D.dn 0))), (8, .int (nI 0))] ⟨rfl, rfl, rfl, rfl, rfl, rfl, rfl, trivial⟩ ?_
  exact r1_dr2 (I := I) (L := L) D n lc hT hL (some T) (Or.inr ⟨T, cs, rfl, ho, hC⟩) hd 12 0 (bgI I) L (by omega) ⟨⟨bg_fk, wB, e4, bg_3, fun a => absurd (ho.symm.trans a) (by intro z; cases z)⟩, fun q hq => absurd hq (Nat.not_lt_zero q), fun q hq => bg_dc (by omega)⟩
