/-- what reading a clause may change -/
def FRc (nc : Nat) (I I2 : wI) : Prop := (∀ k, k < 12 ∨ k = 13 ∨ 20 < k → I2 k = I k) ∧ I2 12 1 = I 12 1 ∧ I2 14 1 = I 14 1 ∧ I2 14 5 = I 14 5 ∧ ∀ j, j ≠ nc → I2 15 j = I 15 j ∧ I2 16 j = I 16 j ∧ I2 17 j = I 17 j ∧ I2 18 j = I 18 j
theorem FRc.rf {nc : Nat} {I : wI} : FRc nc I I := ⟨fun _ _ => rfl, rfl, rfl, rfl, fun _ _ => ⟨rfl, rfl, rfl, rfl⟩⟩
theorem FRc.tr {nc : Nat} {I I2 I3 : wI} (h : FRc nc I I2) (h2 : FRc nc I2 I3) : FRc nc I I3 := ⟨fun k a => (h2.1 k a).trans (h.1 k a), h2.2.1.trans h.2.1, h2.2.2.1.trans h.2.2.1, h2.2.2.2.1.trans h.2.2.2.1, fun j hj => ⟨(h2.2.2.2.2 j hj).1.trans (h.2.2.2.2 j hj).1, (h2.2.2.2.2 j hj).2.1.trans (h.2.2.2.2 j hj).2.1, (h2.2.2.2.2 j hj).2.2.1.trans (h.2.2.2.2 j hj).2.2.1, (h2.2.2.2.2 j hj).2.2.2.trans (h.2.2.2.2 j hj).2.2.2⟩⟩
theorem FRc.d {nc : Nat} {I I2 : wI} (h : FRd I I2) : FRc nc I I2 := ⟨fun k a => h.1 k (by omega) (by omega) (by omega) (by omega), h.2.1, h.2.2.1, h.2.2.2, fun j _ => ⟨by rw [h.1 15 (by decide) (by decide) (by decide) (by decide)], by rw [h.1 16 (by decide) (by decide) (by decide) (by decide)], by rw [h.1 17 (by decide) (by decide) (by decide) (by decide)], by rw [h.1 18 (by decide) (by decide) (by decide) (by decide)]⟩⟩
theorem FRc.u {nc : Nat} {I : wI} {c : Nat} {x : Int32} (h1 : 15 ≤ c) (h2 : c ≤ 18) : FRc nc I (uI I c nc x) := ⟨fun k a => uI_n (by omega), by rw [uI_n (by omega)], by rw [uI_n (by omega)], by rw [uI_n (by omega)], fun j hj => by
  have e : ∀ q, uI I c nc x q j = I q j := fun q => by
    by_cases z : q = c
    · subst z; exact uI_sn hj
    · rw [uI_n z]
  exact ⟨e 15, e 16, e 17, e 18⟩⟩
theorem RSt.u {I : wI} {tp : Nat → Nat} {t : Nat} {lw : Bool} {b pa br f c nc : Nat} {x : Int32} (h : RSt I tp t lw b pa br f) (h1 : 15 ≤ c) : RSt (uI I c nc x) tp t lw b pa br f := by
  have e : ∀ q, q < 15 → uI I c nc x q = I q := fun q hq => uI_n (by omega)
  unfold RSt TPc TKc at *
  rw [e 12 (by decide), e 13 (by decide), e 14 (by decide)]; exact h
/-- what reading a clause leaves -/
def RC (I : wI) (tp : Nat → Nat) (t : Nat) (lw : Bool) (nc b f : Nat) (r : Nat ⊕ (Nat × Nat × Cl)) (x : wI × Bool) : Prop := match r with
  | .inl e => x.2 = false ∧ FRc nc I x.1 ∧ x.1 14 4 = nI e
  | .inr (f3, p3, c) => x.2 = true ∧ FRc nc I x.1 ∧ EQs I x.1 b ∧ p3 ≤ 50 ∧ f < f3 ∧ f3 ≤ t ∧ ∃ s2 b2, RSt x.1 tp t lw b2 p3 0 f3 ∧ b2 ≤ f3 ∧ x.1 15 nc = nI c.1 ∧ x.1 16 nc = nI b ∧ x.1 17 nc = nI s2 ∧ x.1 18 nc = nI b2 ∧ clC (cop (stF x.1) (wiF x.1)) (carg (stF x.1) (wiF x.1)) b s2 b2 c ∧ ∀ k, b ≤ k → k < b2 → OKk x.1 k
def tlR (tp : Nat → Nat) (t : Nat) (lw : Bool) (c1 f2 p2 : Nat) (v2 : Den) : Nat ⊕ (Nat × Nat × Cl) := if iw tp t f2 294 then (match pE tp t lw true p2 (nxt tp t f2) with
    | .inl e => .inl e
    | .inr (f3, p3, v3) => .inr (f3, p3, (c1, v2, v3))) else .inr (f2, p2, (c1, v2, d1))
theorem rgC.of {I I2 : wI} {a b : Nat} {v : Den} (h : rgC (cop (stF I) (wiF I)) (carg (stF I) (wiF I)) a b v) (e : ∀ k, a ≤ k → k < b → I2 19 k = I 19 k ∧ I2 20 k = I 20 k) : rgC (cop (stF I2) (wiF I2)) (carg (stF I2) (wiF I2)) a b v := by
  rcases h with h | h
  · exact Or.inl h
  · exact Or.inr (SCI.of (I := I) h e)
set_option maxHeartbeats 1000000 in
theorem r4_tail {l : Launch} {K : cK} {L : wL} {R : wR} {dy : cH} {tp : Nat → Nat} {t : Nat} {lw : Bool} (hT : KR l K L R dy tp t lw m4_readTest 0 7 13 3 3300) {I0 I : wI} {d : Nat} (nc b f s2 p2 f2 c1 : Nat) (v2 : Den) (hnc : nc < 12) (hF : FRc nc I0 I) (hE : EQs I0 I b) (h15 : I 15 nc = nI c1) (h16 : I 16 nc = nI b) (hS : RSt I tp t lw s2 p2 0 f2) (hs2 : s2 ≤ f2) (hbs : b ≤ s2) (hok : ∀ k, b ≤ k → k < s2 → OKk I k) (hrg : rgC (cop (stF I) (wiF I)) (carg (stF I) (wiF I)) b s2 v2) (hp5 : p2 ≤ 50) (hff : f < f2) (hc1 : c1 ≤ 2) (hd : 78 ≤ d) :
    GL l K m4_readClause d 0 0 70 [(0, .ref 14), (1, .int (nI nc))] [] (hp I L R dy) (fun r h => ∃ q : wI × Bool, RC I0 tp t lw nc b f (tlR tp t lw c1 f2 p2 v2) q ∧ r = some (.int (if q.2 = true then 1 else 0)) ∧ h = hp q.1 L R dy) := by
  have ht4 := hS.1.1
  have hft0 := hS.2.1.1
  have hS1 : RSt (uI I 17 nc (nI s2)) tp t lw s2 p2 0 f2 := hS.u (by decide)
  by_cases hi : iw tp t f2 294
  · have hk0 : kd tp t f2 ≠ 0 := by have := hi.1; omega
    have hn1 := nxt_le (tp := tp) hft0
    have hn3 := hn1.2.2 hk0
    have hft := kd_lt hk0
    rw [show tlR tp t lw c1 f2 p2 v2 = (match pE tp t lw true p2 (nxt tp t f2) with
      | .inl e => .inl e
      | .inr (f3, p3, v3) => .inr (f3, p3, (c1, v2, v3))) from if_pos hi]
    refine g_aload_n d4_readClause_70 rfl ?_
    refine g_get fl4_18 d4_readClause_71 f_14_8 ?_
    refine g_iload_n d4_readClause_74 rfl ?_
    refine g_aload_n d4_readClause_75 rfl ?_
    refine g_get fl4_51 d4_readClause_76 f_14_10 ?_
    refine g_topI (nI (s2)) (hS.2.2.2.2.2.1) ?_
    refine g_iastN (nc) _ d4_readClause_79 a_17 (rfl) (by omega) (by decide) t_17 ?_
    refine g_aload_n d4_readClause_80 rfl ?_
    refine g_get fl4_30 d4_readClause_81 f_14_0 ?_
    refine g_ldcS (i := 7) (by decide) rfl rfl d4_readClause_84 ?_
    refine g_EV1 vm8_isWord ml4_97 c_12 (r8_isWord (I := uI I 17 nc (nI s2)) tp t hS1.1 f2 hS1.2.1 7 (by decide) wrd_one.2.2.2 (Nat.le_refl 6)) (by omega) (Nat.le_of_ble_eq_true rfl) d4_readClause_86 ?_
    refine g_bz 108 d4_readClause_89 rfl (fun c89 => absurd c89 (fun z => z (wrd_if7.2 hi))) (fun _ => ?_)
    refine g_aload_n d4_readClause_92 rfl ?_
    refine g_get fl4_30 d4_readClause_93 f_14_0 ?_
    refine g_WV0 vm8_advance ml4_74 c_12 (r8_next (I := uI I 17 nc (nI s2)) tp t lw s2 p2 0 f2 hS1 (Nat.le_refl 1)) (by omega) (Nat.le_of_ble_eq_true rfl) d4_readClause_96 (fun x1 hx => ?_)
    refine g_aload_n d4_readClause_99 rfl ?_
    refine g_XV0 vm4_readTest ml4_101 c_14 (hT 0 p2 (nxt tp t f2) d0 x1 s2 (d - 1) (by omega) hx.2 (by omega) hp5 (by omega) (by omega)) (by omega) (Nat.le_of_ble_eq_true rfl) d4_readClause_100 (fun y hy => ?_)
    have hF1 : FRc nc I0 x1 := (hF.tr (FRc.u (by decide) (by decide))).tr (FRc.d (FRd.tk hx.1))
    rw [show pE tp t lw true p2 (nxt tp t f2) = pz tp t lw 3300 0 0 p2 (nxt tp t f2) d0 from rfl]
    generalize hr : pz tp t lw 3300 0 0 p2 (nxt tp t f2) d0 = r at hy ⊢
    rcases r with e | ⟨f3, p3, v3⟩
    · have hb1 : y.2 = false := hy.1
      refine g_bnz 108 d4_readClause_103 rfl (fun c103 => absurd c103 (by rw [hb1]; decide)) (fun _ => ?_)
      refine g_iconstv (nI 0) d4_readClause_106 rfl ?_
      exact g_zret rfl (by decide) d4_readClause_107 (⟨(y.1, false), ⟨rfl, hF1.tr (FRc.d hy.2.1), hy.2.2⟩, rfl, rfl⟩)
    · have hb1 : y.2 = true := hy.1
      obtain ⟨_, y2, y3, y4, y5, y6, b2, y7, y8, y9, y10, y11⟩ := hy
      have g : ∀ c, 15 ≤ c → c ≤ 18 → y.1 c = uI I 17 nc (nI s2) c := fun c h1 h2 => by rw [y2.1 c (by omega) (by omega) (by omega) (by omega), hx.1.1 c (by omega)]
      have e1 : ∀ k, k < s2 → uI y.1 18 nc (nI b2) 19 k = I 19 k ∧ uI y.1 18 nc (nI b2) 20 k = I 20 k := fun k hk => by
        rw [uI_n (by decide), uI_n (by decide), (y3 k hk).1, (y3 k hk).2, hx.1.1 19 (by decide), hx.1.1 20 (by decide), uI_n (by decide), uI_n (by decide)]; exact ⟨rfl, rfl⟩
      have e2 : ∀ k, uI y.1 18 nc (nI b2) 19 k = y.1 19 k ∧ uI y.1 18 nc (nI b2) 20 k = y.1 20 k := fun k => by
        rw [uI_n (by decide), uI_n (by decide)]; exact ⟨rfl, rfl⟩
      refine g_bnz 108 d4_readClause_103 rfl (fun _ => ?_) (fun c103 => absurd c103 (fun z => z hb1))
      have hok2 : ∀ k, b ≤ k → k < b2 → OKk (uI y.1 18 nc (nI b2)) k := fun k h1 h2 => by
        by_cases c : k < s2
        · exact (hok k h1 c).of (e1 k c).1 (e1 k c).2
        · exact (y10 k (by omega) h2).of (e2 k).1 (e2 k).2
      refine g_aload_n d4_readClause_108 rfl ?_
      refine g_get fl4_21 d4_readClause_109 f_14_9 ?_
      refine g_iload_n d4_readClause_112 rfl ?_
      refine g_aload_n d4_readClause_113 rfl ?_
      refine g_get fl4_51 d4_readClause_114 f_14_10 ?_
      refine g_topI (nI (b2)) (y7.2.2.2.2.2.1) ?_
      refine g_iastN (nc) _ d4_readClause_117 a_18 (rfl) (by omega) (by decide) t_18 ?_
      refine g_iconstv (nI 1) d4_readClause_118 rfl ?_
      exact g_zret rfl (by decide) d4_readClause_119 (⟨(uI y.1 18 nc (nI b2), true), ⟨rfl, (hF1.tr (FRc.d y2)).tr (FRc.u (by decide) (by decide)), fun k hk => ⟨(e1 k (by omega)).1.trans (hE k hk).1, (e1 k (by omega)).2.trans (hE k hk).2⟩, y4, by omega, y6, s2, b2, y7.u (by decide), by omega, by show uI y.1 18 nc (nI b2) 15 nc = _; rw [uI_n (by decide), g 15 (by decide) (by decide), uI_n (by decide)]; exact h15, by show uI y.1 18 nc (nI b2) 16 nc = _; rw [uI_n (by decide), g 16 (by decide) (by decide), uI_n (by decide)]; exact h16, by show uI y.1 18 nc (nI b2) 17 nc = _; rw [uI_n (by decide), g 17 (by decide) (by decide), uI_ss], by show uI y.1 18 nc (nI b2) 18 nc = _; rw [uI_ss], ⟨hc1, hbs, by omega, rgC.of hrg (fun k _ h2 => e1 k h2), Or.inr (SC.mono (SCI.of y11 (fun k _ _ => e2 k)) (by decide))⟩, hok2⟩, rfl, rfl⟩)
  · rw [show tlR tp t lw c1 f2 p2 v2 = .inr (f2, p2, (c1, v2, d1)) from if_neg hi]
    refine g_aload_n d4_readClause_70 rfl ?_
    refine g_get fl4_18 d4_readClause_71 f_14_8 ?_
    refine g_iload_n d4_readClause_74 rfl ?_
    refine g_aload_n d4_readClause_75 rfl ?_
    refine g_get fl4_51 d4_readClause_76 f_14_10 ?_
    refine g_topI (nI (s2)) (hS.2.2.2.2.2.1) ?_
    refine g_iastN (nc) _ d4_readClause_79 a_17 (rfl) (by omega) (by decide) t_17 ?_
    refine g_aload_n d4_readClause_80 rfl ?_
    refine g_get fl4_30 d4_readClause_81 f_14_0 ?_
    refine g_ldcS (i := 7) (by decide) rfl rfl d4_readClause_84 ?_
    have e2 : ∀ k, (uI (uI I 17 nc (nI s2)) 18 nc (nI s2)) 19 k = I 19 k ∧ (uI (uI I 17 nc (nI s2)) 18 nc (nI s2)) 20 k = I 20 k := fun k => by
      rw [uI_n (by decide), uI_n (by decide), uI_n (by decide), uI_n (by decide)]; exact ⟨rfl, rfl⟩
    refine g_EV1 vm8_isWord ml4_97 c_12 (r8_isWord (I := uI I 17 nc (nI s2)) tp t hS1.1 f2 hS1.2.1 7 (by decide) wrd_one.2.2.2 (Nat.le_refl 6)) (by omega) (Nat.le_of_ble_eq_true rfl) d4_readClause_86 ?_
    refine g_bz 108 d4_readClause_89 rfl (fun _ => ?_) (fun c89 => absurd c89 (fun z => hi (wrd_if7.1 z)))
    refine g_aload_n d4_readClause_108 rfl ?_
    refine g_get fl4_21 d4_readClause_109 f_14_9 ?_
    refine g_iload_n d4_readClause_112 rfl ?_
    refine g_aload_n d4_readClause_113 rfl ?_
    refine g_get fl4_51 d4_readClause_114 f_14_10 ?_
    refine g_topI (nI (s2)) (hS1.2.2.2.2.2.1) ?_
    refine g_iastN (nc) _ d4_readClause_117 a_18 (rfl) (by omega) (by decide) t_18 ?_
    refine g_iconstv (nI 1) d4_readClause_118 rfl ?_
    exact g_zret rfl (by decide) d4_readClause_119 (⟨((uI (uI I 17 nc (nI s2)) 18 nc (nI s2)), true), ⟨rfl, (hF.tr (FRc.u (by decide) (by decide))).tr (FRc.u (by decide) (by decide)), fun k hk => ⟨(e2 k).1.trans (hE k hk).1, (e2 k).2.trans (hE k hk).2⟩, hp5, hff, hft0, s2, s2, hS1.u (by decide), hs2, h15, h16, by show uI (uI I 17 nc (nI s2)) 18 nc (nI s2) 17 nc = _; rw [uI_n (by decide), uI_ss], by show uI (uI I 17 nc (nI s2)) 18 nc (nI s2) 18 nc = _; rw [uI_ss], ⟨hc1, hbs, Nat.le_refl _, rgC.of hrg (fun k _ _ => e2 k), Or.inl ⟨rfl, rfl⟩⟩, fun k h1 h2 => (hok k h1 h2).of (e2 k).1 (e2 k).2⟩, rfl, rfl⟩)
