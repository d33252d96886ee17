set_option maxHeartbeats 1000000 in
theorem r4_clause {l : Launch} {K : cK} {L : wL} {R : wR} {dy : cH} {tp : Nat → Nat} {t : Nat} {lw : Bool} (hT : KR l K L R dy tp t lw m4_readTest 0 7 13 3 3300) (hM : KR l K L R dy tp t lw m4_readSum 4 3 9 2 3300) {I : wI} {d : Nat} (nc b pa f : Nat) (hnc : nc < 12) (hS : RSt I tp t lw b pa 0 f) (hbf : b ≤ f) (hpa : pa ≤ 50) (hd : 78 ≤ d) : CX l K m4_readClause d [.ref 14, .int (nI nc)] (hp I L R dy) (α := wI × Bool) (RC I tp t lw nc b f (pcl tp t lw nc pa f)) (fun x => .int (if x.2 = true then 1 else 0)) (fun x => hp x.1 L R dy) := by
  have ht4 := hS.1.1
  have hft0 := hS.2.1.1
  have hh3 := hdK_le tp t f lw
  refine CC.of ok4_readClause (Nat.le_of_ble_eq_true rfl) ?_
  have hstart : GL l K m4_readClause d 0 0 18 [(0, .ref 14), (1, .int (nI nc))] [.retAddr (8 + (if lw = true then 0 else 1)), .ref 12] (hp I L R dy) (fun r h => ∃ q : wI × Bool, RC I tp t lw nc b f (pcl tp t lw nc pa f) q ∧ r = some (.int (if q.2 = true then 1 else 0)) ∧ h = hp q.1 L R dy) := by
    have hi8 : (if lw = true then 0 else 1) < 8 := by cases lw <;> decide
    by_cases h0 : hdK tp t f lw = 0
    · rw [show pcl tp t lw nc pa f = .inl f from if_pos (Or.inl h0)]
      refine g_EV1 vm8_wordIn ml4_88 c_12 (r8_wordIn tp t hS.1 f hS.2.1 (if lw = true then 0 else 1) hi8 (Nat.le_refl 5)) (by omega) (Nat.le_of_ble_eq_true rfl) d4_readClause_18 ?_
      refine g_topI ((-1 : Int32)) (by rw [wrd_v, if_pos h0]; rfl) ?_
      refine g_istore_n d4_readClause_21 (by decide) ?_
      refine g_iload_n d4_readClause_22 rfl ?_
      refine g_iconstv ((-1 : Int32)) d4_readClause_23 rfl ?_
      refine g_ic_ne (-1) (-1) 32 (by decide) (by decide) d4_readClause_24 rfl (fun c24 => absurd c24 (by decide)) (fun _ => ?_)
      refine g_aload_n d4_readClause_27 rfl ?_
      refine g_EV0 vm4_wrong ml4_77 c_14 (r4_wrong f hS.2.1.2.1 (Nat.le_refl 0)) (by omega) (Nat.le_of_ble_eq_true rfl) d4_readClause_28 ?_
      exact g_zret rfl (by decide) d4_readClause_31 (⟨(_, false), ⟨rfl, FRc.d (FRd.f (by decide) (by decide)), rfl⟩, rfl, rfl⟩)
    · have hk1 := hdK_k h0
      have hn1 := nxt_le (tp := tp) hft0
      have hn3 := hn1.2.2 (by omega)
      have hpc : pcl tp t lw nc pa f = (match (if hdK tp t f lw = 3 then (.inr (nxt tp t f, pa, d1) : Res) else pE tp t lw false pa (nxt tp t f)) with
        | .inl e => .inl e
        | .inr (f2, p2, v2) => tlR tp t lw (hdK tp t f lw - 1) f2 p2 v2) := if_neg (fun z => by omega)
      rw [hpc]
      refine g_EV1 vm8_wordIn ml4_88 c_12 (r8_wordIn tp t hS.1 f hS.2.1 (if lw = true then 0 else 1) hi8 (Nat.le_refl 5)) (by omega) (Nat.le_of_ble_eq_true rfl) d4_readClause_18 ?_
      refine g_topI (nI (hdK tp t f lw - 1)) (by rw [wrd_v, if_neg h0]; rfl) ?_
      refine g_istore_n d4_readClause_21 (by decide) ?_
      refine g_iload_n d4_readClause_22 rfl ?_
      refine g_iconstv ((-1 : Int32)) d4_readClause_23 rfl ?_
      refine g_ic_ne (((hdK tp t f lw - 1) : Nat) : Int) (-1) 32 (nI_ti (by omega)) (by decide) d4_readClause_24 rfl (fun _ => ?_) (fun c24 => absurd c24 (by omega))
      refine g_aload_n d4_readClause_32 rfl ?_
      refine g_get fl4_30 d4_readClause_33 f_14_0 ?_
      refine g_WV0 vm8_advance ml4_74 c_12 (r8_next tp t lw b pa 0 f hS (Nat.le_refl 1)) (by omega) (Nat.le_of_ble_eq_true rfl) d4_readClause_36 (fun x1 hx => ?_)
      refine g_aload_n d4_readClause_39 rfl ?_
      refine g_get fl4_11 d4_readClause_40 f_14_6 ?_
      refine g_iload_n d4_readClause_43 rfl ?_
      refine g_iload_n d4_readClause_44 rfl ?_
      refine g_iastN (nc) _ d4_readClause_45 a_15 (rfl) (by omega) (by decide) t_15 ?_
      refine g_aload_n d4_readClause_46 rfl ?_
      refine g_get fl4_15 d4_readClause_47 f_14_7 ?_
      refine g_iload_n d4_readClause_50 rfl ?_
      refine g_aload_n d4_readClause_51 rfl ?_
      refine g_get fl4_51 d4_readClause_52 f_14_10 ?_
      refine g_topI (nI (b)) (hx.2.2.2.2.2.2.1) ?_
      refine g_iastN (nc) _ d4_readClause_55 a_16 (rfl) (by omega) (by decide) t_16 ?_
      have hZ : RSt (uI (uI x1 15 nc (nI (hdK tp t f lw - 1))) 16 nc (nI b)) tp t lw b pa 0 (nxt tp t f) := (hx.2.u (by decide)).u (by decide)
      have hFZ : FRc nc I (uI (uI x1 15 nc (nI (hdK tp t f lw - 1))) 16 nc (nI b)) := ((FRc.d (FRd.tk hx.1)).tr (FRc.u (by decide) (by decide))).tr (FRc.u (by decide) (by decide))
      have hEZ : EQs I (uI (uI x1 15 nc (nI (hdK tp t f lw - 1))) 16 nc (nI b)) b := fun k hk => by rw [uI_n (by decide), uI_n (by decide), uI_n (by decide), uI_n (by decide), hx.1.1 19 (by decide), hx.1.1 20 (by decide)]; exact ⟨rfl, rfl⟩
      have h15 : (uI (uI x1 15 nc (nI (hdK tp t f lw - 1))) 16 nc (nI b)) 15 nc = nI (hdK tp t f lw - 1) := by rw [uI_n (by decide), uI_ss]
      have h16 : (uI (uI x1 15 nc (nI (hdK tp t f lw - 1))) 16 nc (nI b)) 16 nc = nI b := uI_ss
      by_cases h3 : hdK tp t f lw = 3
      · rw [if_pos h3]
        refine g_iload_n d4_readClause_56 rfl ?_
        refine g_iconstv (nI 2) d4_readClause_57 rfl ?_
        refine g_ic_eq (((hdK tp t f lw - 1) : Nat) : Int) (2) 70 (nI_ti (by omega)) (by decide) d4_readClause_58 rfl (fun _ => ?_) (fun c58 => absurd c58 (by omega))
        refine g_lo [(0, .ref 14), (1, .int (nI nc))] ⟨rfl, rfl, trivial⟩ ?_
        exact r4_tail hT nc b f b pa (nxt tp t f) (hdK tp t f lw - 1) d1 hnc hFZ hEZ h15 h16 hZ (by omega) (Nat.le_refl _) (fun k h1 h2 => absurd h1 (by omega)) (Or.inl ⟨rfl, rfl⟩) hpa hn3 (by omega) hd
      · rw [if_neg h3]
        refine g_iload_n d4_readClause_56 rfl ?_
        refine g_iconstv (nI 2) d4_readClause_57 rfl ?_
        refine g_ic_eq (((hdK tp t f lw - 1) : Nat) : Int) (2) 70 (nI_ti (by omega)) (by decide) d4_readClause_58 rfl (fun c58 => absurd c58 (by omega)) (fun _ => ?_)
        refine g_aload_n d4_readClause_61 rfl ?_
        refine g_XV0 vm4_readSum ml4_92 c_14 (hM 0 pa (nxt tp t f) d0 (uI (uI x1 15 nc (nI (hdK tp t f lw - 1))) 16 nc (nI b)) b (d - 1) (by omega) hZ (by omega) hpa (by omega) (by omega)) (by omega) (Nat.le_of_ble_eq_true rfl) d4_readClause_62 (fun y hy => ?_)
        rw [show pE tp t lw false pa (nxt tp t f) = pz tp t lw 3300 4 0 pa (nxt tp t f) d0 from rfl]
        generalize hr : pz tp t lw 3300 4 0 pa (nxt tp t f) d0 = r at hy ⊢
        rcases r with e | ⟨f2, p2, v2⟩
        · have hb1 : y.2 = false := hy.1
          refine g_bnz 70 d4_readClause_65 rfl (fun c65 => absurd c65 (by rw [hb1]; decide)) (fun _ => ?_)
          refine g_iconstv (nI 0) d4_readClause_68 rfl ?_
          exact g_zret rfl (by decide) d4_readClause_69 (⟨(y.1, false), ⟨rfl, hFZ.tr (FRc.d hy.2.1), hy.2.2⟩, rfl, rfl⟩)
        · have hb1 : y.2 = true := hy.1
          obtain ⟨_, y2, y3, y4, y5, y6, b2, y7, y8, y9, y10, y11⟩ := hy
          have g : ∀ c, 15 ≤ c → c ≤ 18 → y.1 c = (uI (uI x1 15 nc (nI (hdK tp t f lw - 1))) 16 nc (nI b)) c := fun c h1 h2 => y2.1 c (by omega) (by omega) (by omega) (by omega)
          refine g_bnz 70 d4_readClause_65 rfl (fun _ => ?_) (fun c65 => absurd c65 (fun z => z hb1))
          refine g_lo [(0, .ref 14), (1, .int (nI nc))] ⟨rfl, rfl, trivial⟩ ?_
          exact r4_tail hT nc b f b2 p2 f2 (hdK tp t f lw - 1) v2 hnc (hFZ.tr (FRc.d y2)) (hEZ.tr y3) (by rw [g 15 (by decide) (by decide)]; exact h15) (by rw [g 16 (by decide) (by decide)]; exact h16) y7 (by omega) (by omega) y10 (Or.inr (SC.mono y11 (by decide))) y4 (by omega) (by omega) hd
  cases lw
  · skip
    refine g_aload_n d4_readClause_0 rfl ?_
    refine g_get fl4_30 d4_readClause_1 f_14_0 ?_
    refine g_aload_n d4_readClause_4 rfl ?_
    refine g_get fl4_34 d4_readClause_5 f_14_1 ?_
    refine g_topI (nI 0) (hS.2.2.1) ?_
    refine g_iz_eq (0) 16 (by decide) d4_readClause_8 rfl (fun _ => ?_) (fun c8 => absurd c8 (by decide))
    refine g_ldcS (i := 1) (by decide) rfl rfl d4_readClause_16 ?_
    refine g_lo [(0, .ref 14), (1, .int (nI nc))] ⟨rfl, rfl, trivial⟩ ?_
    exact hstart
  · skip
    refine g_aload_n d4_readClause_0 rfl ?_
    refine g_get fl4_30 d4_readClause_1 f_14_0 ?_
    refine g_aload_n d4_readClause_4 rfl ?_
    refine g_get fl4_34 d4_readClause_5 f_14_1 ?_
    refine g_topI (nI 1) (hS.2.2.1) ?_
    refine g_iz_eq (1) 16 (by decide) d4_readClause_8 rfl (fun c8 => absurd c8 (by decide)) (fun _ => ?_)
    refine g_ldcS (i := 0) (by decide) rfl rfl d4_readClause_11 ?_
    refine g_goto 18 d4_readClause_13 rfl ?_
    refine g_lo [(0, .ref 14), (1, .int (nI nc))] ⟨rfl, rfl, trivial⟩ ?_
    exact hstart
