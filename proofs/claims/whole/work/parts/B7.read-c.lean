def FRr (I I2 : wI) : Prop := (∀ k, k < 12 ∨ k = 13 ∨ 20 < k → I2 k = I k) ∧ I2 12 1 = I 12 1
theorem FRr.rf {I : wI} : FRr I I := ⟨fun _ _ => rfl, rfl⟩
theorem FRr.tr {I I2 I3 : wI} (h : FRr I I2) (h2 : FRr I2 I3) : FRr I I3 := ⟨fun k a => (h2.1 k a).trans (h.1 k a), h2.2.trans h.2⟩
theorem FRr.c {nc : Nat} {I I2 : wI} (h : FRc nc I I2) : FRr I I2 := ⟨h.1, h.2.1⟩
theorem FRr.f {I : wI} {j : Nat} {x : Int32} : FRr I (uI I 14 j x) := ⟨fun k hk => uI_n (by omega), by rw [uI_n (by decide)]⟩
theorem FRr.tk {I I2 : wI} (h : FTk I I2) : FRr I I2 := ⟨fun k hk => h.1 k (by omega), h.2⟩
theorem clC.of {I I2 : wI} {s1 s2 t2 : Nat} {c : Cl} (h : clC (cop (stF I) (wiF I)) (carg (stF I) (wiF I)) s1 s2 t2 c) (e : ∀ k, k < t2 → I2 19 k = I 19 k ∧ I2 20 k = I 20 k) : clC (cop (stF I2) (wiF I2)) (carg (stF I2) (wiF I2)) s1 s2 t2 c := by
  obtain ⟨h1, h2, h3, h4, h5⟩ := h
  exact ⟨h1, h2, h3, rgC.of h4 (fun k _ a => e k (by omega)), rgC.of h5 (fun k _ a => e k a)⟩
/-- the clauses as they are read so far -/
def CLc (I : wI) (b : Nat) (cs : List Cl) : Prop := (∀ k, k < b → OKk I k) ∧ ∀ c, c < cs.length → ∃ s1 s2 t2, I 15 c = nI (cs.getD c (0, d0, d0)).1 ∧ I 16 c = nI s1 ∧ I 17 c = nI s2 ∧ I 18 c = nI t2 ∧ t2 ≤ b ∧ clC (cop (stF I) (wiF I)) (carg (stF I) (wiF I)) s1 s2 t2 (cs.getD c (0, d0, d0))
theorem CLc.cg {I I2 : wI} {b : Nat} {cs : List Cl} (h : CLc I b cs) (e : ∀ k, 15 ≤ k → k ≤ 20 → I2 k = I k) : CLc I2 b cs := by
  refine ⟨fun k hk => (h.1 k hk).of (by rw [e 19 (by decide) (by decide)]) (by rw [e 20 (by decide) (by decide)]), fun c hc => ?_⟩
  obtain ⟨s1, s2, t2, a1, a2, a3, a4, a5, a6⟩ := h.2 c hc
  exact ⟨s1, s2, t2, by rw [e 15 (by decide) (by decide)]; exact a1, by rw [e 16 (by decide) (by decide)]; exact a2, by rw [e 17 (by decide) (by decide)]; exact a3, by rw [e 18 (by decide) (by decide)]; exact a4, a5, a6.of (fun k _ => ⟨by rw [e 19 (by decide) (by decide)], by rw [e 20 (by decide) (by decide)]⟩)⟩
theorem CLc.snoc {I I2 : wI} {b b2 s2 : Nat} {cs : List Cl} {c : Cl} (h : CLc I b cs) (hF : FRc cs.length I I2) (hE : EQs I I2 b) (y15 : I2 15 cs.length = nI c.1) (y16 : I2 16 cs.length = nI b) (y17 : I2 17 cs.length = nI s2) (y18 : I2 18 cs.length = nI b2) (hc : clC (cop (stF I2) (wiF I2)) (carg (stF I2) (wiF I2)) b s2 b2 c) (hok : ∀ k, b ≤ k → k < b2 → OKk I2 k) : CLc I2 b2 (cs ++ [c]) := by
  have hb : b ≤ b2 := by have := hc.2.1; have := hc.2.2.1; omega
  refine ⟨fun k hk => ?_, fun k hk => ?_⟩
  · by_cases z : k < b
    · exact (h.1 k z).of (hE k z).1 (hE k z).2
    · exact hok k (by omega) hk
  · by_cases e : k < cs.length
    · have g : (cs ++ [c]).getD k (0, d0, d0) = cs.getD k (0, d0, d0) := by simp [List.getD, List.getElem?_append_left e]
      obtain ⟨s1, s2, t2, a1, a2, a3, a4, a5, a6⟩ := h.2 k e
      obtain ⟨q1, q2, q3, q4⟩ := hF.2.2.2.2 k (by omega)
      rw [g]
      exact ⟨s1, s2, t2, q1.trans a1, q2.trans a2, q3.trans a3, q4.trans a4, by omega, a6.of (fun j hj => hE j (by omega))⟩
    · have e2 : k = cs.length := by simp at hk; omega
      subst e2
      have g : (cs ++ [c]).getD cs.length (0, d0, d0) = c := by simp [List.getD]
      rw [g]
      exact ⟨b, s2, b2, y15, y16, y17, y18, Nat.le_refl _, hc⟩
theorem RSt.f5 {I : wI} {tp : Nat → Nat} {t : Nat} {lw : Bool} {b pa br f : Nat} {x : Int32} (h : RSt I tp t lw b pa br f) : RSt (uI I 14 5 x) tp t lw b pa br f := ⟨h.1, h.2.1, h.2.2.1, h.2.2.2.1, h.2.2.2.2.1, h.2.2.2.2.2⟩
def rdX (tp : Nat → Nat) (t : Nat) (lw : Bool) (n nc pa f : Nat) : Nat ⊕ List Cl := match pcl tp t lw nc pa f with
  | .inl e => .inl e
  | .inr (f1, p1, c) => (match ptl tp t lw n (nc + 1) p1 f1 with
    | .inl e => .inl e
    | .inr cs => .inr (c :: cs))
theorem ptx_rd (tp : Nat → Nat) (t : Nat) (lw : Bool) : ptx tp t lw = rdX tp t lw 12 0 0 (sk tp t 0) := rfl
theorem ptl_s {tp : Nat → Nat} {t : Nat} {lw : Bool} {n nc pa f : Nat} (h : sg tp t f = 59) : ptl tp t lw (n + 1) nc pa f = rdX tp t lw n nc pa (nxt tp t f) := if_pos h
theorem ptl_e {tp : Nat → Nat} {t : Nat} {lw : Bool} {n nc pa f : Nat} (h : kd tp t f = 0) : ptl tp t lw (n + 1) nc pa f = .inr [] := (if_neg (by rw [kd_sg (by omega)]; decide)).trans (if_pos h)
theorem ptl_n {tp : Nat → Nat} {t : Nat} {lw : Bool} {n nc pa f : Nat} (h : ¬ sg tp t f = 59) (hk : ¬ kd tp t f = 0) : ptl tp t lw (n + 1) nc pa f = .inl f := (if_neg h).trans (if_neg hk)
/-- what reading a text leaves -/
def RDP (I : wI) (L : wL) (R : wR) (dy : cH) (cs : List Cl) (r : Nat ⊕ List Cl) (v : Option Value) (h : cH) : Prop := ∃ I2, FRr I I2 ∧ (match r with
  | .inl e => v = some .null ∧ h = hp I2 L R dy ∧ I2 14 4 = nI e
  | .inr c2 => v = some (.ref (dy.length + 105)) ∧ I2 14 4 = -1 ∧ ∃ fs as, as.length = 6 ∧ h = hp I2 L R (hO dy 9 fs as) ∧ CTX (hO dy 9 fs as) (dy.length + 105) (cs ++ c2))
theorem RDP.tr {I I1 : wI} {L : wL} {R : wR} {dy : cH} {cs : List Cl} {r : Nat ⊕ List Cl} {v : Option Value} {h : cH} (hF : FRr I I1) (q : RDP I1 L R dy cs r v h) : RDP I L R dy cs r v h := by
  obtain ⟨I2, h1, h2⟩ := q
  exact ⟨I2, hF.tr h1, h2⟩
def snR (c : Cl) (r : Nat ⊕ List Cl) : Nat ⊕ List Cl := match r with
  | .inl e => .inl e
  | .inr cs => .inr (c :: cs)
theorem RDP.sn {I : wI} {L : wL} {R : wR} {dy : cH} {cs : List Cl} {c : Cl} {r : Nat ⊕ List Cl} {v : Option Value} {h : cH} (q : RDP I L R dy (cs ++ [c]) r v h) : RDP I L R dy cs (snR c r) v h := by
  obtain ⟨I2, h1, h2⟩ := q
  refine ⟨I2, h1, ?_⟩
  match r, h2 with
  | .inl e, h2 => exact h2
  | .inr c2, h2 =>
    obtain ⟨a1, a2, fs, as, a3, a4, a5⟩ := h2
    exact ⟨a1, a2, fs, as, a3, a4, by rw [List.append_assoc] at a5; exact a5⟩
theorem nw4_66 : nw "CoinsWarden$Reading" 66 9 7 [.int 0, .null, .null, .null, .null, .null, .null] := ⟨_, _, rfl, cl4_66, tg_at 699 (by decide +kernel) rfl, tg_at 19 (by decide +kernel) rfl, fun j hj => by
  have hz : j = 0 ∨ j = 1 ∨ j = 2 ∨ j = 3 ∨ j = 4 ∨ j = 5 ∨ j = 6 := by omega
  rcases hz with rfl | rfl | rfl | rfl | rfl | rfl | rfl
  · exact congrArg (Option.map defaultValue) (show parseFieldDescriptor "I" = some .int by decide +kernel)
  all_goals exact congrArg (Option.map defaultValue) (show parseFieldDescriptor "[I" = some (.array .int) by decide +kernel)⟩
def GA (G1 G2 G3 G4 G5 G6 : Nat → Int32) (j : Nat) : Nat → Int32 := if j = 1 then G1 else if j = 2 then G2 else if j = 3 then G3 else if j = 4 then G4 else if j = 5 then G5 else G6
theorem CTX.mk {I : wI} {dy : cH} {b nc : Nat} {cs : List Cl} {G1 G2 G3 G4 G5 G6 : Nat → Int32} (hC : CLc I b cs) (hl : cs.length = nc) (hn : nc ≤ 12) (hb : b ≤ 400) (hG : ∀ c, c < nc → G1 c = I 15 c ∧ G2 c = I 16 c ∧ G3 c = I 17 c ∧ G4 c = I 18 c) (hG5 : ∀ k, k < b → G5 k = I 19 k ∧ G6 k = I 20 k) : CTX (hO dy 9 [.int (nI nc), .ref (dy.length + 105 + 1), .ref (dy.length + 105 + 2), .ref (dy.length + 105 + 3), .ref (dy.length + 105 + 4), .ref (dy.length + 105 + 5), .ref (dy.length + 105 + 6)] [.inl (0, nc, .inl G1), .inl (0, nc, .inl G2), .inl (0, nc, .inl G3), .inl (0, nc, .inl G4), .inl (0, b, .inl G5), .inl (0, b, .inl G6)]) (dy.length + 105) cs := by
  subst hl
  refine ⟨b, GA G1 G2 G3 G4 G5 G6, stF I, wiF I, ⟨dy.length, rfl, hO_at, hO_e rfl rfl (i := 0) rfl, hO_e rfl rfl (i := 1) rfl, hO_e rfl rfl (i := 2) rfl, hO_e rfl rfl (i := 3) rfl, hO_e rfl rfl (i := 4) rfl, hO_e rfl rfl (i := 5) rfl, hn, hb⟩, fun k hk => ?_, fun c hc => ?_⟩
  · obtain ⟨o1, o2, o3, o4⟩ := hC.1 k hk
    exact ⟨(hG5 k hk).1.trans o1, (hG5 k hk).2.trans o2, o3, o4⟩
  · obtain ⟨s1, s2, t2, a1, a2, a3, a4, a5, a6⟩ := hC.2 c hc
    obtain ⟨g1, g2, g3, g4⟩ := hG c hc
    exact ⟨s1, s2, t2, g1.trans a1, g2.trans a2, g3.trans a3, g4.trans a4, a5, a6⟩
set_option maxHeartbeats 1000000 in
theorem r4_rdL {l : Launch} {K : cK} {L : wL} {R : wR} {dy : cH} {tp : Nat → Nat} {t : Nat} {lw : Bool} (hT : KR l K L R dy tp t lw m4_readTest 0 7 13 3 3300) (hM : KR l K L R dy tp t lw m4_readSum 4 3 9 2 3300) {d : Nat} (hd : 79 ≤ d) : ∀ (n nc b pa f : Nat) (I : wI) (cs : List Cl), n + nc = 12 → cs.length = nc → RSt I tp t lw b pa 0 f → b ≤ f → pa ≤ 50 → CLc I b cs → GL l K m4_read d 7 855 39 [(0, .ref 14), (2, .int (nI nc))] [] (hp I L R dy) (RDP I L R dy cs (rdX tp t lw n nc pa f)) := by
  intro n
  induction n with
  | zero =>
    intro nc b pa f I cs hn hcs hS hbf hpa hC
    obtain rfl : nc = 12 := by omega
    rw [show rdX tp t lw 0 12 pa f = .inl f from by unfold rdX pcl; rw [if_pos (Or.inr (Nat.le_refl 12))]]
    refine g_iload_n d4_read_39 rfl ?_
    refine g_bipushv (nI 12) d4_read_40 rfl ?_
    refine g_ic_ge (12) (12) 109 (by decide) (by decide) d4_read_42 rfl (fun _ => ?_) (fun c42 => absurd c42 (by decide))
    refine g_aload_n d4_read_109 rfl ?_
    refine g_EV0 vm4_wrong ml4_77 c_14 (r4_wrong f hS.2.1.2.1 (Nat.le_refl 0)) (by omega) (Nat.le_of_ble_eq_true rfl) d4_read_110 ?_
    refine g_pop d4_read_113 rfl ?_
    refine g_null d4_read_114 ?_
    exact g_aret (Or.inl rfl) rfl (Or.inl ⟨_, rfl⟩) d4_read_115 ⟨_, FRr.f, rfl, rfl, uI_ss⟩
  | succ n ih =>
    intro nc b pa f I cs hn hcs hS hbf hpa hC
    have ht4 := hS.1.1
    refine g_iload_n d4_read_39 rfl ?_
    refine g_bipushv (nI 12) d4_read_40 rfl ?_
    refine g_ic_ge ((nc : Nat) : Int) (12) 109 (nI_ti (by omega)) (by decide) d4_read_42 rfl (fun c42 => absurd c42 (by omega)) (fun _ => ?_)
    refine g_aload_n d4_read_45 rfl ?_
    refine g_iload_n d4_read_46 rfl ?_
    refine g_XV1 vm4_readClause ml4_59 c_14 (r4_clause hT hM nc b pa f (by omega) hS hbf hpa (Nat.le_refl 78)) (by omega) (Nat.le_of_ble_eq_true rfl) d4_read_47 (fun y hy => ?_)
    unfold rdX
    generalize hr : pcl tp t lw nc pa f = r at hy ⊢
    rcases r with e | ⟨f1, p1, c⟩
    · have hb1 : y.2 = false := hy.1
      refine g_bnz 55 d4_read_50 rfl (fun c50 => absurd c50 (by rw [hb1]; decide)) (fun _ => ?_)
      refine g_null d4_read_53 ?_
      exact g_aret (Or.inl rfl) rfl (Or.inl ⟨_, rfl⟩) d4_read_54 ⟨y.1, FRr.c hy.2.1, rfl, rfl, hy.2.2⟩
    · have hb1 : y.2 = true := hy.1
      obtain ⟨_, y2, y3, y4, y5, y6, s2, b2, y7, y8, y15, y16, y17, y18, ycl, yok⟩ := hy
      have hC2 : CLc (uI y.1 14 5 (nI (nc + 1))) b2 (cs ++ [c]) := by
        subst hcs
        exact (hC.snoc y2 y3 y15 y16 y17 y18 ycl yok).cg (fun k h1 h2 => uI_n (by omega))
      have hS2 : RSt (uI y.1 14 5 (nI (nc + 1))) tp t lw b2 p1 0 f1 := y7.f5
      have hF2 : FRr I (uI y.1 14 5 (nI (nc + 1))) := (FRr.c y2).tr FRr.f
      show GL l K m4_read d 7 855 50 _ _ _ (RDP I L R dy cs (match ptl tp t lw (n + 1) (nc + 1) p1 f1 with
        | .inl e => .inl e
        | .inr cs => .inr (c :: cs)))
      refine g_bnz 55 d4_read_50 rfl (fun _ => ?_) (fun c50 => absurd c50 (fun z => z hb1))
      refine g_aload_n d4_read_55 rfl ?_
      refine g_iload_n d4_read_56 rfl ?_
      refine g_iconstv (nI 1) d4_read_57 rfl ?_
      refine g_iaddN d4_read_58 ?_
      refine g_putIh _ fl4_48 d4_read_59 f_14_5 s_14_5 ?_
      refine g_aload_n d4_read_62 rfl ?_
      refine g_get fl4_30 d4_read_63 f_14_0 ?_
      refine g_get fl4_63 d4_read_66 f_12_4 ?_
      refine g_topI (nI (kd tp t f1)) (hS2.2.1.2.2.2.1) ?_
      have hkd := kd_le tp t f1
      by_cases hk : kd tp t f1 = 0
      · rw [ptl_e hk]
        refine g_iz_ne ((kd tp t f1 : Nat) : Int) 81 (nI_ti (by omega)) d4_read_69 rfl (fun c69 => absurd c69 (by omega)) (fun _ => ?_)
        refine g_room (kc2 := 6 + 1) (ks2 := (4 * (nc + 1) + 2 * b2) + 7) (Nat.le_refl _) (by omega) (by omega) ?_
        refine g_new nw4_66 rfl d4_read_72 ?_
        refine g_hp (hO (hp (uI y.1 14 5 (nI (nc + 1))) L R dy) 9 [.int 0, .null, .null, .null, .null, .null, .null] []) rfl ?_
        refine g_st [.ref (dy.length + 105)] rfl ?_
        refine g_dup d4_read_75 rfl ?_
        refine g_aload_n d4_read_76 rfl ?_
        refine g_callI_1k (kc1 := 6) (ks1 := 4 * (nc + 1) + 2 * b2) (kc2 := 0) (ks2 := 0) (by omega) (by omega) im9_init ml4_68 (r9_init (I := (uI y.1 14 5 (nI (nc + 1)))) (L := L) (R := R) (dy := dy) (nc + 1) b2 uI_ss hS2.2.2.2.2.2.1 (by omega) (by omega) (Nat.le_refl 2)) (by omega) (Nat.le_of_ble_eq_true rfl) d4_read_77 (fun r h1 hx => ?_)
        obtain ⟨G1, G2, G3, G4, G5, G6, hG, hG5, rfl, rfl⟩ := hx
        refine g_st [.ref (dy.length + 105)] rfl ?_
        exact g_aret (Or.inr ⟨_, rfl⟩) rfl (Or.inl ⟨_, rfl⟩) d4_read_80 ⟨(uI y.1 14 5 (nI (nc + 1))), hF2, rfl, hS2.2.2.2.2.2.2, _, _, rfl, hp_hO, CTX.mk hC2 (by rw [List.length_append, hcs]; rfl) (by omega) (by omega) hG hG5⟩
      · by_cases hs : sg tp t f1 = 59
        · rw [ptl_s hs]
          have hn1 := nxt_le (tp := tp) y6
          refine g_iz_ne ((kd tp t f1 : Nat) : Int) 81 (nI_ti (by omega)) d4_read_69 rfl (fun _ => ?_) (fun c69 => absurd c69 (by omega))
          refine g_aload_n d4_read_81 rfl ?_
          refine g_get fl4_30 d4_read_82 f_14_0 ?_
          refine g_bipushv (nI 59) d4_read_85 rfl ?_
          refine g_EV1 vm8_isSign ml4_71 c_12 (r8_isSign tp t hS2.1 f1 hS2.2.1 59 (by decide) (by decide) (Nat.le_refl 0)) (by omega) (Nat.le_of_ble_eq_true rfl) d4_read_87 ?_
          refine g_bnz 96 d4_read_90 rfl (fun _ => ?_) (fun c90 => absurd c90 (fun z => z hs))
          refine g_aload_n d4_read_96 rfl ?_
          refine g_get fl4_30 d4_read_97 f_14_0 ?_
          refine g_WV0 vm8_advance ml4_74 c_12 (r8_next (I := (uI y.1 14 5 (nI (nc + 1)))) tp t lw b2 p1 0 f1 hS2 (Nat.le_refl 1)) (by omega) (Nat.le_of_ble_eq_true rfl) d4_read_100 (fun x1 hx => ?_)
          refine g_iincN d4_read_103 rfl (by decide) ?_
          refine g_goto 39 d4_read_106 rfl ?_
          refine g_lo [(0, .ref 14), (2, .int (nI (nc + 1)))] ⟨rfl, rfl, trivial⟩ ?_
          exact g_mono (ih (nc + 1) b2 p1 (nxt tp t f1) x1 (cs ++ [c]) (by omega) (by rw [List.length_append, hcs]; rfl) hx.2 (by omega) y4 (hC2.cg (fun k h1 h2 => hx.1.1 k (by omega)))) (fun r h1 q => (q.tr (hF2.tr (FRr.tk hx.1))).sn)
        · rw [ptl_n hs hk]
          refine g_iz_ne ((kd tp t f1 : Nat) : Int) 81 (nI_ti (by omega)) d4_read_69 rfl (fun _ => ?_) (fun c69 => absurd c69 (by omega))
          refine g_aload_n d4_read_81 rfl ?_
          refine g_get fl4_30 d4_read_82 f_14_0 ?_
          refine g_bipushv (nI 59) d4_read_85 rfl ?_
          refine g_EV1 vm8_isSign ml4_71 c_12 (r8_isSign tp t hS2.1 f1 hS2.2.1 59 (by decide) (by decide) (Nat.le_refl 0)) (by omega) (Nat.le_of_ble_eq_true rfl) d4_read_87 ?_
          refine g_bnz 96 d4_read_90 rfl (fun c90 => absurd c90 (fun z => hs z)) (fun _ => ?_)
          refine g_goto 109 d4_read_93 rfl ?_
          refine g_aload_n d4_read_109 rfl ?_
          refine g_EV0 vm4_wrong ml4_77 c_14 (r4_wrong (I := (uI y.1 14 5 (nI (nc + 1)))) f1 hS2.2.1.2.1 (Nat.le_refl 0)) (by omega) (Nat.le_of_ble_eq_true rfl) d4_read_110 ?_
          refine g_pop d4_read_113 rfl ?_
          refine g_null d4_read_114 ?_
          exact g_aret (Or.inl rfl) rfl (Or.inl ⟨_, rfl⟩) d4_read_115 ⟨_, hF2.tr FRr.f, rfl, rfl, uI_ss⟩
set_option maxHeartbeats 1000000 in
theorem r4_read {l : Launch} {K : cK} {d : Nat} {I : wI} {L : wL} {R : wR} {dy : cH} (tp : Nat → Nat) (t : Nat) (lw : Bool) (hTP : TPc I tp t) (hd : 79 ≤ d) : CC l K m4_read d 7 855 [.ref 14, .int (if lw = true then 1 else 0)] (hp I L R dy) (RDP I L R dy [] (ptx tp t lw)) := by
  have hA := r4_all (l := l) (K := K) (L := L) (R := R) (dy := dy) (tp := tp) (t := t) (lw := lw) 3300
  rw [ptx_rd]
  refine CC.of ok4_read (Nat.le_of_ble_eq_true rfl) ?_
  refine g_aload_n d4_read_0 rfl ?_
  refine g_iload_n d4_read_1 rfl ?_
  refine g_putZh _ fl4_34 d4_read_2 f_14_1 (b01 _) s_14_1 ?_
  refine g_aload_n d4_read_5 rfl ?_
  refine g_iconstv (nI 0) d4_read_6 rfl ?_
  refine g_putIh _ fl4_38 d4_read_7 f_14_2 s_14_2 ?_
  refine g_aload_n d4_read_10 rfl ?_
  refine g_iconstv (nI 0) d4_read_11 rfl ?_
  refine g_putIh _ fl4_42 d4_read_12 f_14_3 s_14_3 ?_
  refine g_aload_n d4_read_15 rfl ?_
  refine g_iconstv ((-1 : Int32)) d4_read_16 rfl ?_
  refine g_putIh _ fl4_45 d4_read_17 f_14_4 s_14_4 ?_
  refine g_aload_n d4_read_20 rfl ?_
  refine g_iconstv (nI 0) d4_read_21 rfl ?_
  refine g_putIh _ fl4_48 d4_read_22 f_14_5 s_14_5 ?_
  refine g_aload_n d4_read_25 rfl ?_
  refine g_iconstv (nI 0) d4_read_26 rfl ?_
  refine g_putIh _ fl4_51 d4_read_27 f_14_10 s_14_10 ?_
  refine g_aload_n d4_read_30 rfl ?_
  refine g_get fl4_30 d4_read_31 f_14_0 ?_
  refine g_WV0 vm8_begin ml4_54 c_12 (r8_begin (I := (uI (uI (uI (uI (uI (uI I 14 1 (if lw = true then 1 else 0)) 14 2 (nI 0)) 14 3 (nI 0)) 14 4 (-1)) 14 5 (nI 0)) 14 10 (nI 0))) tp t hTP (Nat.le_refl 2)) (by omega) (Nat.le_of_ble_eq_true rfl) d4_read_34 (fun x hx => ?_)
  refine g_iconstv (nI 0) d4_read_37 rfl ?_
  refine g_istore_n d4_read_38 (by decide) ?_
  have e := hx.1.1 14 (by decide)
  have hS : RSt x tp t lw 0 0 0 (sk tp t 0) := ⟨hx.1.tp hTP, hx.2, by rw [e]; rfl, by rw [e]; rfl, by rw [e]; rfl, by rw [e]; rfl, by rw [e]; rfl⟩
  have hF : FRr I x := (((((FRr.f.tr FRr.f).tr FRr.f).tr FRr.f).tr FRr.f).tr FRr.f).tr (FRr.tk hx.1)
  refine g_lo [(0, .ref 14), (2, .int (nI 0))] ⟨rfl, rfl, trivial⟩ ?_
  exact g_mono (r4_rdL hA.1 hA.2.2.2.1 hd 12 0 0 0 (sk tp t 0) x [] rfl rfl hS (Nat.zero_le _) (by decide) ⟨fun k hk => absurd hk (Nat.not_lt_zero _), fun c hc => absurd hc (Nat.not_lt_zero _)⟩) (fun r h1 q => q.tr hF)
