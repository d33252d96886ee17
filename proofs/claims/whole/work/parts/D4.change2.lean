theorem trm_QB {I : wI} {j x : Nat} {tm : Nat → Nat} (hB : QB I 1 (I 76) tm) (h1 : lwT.getD j 0 ≤ x) (h2 : x ≤ hiT.getD j 0) : QB (uI (uI (uI (uI (uI I 3 j (nI x)) 0 14 0) 74 0 0) 76 (6 + j) (nI x)) 74 1 0) 1 ((uI (uI (uI (uI (uI I 3 j (nI x)) 0 14 0) 74 0 0) 76 (6 + j) (nI x)) 74 1 0) 76) (fun q => if q = j then x else tm q) := fun q hq => by
  obtain ⟨a1, a2, a3⟩ := hB q hq
  by_cases e : q = j
  · subst e
    dsimp only
    rw [if_pos rfl]
    exact ⟨by show (uI (uI (uI (uI (uI I 3 q (nI x)) 0 14 0) 74 0 0) 76 (6 + q) (nI x)) 74 1 0) 3 q = _; (repeat (first | rw [uI_n (by decide)] | rw [uI_ss] | rw [uI_sn (by omega)])), by (repeat (first | rw [uI_n (by decide)] | rw [uI_ss] | rw [uI_sn (by omega)])), h1, h2⟩
  · dsimp only
    rw [if_neg e]
    refine ⟨?_, ?_, a3⟩
    · show (uI (uI (uI (uI (uI I 3 j (nI x)) 0 14 0) 74 0 0) 76 (6 + j) (nI x)) 74 1 0) 3 q = _
      (repeat (first | rw [uI_n (by decide)] | rw [uI_ss] | rw [uI_sn (by omega)]))
      exact a1
    · (repeat (first | rw [uI_n (by decide)] | rw [uI_ss] | rw [uI_sn (by omega)]))
      exact a2
set_option maxHeartbeats 3000000 in
theorem p_terms {I : wI} {L : wL} {R : wR} {dy : cH} (h : REL I L R dy) (w : Int32) (x : Int32) : PR kdI m11_terms m12_terms 0 0 [.int w, .int x] I L R dy := by
  obtain ⟨⟨n, cF, cT, cS, cL, hA⟩, ⟨tm, hB⟩, ⟨nl, Tf, Cf, hC, hF⟩, ⟨nh, Th, Ch, hD⟩, ⟨np, lo, wi, hE⟩, ⟨ns, ss, sc, hS⟩, hT⟩ := h.1
  by_cases hw : 0 ≤ w.toInt ∧ w.toInt < 8
  · obtain ⟨j, rfl, hj⟩ := nI_ex hw.1
    have hcs : j = 0 ∨ j = 1 ∨ j = 2 ∨ j = 3 ∨ j = 4 ∨ j = 5 ∨ j = 6 ∨ j = 7 := by omega
    rcases hcs with rfl | rfl | rfl | rfl | rfl | rfl | rfl | rfl
    · skip
      by_cases hx : 1 ≤ x.toInt ∧ x.toInt ≤ 9
      · obtain ⟨x, rfl, hxx⟩ := nI_ex (x := x) (by omega)
        have e : I 3 0 = I 76 (6 + 0) := (hB 0 (by decide)).1.trans (hB 0 (by decide)).2.1.symm
        refine PR.E (I1 := (uI (uI I 3 0 (nI x)) 0 14 0)) (I2 := (uI (uI (uI (uI (uI I 3 0 (nI x)) 0 14 0) 74 0 0) 76 (6 + 0) (nI x)) 74 1 0)) ⟨_, rfl⟩ (fun _ _ => r11_terms_ok 0 (by decide) (nI x) (by show 1 ≤ (nI x).toInt; omega) (by show (nI x).toInt ≤ 9; omega) (by decide)) (fun _ _ => by rw [e]; exact r12_terms_ok (I := (uI (uI I 3 0 (nI x)) 0 14 0)) 0 (nI x) (by omega) (by decide)) ?_
        refine h.u0 ?_ (fun q a b c => by (repeat (first | rw [uI_n (by omega)]))) ⟨rfl, rfl⟩ ⟨rfl, rfl, rfl, rfl, rfl, rfl⟩ rfl
        exact ⟨⟨n, cF, cT, cS, cL, hA.cg rfl (fun _ _ => rfl) (fun j hj => by (repeat (first | rw [uI_n (by decide)] | rw [uI_ss] | rw [uI_sn (by omega)])))⟩, ⟨_, trm_QB hB (by show 1 ≤ x; omega) (by show x ≤ 9; omega)⟩, ⟨nl, Tf, Cf, hC.c0 rfl (by (repeat (first | rw [uI_n (by decide)] | rw [uI_ss] | rw [uI_sn (by omega)]))) (fun j ha hb => by (repeat (first | rw [uI_n (by decide)] | rw [uI_ss] | rw [uI_sn (by omega)]))), hF.cg rfl (by (repeat (first | rw [uI_n (by decide)] | rw [uI_ss] | rw [uI_sn (by omega)])))⟩, ⟨nh, Th, Ch, hD.c0 rfl (by (repeat (first | rw [uI_n (by decide)] | rw [uI_ss] | rw [uI_sn (by omega)]))) (fun j ha hb => by (repeat (first | rw [uI_n (by decide)] | rw [uI_ss] | rw [uI_sn (by omega)])))⟩, ⟨np, lo, wi, hE.cg rfl (fun _ _ => ⟨rfl, rfl⟩) (fun j hj => by (repeat (first | rw [uI_n (by decide)] | rw [uI_ss] | rw [uI_sn (by omega)])))⟩, ⟨ns, ss, sc, hS.cg rfl (fun _ _ => ⟨rfl, rfl⟩) (fun j hj => by (repeat (first | rw [uI_n (by decide)] | rw [uI_ss] | rw [uI_sn (by omega)])))⟩, hT⟩
      · exact PR.no 0 1 (-1) (by decide) h (fun _ _ => r11_terms_no2 0 (by decide) x (by show x.toInt < 1 ∨ 9 < x.toInt; omega) (by decide)) (fun _ _ => r12_terms_no (I := uI (uI I 55 0 (I 55 0 + 1)) 0 14 (-1)) (nI 0) x (by omega) (by decide))
    · skip
      by_cases hx : 1 ≤ x.toInt ∧ x.toInt ≤ 4
      · obtain ⟨x, rfl, hxx⟩ := nI_ex (x := x) (by omega)
        have e : I 3 1 = I 76 (6 + 1) := (hB 1 (by decide)).1.trans (hB 1 (by decide)).2.1.symm
        refine PR.E (I1 := (uI (uI I 3 1 (nI x)) 0 14 0)) (I2 := (uI (uI (uI (uI (uI I 3 1 (nI x)) 0 14 0) 74 0 0) 76 (6 + 1) (nI x)) 74 1 0)) ⟨_, rfl⟩ (fun _ _ => r11_terms_ok 1 (by decide) (nI x) (by show 1 ≤ (nI x).toInt; omega) (by show (nI x).toInt ≤ 4; omega) (by decide)) (fun _ _ => by rw [e]; exact r12_terms_ok (I := (uI (uI I 3 1 (nI x)) 0 14 0)) 1 (nI x) (by omega) (by decide)) ?_
        refine h.u0 ?_ (fun q a b c => by (repeat (first | rw [uI_n (by omega)]))) ⟨rfl, rfl⟩ ⟨rfl, rfl, rfl, rfl, rfl, rfl⟩ rfl
        exact ⟨⟨n, cF, cT, cS, cL, hA.cg rfl (fun _ _ => rfl) (fun j hj => by (repeat (first | rw [uI_n (by decide)] | rw [uI_ss] | rw [uI_sn (by omega)])))⟩, ⟨_, trm_QB hB (by show 1 ≤ x; omega) (by show x ≤ 4; omega)⟩, ⟨nl, Tf, Cf, hC.c0 rfl (by (repeat (first | rw [uI_n (by decide)] | rw [uI_ss] | rw [uI_sn (by omega)]))) (fun j ha hb => by (repeat (first | rw [uI_n (by decide)] | rw [uI_ss] | rw [uI_sn (by omega)]))), hF.cg rfl (by (repeat (first | rw [uI_n (by decide)] | rw [uI_ss] | rw [uI_sn (by omega)])))⟩, ⟨nh, Th, Ch, hD.c0 rfl (by (repeat (first | rw [uI_n (by decide)] | rw [uI_ss] | rw [uI_sn (by omega)]))) (fun j ha hb => by (repeat (first | rw [uI_n (by decide)] | rw [uI_ss] | rw [uI_sn (by omega)])))⟩, ⟨np, lo, wi, hE.cg rfl (fun _ _ => ⟨rfl, rfl⟩) (fun j hj => by (repeat (first | rw [uI_n (by decide)] | rw [uI_ss] | rw [uI_sn (by omega)])))⟩, ⟨ns, ss, sc, hS.cg rfl (fun _ _ => ⟨rfl, rfl⟩) (fun j hj => by (repeat (first | rw [uI_n (by decide)] | rw [uI_ss] | rw [uI_sn (by omega)])))⟩, hT⟩
      · exact PR.no 0 1 (-1) (by decide) h (fun _ _ => r11_terms_no2 1 (by decide) x (by show x.toInt < 1 ∨ 4 < x.toInt; omega) (by decide)) (fun _ _ => r12_terms_no (I := uI (uI I 55 0 (I 55 0 + 1)) 0 14 (-1)) (nI 1) x (by omega) (by decide))
    · skip
      by_cases hx : 0 ≤ x.toInt ∧ x.toInt ≤ 99
      · obtain ⟨x, rfl, hxx⟩ := nI_ex (x := x) (by omega)
        have e : I 3 2 = I 76 (6 + 2) := (hB 2 (by decide)).1.trans (hB 2 (by decide)).2.1.symm
        refine PR.E (I1 := (uI (uI I 3 2 (nI x)) 0 14 0)) (I2 := (uI (uI (uI (uI (uI I 3 2 (nI x)) 0 14 0) 74 0 0) 76 (6 + 2) (nI x)) 74 1 0)) ⟨_, rfl⟩ (fun _ _ => r11_terms_ok 2 (by decide) (nI x) (by show 0 ≤ (nI x).toInt; omega) (by show (nI x).toInt ≤ 99; omega) (by decide)) (fun _ _ => by rw [e]; exact r12_terms_ok (I := (uI (uI I 3 2 (nI x)) 0 14 0)) 2 (nI x) (by omega) (by decide)) ?_
        refine h.u0 ?_ (fun q a b c => by (repeat (first | rw [uI_n (by omega)]))) ⟨rfl, rfl⟩ ⟨rfl, rfl, rfl, rfl, rfl, rfl⟩ rfl
        exact ⟨⟨n, cF, cT, cS, cL, hA.cg rfl (fun _ _ => rfl) (fun j hj => by (repeat (first | rw [uI_n (by decide)] | rw [uI_ss] | rw [uI_sn (by omega)])))⟩, ⟨_, trm_QB hB (by show 0 ≤ x; omega) (by show x ≤ 99; omega)⟩, ⟨nl, Tf, Cf, hC.c0 rfl (by (repeat (first | rw [uI_n (by decide)] | rw [uI_ss] | rw [uI_sn (by omega)]))) (fun j ha hb => by (repeat (first | rw [uI_n (by decide)] | rw [uI_ss] | rw [uI_sn (by omega)]))), hF.cg rfl (by (repeat (first | rw [uI_n (by decide)] | rw [uI_ss] | rw [uI_sn (by omega)])))⟩, ⟨nh, Th, Ch, hD.c0 rfl (by (repeat (first | rw [uI_n (by decide)] | rw [uI_ss] | rw [uI_sn (by omega)]))) (fun j ha hb => by (repeat (first | rw [uI_n (by decide)] | rw [uI_ss] | rw [uI_sn (by omega)])))⟩, ⟨np, lo, wi, hE.cg rfl (fun _ _ => ⟨rfl, rfl⟩) (fun j hj => by (repeat (first | rw [uI_n (by decide)] | rw [uI_ss] | rw [uI_sn (by omega)])))⟩, ⟨ns, ss, sc, hS.cg rfl (fun _ _ => ⟨rfl, rfl⟩) (fun j hj => by (repeat (first | rw [uI_n (by decide)] | rw [uI_ss] | rw [uI_sn (by omega)])))⟩, hT⟩
      · exact PR.no 0 1 (-1) (by decide) h (fun _ _ => r11_terms_no2 2 (by decide) x (by show x.toInt < 0 ∨ 99 < x.toInt; omega) (by decide)) (fun _ _ => r12_terms_no (I := uI (uI I 55 0 (I 55 0 + 1)) 0 14 (-1)) (nI 2) x (by omega) (by decide))
    · skip
      by_cases hx : 0 ≤ x.toInt ∧ x.toInt ≤ 9
      · obtain ⟨x, rfl, hxx⟩ := nI_ex (x := x) (by omega)
        have e : I 3 3 = I 76 (6 + 3) := (hB 3 (by decide)).1.trans (hB 3 (by decide)).2.1.symm
        refine PR.E (I1 := (uI (uI I 3 3 (nI x)) 0 14 0)) (I2 := (uI (uI (uI (uI (uI I 3 3 (nI x)) 0 14 0) 74 0 0) 76 (6 + 3) (nI x)) 74 1 0)) ⟨_, rfl⟩ (fun _ _ => r11_terms_ok 3 (by decide) (nI x) (by show 0 ≤ (nI x).toInt; omega) (by show (nI x).toInt ≤ 9; omega) (by decide)) (fun _ _ => by rw [e]; exact r12_terms_ok (I := (uI (uI I 3 3 (nI x)) 0 14 0)) 3 (nI x) (by omega) (by decide)) ?_
        refine h.u0 ?_ (fun q a b c => by (repeat (first | rw [uI_n (by omega)]))) ⟨rfl, rfl⟩ ⟨rfl, rfl, rfl, rfl, rfl, rfl⟩ rfl
        exact ⟨⟨n, cF, cT, cS, cL, hA.cg rfl (fun _ _ => rfl) (fun j hj => by (repeat (first | rw [uI_n (by decide)] | rw [uI_ss] | rw [uI_sn (by omega)])))⟩, ⟨_, trm_QB hB (by show 0 ≤ x; omega) (by show x ≤ 9; omega)⟩, ⟨nl, Tf, Cf, hC.c0 rfl (by (repeat (first | rw [uI_n (by decide)] | rw [uI_ss] | rw [uI_sn (by omega)]))) (fun j ha hb => by (repeat (first | rw [uI_n (by decide)] | rw [uI_ss] | rw [uI_sn (by omega)]))), hF.cg rfl (by (repeat (first | rw [uI_n (by decide)] | rw [uI_ss] | rw [uI_sn (by omega)])))⟩, ⟨nh, Th, Ch, hD.c0 rfl (by (repeat (first | rw [uI_n (by decide)] | rw [uI_ss] | rw [uI_sn (by omega)]))) (fun j ha hb => by (repeat (first | rw [uI_n (by decide)] | rw [uI_ss] | rw [uI_sn (by omega)])))⟩, ⟨np, lo, wi, hE.cg rfl (fun _ _ => ⟨rfl, rfl⟩) (fun j hj => by (repeat (first | rw [uI_n (by decide)] | rw [uI_ss] | rw [uI_sn (by omega)])))⟩, ⟨ns, ss, sc, hS.cg rfl (fun _ _ => ⟨rfl, rfl⟩) (fun j hj => by (repeat (first | rw [uI_n (by decide)] | rw [uI_ss] | rw [uI_sn (by omega)])))⟩, hT⟩
      · exact PR.no 0 1 (-1) (by decide) h (fun _ _ => r11_terms_no2 3 (by decide) x (by show x.toInt < 0 ∨ 9 < x.toInt; omega) (by decide)) (fun _ _ => r12_terms_no (I := uI (uI I 55 0 (I 55 0 + 1)) 0 14 (-1)) (nI 3) x (by omega) (by decide))
    · skip
      by_cases hx : 1 ≤ x.toInt ∧ x.toInt ≤ 12
      · obtain ⟨x, rfl, hxx⟩ := nI_ex (x := x) (by omega)
        have e : I 3 4 = I 76 (6 + 4) := (hB 4 (by decide)).1.trans (hB 4 (by decide)).2.1.symm
        refine PR.E (I1 := (uI (uI I 3 4 (nI x)) 0 14 0)) (I2 := (uI (uI (uI (uI (uI I 3 4 (nI x)) 0 14 0) 74 0 0) 76 (6 + 4) (nI x)) 74 1 0)) ⟨_, rfl⟩ (fun _ _ => r11_terms_ok 4 (by decide) (nI x) (by show 1 ≤ (nI x).toInt; omega) (by show (nI x).toInt ≤ 12; omega) (by decide)) (fun _ _ => by rw [e]; exact r12_terms_ok (I := (uI (uI I 3 4 (nI x)) 0 14 0)) 4 (nI x) (by omega) (by decide)) ?_
        refine h.u0 ?_ (fun q a b c => by (repeat (first | rw [uI_n (by omega)]))) ⟨rfl, rfl⟩ ⟨rfl, rfl, rfl, rfl, rfl, rfl⟩ rfl
        exact ⟨⟨n, cF, cT, cS, cL, hA.cg rfl (fun _ _ => rfl) (fun j hj => by (repeat (first | rw [uI_n (by decide)] | rw [uI_ss] | rw [uI_sn (by omega)])))⟩, ⟨_, trm_QB hB (by show 1 ≤ x; omega) (by show x ≤ 12; omega)⟩, ⟨nl, Tf, Cf, hC.c0 rfl (by (repeat (first | rw [uI_n (by decide)] | rw [uI_ss] | rw [uI_sn (by omega)]))) (fun j ha hb => by (repeat (first | rw [uI_n (by decide)] | rw [uI_ss] | rw [uI_sn (by omega)]))), hF.cg rfl (by (repeat (first | rw [uI_n (by decide)] | rw [uI_ss] | rw [uI_sn (by omega)])))⟩, ⟨nh, Th, Ch, hD.c0 rfl (by (repeat (first | rw [uI_n (by decide)] | rw [uI_ss] | rw [uI_sn (by omega)]))) (fun j ha hb => by (repeat (first | rw [uI_n (by decide)] | rw [uI_ss] | rw [uI_sn (by omega)])))⟩, ⟨np, lo, wi, hE.cg rfl (fun _ _ => ⟨rfl, rfl⟩) (fun j hj => by (repeat (first | rw [uI_n (by decide)] | rw [uI_ss] | rw [uI_sn (by omega)])))⟩, ⟨ns, ss, sc, hS.cg rfl (fun _ _ => ⟨rfl, rfl⟩) (fun j hj => by (repeat (first | rw [uI_n (by decide)] | rw [uI_ss] | rw [uI_sn (by omega)])))⟩, hT⟩
      · exact PR.no 0 1 (-1) (by decide) h (fun _ _ => r11_terms_no2 4 (by decide) x (by show x.toInt < 1 ∨ 12 < x.toInt; omega) (by decide)) (fun _ _ => r12_terms_no (I := uI (uI I 55 0 (I 55 0 + 1)) 0 14 (-1)) (nI 4) x (by omega) (by decide))
    · skip
      by_cases hx : 0 ≤ x.toInt ∧ x.toInt ≤ 3
      · obtain ⟨x, rfl, hxx⟩ := nI_ex (x := x) (by omega)
        have e : I 3 5 = I 76 (6 + 5) := (hB 5 (by decide)).1.trans (hB 5 (by decide)).2.1.symm
        refine PR.E (I1 := (uI (uI I 3 5 (nI x)) 0 14 0)) (I2 := (uI (uI (uI (uI (uI I 3 5 (nI x)) 0 14 0) 74 0 0) 76 (6 + 5) (nI x)) 74 1 0)) ⟨_, rfl⟩ (fun _ _ => r11_terms_ok 5 (by decide) (nI x) (by show 0 ≤ (nI x).toInt; omega) (by show (nI x).toInt ≤ 3; omega) (by decide)) (fun _ _ => by rw [e]; exact r12_terms_ok (I := (uI (uI I 3 5 (nI x)) 0 14 0)) 5 (nI x) (by omega) (by decide)) ?_
        refine h.u0 ?_ (fun q a b c => by (repeat (first | rw [uI_n (by omega)]))) ⟨rfl, rfl⟩ ⟨rfl, rfl, rfl, rfl, rfl, rfl⟩ rfl
        exact ⟨⟨n, cF, cT, cS, cL, hA.cg rfl (fun _ _ => rfl) (fun j hj => by (repeat (first | rw [uI_n (by decide)] | rw [uI_ss] | rw [uI_sn (by omega)])))⟩, ⟨_, trm_QB hB (by show 0 ≤ x; omega) (by show x ≤ 3; omega)⟩, ⟨nl, Tf, Cf, hC.c0 rfl (by (repeat (first | rw [uI_n (by decide)] | rw [uI_ss] | rw [uI_sn (by omega)]))) (fun j ha hb => by (repeat (first | rw [uI_n (by decide)] | rw [uI_ss] | rw [uI_sn (by omega)]))), hF.cg rfl (by (repeat (first | rw [uI_n (by decide)] | rw [uI_ss] | rw [uI_sn (by omega)])))⟩, ⟨nh, Th, Ch, hD.c0 rfl (by (repeat (first | rw [uI_n (by decide)] | rw [uI_ss] | rw [uI_sn (by omega)]))) (fun j ha hb => by (repeat (first | rw [uI_n (by decide)] | rw [uI_ss] | rw [uI_sn (by omega)])))⟩, ⟨np, lo, wi, hE.cg rfl (fun _ _ => ⟨rfl, rfl⟩) (fun j hj => by (repeat (first | rw [uI_n (by decide)] | rw [uI_ss] | rw [uI_sn (by omega)])))⟩, ⟨ns, ss, sc, hS.cg rfl (fun _ _ => ⟨rfl, rfl⟩) (fun j hj => by (repeat (first | rw [uI_n (by decide)] | rw [uI_ss] | rw [uI_sn (by omega)])))⟩, hT⟩
      · exact PR.no 0 1 (-1) (by decide) h (fun _ _ => r11_terms_no2 5 (by decide) x (by show x.toInt < 0 ∨ 3 < x.toInt; omega) (by decide)) (fun _ _ => r12_terms_no (I := uI (uI I 55 0 (I 55 0 + 1)) 0 14 (-1)) (nI 5) x (by omega) (by decide))
    · skip
      by_cases hx : 0 ≤ x.toInt ∧ x.toInt ≤ 99
      · obtain ⟨x, rfl, hxx⟩ := nI_ex (x := x) (by omega)
        have e : I 3 6 = I 76 (6 + 6) := (hB 6 (by decide)).1.trans (hB 6 (by decide)).2.1.symm
        refine PR.E (I1 := (uI (uI I 3 6 (nI x)) 0 14 0)) (I2 := (uI (uI (uI (uI (uI I 3 6 (nI x)) 0 14 0) 74 0 0) 76 (6 + 6) (nI x)) 74 1 0)) ⟨_, rfl⟩ (fun _ _ => r11_terms_ok 6 (by decide) (nI x) (by show 0 ≤ (nI x).toInt; omega) (by show (nI x).toInt ≤ 99; omega) (by decide)) (fun _ _ => by rw [e]; exact r12_terms_ok (I := (uI (uI I 3 6 (nI x)) 0 14 0)) 6 (nI x) (by omega) (by decide)) ?_
        refine h.u0 ?_ (fun q a b c => by (repeat (first | rw [uI_n (by omega)]))) ⟨rfl, rfl⟩ ⟨rfl, rfl, rfl, rfl, rfl, rfl⟩ rfl
        exact ⟨⟨n, cF, cT, cS, cL, hA.cg rfl (fun _ _ => rfl) (fun j hj => by (repeat (first | rw [uI_n (by decide)] | rw [uI_ss] | rw [uI_sn (by omega)])))⟩, ⟨_, trm_QB hB (by show 0 ≤ x; omega) (by show x ≤ 99; omega)⟩, ⟨nl, Tf, Cf, hC.c0 rfl (by (repeat (first | rw [uI_n (by decide)] | rw [uI_ss] | rw [uI_sn (by omega)]))) (fun j ha hb => by (repeat (first | rw [uI_n (by decide)] | rw [uI_ss] | rw [uI_sn (by omega)]))), hF.cg rfl (by (repeat (first | rw [uI_n (by decide)] | rw [uI_ss] | rw [uI_sn (by omega)])))⟩, ⟨nh, Th, Ch, hD.c0 rfl (by (repeat (first | rw [uI_n (by decide)] | rw [uI_ss] | rw [uI_sn (by omega)]))) (fun j ha hb => by (repeat (first | rw [uI_n (by decide)] | rw [uI_ss] | rw [uI_sn (by omega)])))⟩, ⟨np, lo, wi, hE.cg rfl (fun _ _ => ⟨rfl, rfl⟩) (fun j hj => by (repeat (first | rw [uI_n (by decide)] | rw [uI_ss] | rw [uI_sn (by omega)])))⟩, ⟨ns, ss, sc, hS.cg rfl (fun _ _ => ⟨rfl, rfl⟩) (fun j hj => by (repeat (first | rw [uI_n (by decide)] | rw [uI_ss] | rw [uI_sn (by omega)])))⟩, hT⟩
      · exact PR.no 0 1 (-1) (by decide) h (fun _ _ => r11_terms_no2 6 (by decide) x (by show x.toInt < 0 ∨ 99 < x.toInt; omega) (by decide)) (fun _ _ => r12_terms_no (I := uI (uI I 55 0 (I 55 0 + 1)) 0 14 (-1)) (nI 6) x (by omega) (by decide))
    · skip
      by_cases hx : 0 ≤ x.toInt ∧ x.toInt ≤ 9
      · obtain ⟨x, rfl, hxx⟩ := nI_ex (x := x) (by omega)
        have e : I 3 7 = I 76 (6 + 7) := (hB 7 (by decide)).1.trans (hB 7 (by decide)).2.1.symm
        refine PR.E (I1 := (uI (uI I 3 7 (nI x)) 0 14 0)) (I2 := (uI (uI (uI (uI (uI I 3 7 (nI x)) 0 14 0) 74 0 0) 76 (6 + 7) (nI x)) 74 1 0)) ⟨_, rfl⟩ (fun _ _ => r11_terms_ok 7 (by decide) (nI x) (by show 0 ≤ (nI x).toInt; omega) (by show (nI x).toInt ≤ 9; omega) (by decide)) (fun _ _ => by rw [e]; exact r12_terms_ok (I := (uI (uI I 3 7 (nI x)) 0 14 0)) 7 (nI x) (by omega) (by decide)) ?_
        refine h.u0 ?_ (fun q a b c => by (repeat (first | rw [uI_n (by omega)]))) ⟨rfl, rfl⟩ ⟨rfl, rfl, rfl, rfl, rfl, rfl⟩ rfl
        exact ⟨⟨n, cF, cT, cS, cL, hA.cg rfl (fun _ _ => rfl) (fun j hj => by (repeat (first | rw [uI_n (by decide)] | rw [uI_ss] | rw [uI_sn (by omega)])))⟩, ⟨_, trm_QB hB (by show 0 ≤ x; omega) (by show x ≤ 9; omega)⟩, ⟨nl, Tf, Cf, hC.c0 rfl (by (repeat (first | rw [uI_n (by decide)] | rw [uI_ss] | rw [uI_sn (by omega)]))) (fun j ha hb => by (repeat (first | rw [uI_n (by decide)] | rw [uI_ss] | rw [uI_sn (by omega)]))), hF.cg rfl (by (repeat (first | rw [uI_n (by decide)] | rw [uI_ss] | rw [uI_sn (by omega)])))⟩, ⟨nh, Th, Ch, hD.c0 rfl (by (repeat (first | rw [uI_n (by decide)] | rw [uI_ss] | rw [uI_sn (by omega)]))) (fun j ha hb => by (repeat (first | rw [uI_n (by decide)] | rw [uI_ss] | rw [uI_sn (by omega)])))⟩, ⟨np, lo, wi, hE.cg rfl (fun _ _ => ⟨rfl, rfl⟩) (fun j hj => by (repeat (first | rw [uI_n (by decide)] | rw [uI_ss] | rw [uI_sn (by omega)])))⟩, ⟨ns, ss, sc, hS.cg rfl (fun _ _ => ⟨rfl, rfl⟩) (fun j hj => by (repeat (first | rw [uI_n (by decide)] | rw [uI_ss] | rw [uI_sn (by omega)])))⟩, hT⟩
      · exact PR.no 0 1 (-1) (by decide) h (fun _ _ => r11_terms_no2 7 (by decide) x (by show x.toInt < 0 ∨ 9 < x.toInt; omega) (by decide)) (fun _ _ => r12_terms_no (I := uI (uI I 55 0 (I 55 0 + 1)) 0 14 (-1)) (nI 7) x (by omega) (by decide))
  · exact PR.no 0 1 (-1) (by decide) h (fun _ _ => r11_terms_no1 w x (by omega) (by decide)) (fun _ _ => r12_terms_no (I := uI (uI I 55 0 (I 55 0 + 1)) 0 14 (-1)) w x (by omega) (by decide))
set_option maxHeartbeats 1000000 in
theorem p_force {I : wI} {L : wL} {R : wR} {dy : cH} (h : REL I L R dy) (x : Int32) : PR kdI m11_force m12_force 0 0 [.int x] I L R dy := by
  obtain ⟨⟨n, cF, cT, cS, cL, hA⟩, ⟨tm, hB⟩, ⟨nl, Tf, Cf, hC, hF⟩, ⟨nh, Th, Ch, hD⟩, ⟨np, lo, wi, hE⟩, ⟨ns, ss, sc, hS⟩, hT⟩ := h.1
  by_cases hx : x.toInt = -1 ∨ 0 ≤ x.toInt ∧ x.toInt < nl
  · have hq : x = -1 ∨ ∃ a, a < nl ∧ x = nI a := by
      rcases hx with hx | hx
      · exact Or.inl (i_m1 hx)
      · obtain ⟨a, rfl, ha⟩ := nI_ex hx.1
        exact Or.inr ⟨a, by omega, rfl⟩
    refine PR.E (I1 := (uI (uI I 1 5 x) 0 14 0)) (I2 := (uI (uI (uI (uI (uI I 1 5 x) 0 14 0) 74 0 0) 76 5 x) 74 1 0)) ⟨_, rfl⟩ (fun _ _ => r11_force_ok x nl hC.1 hC.2.2.1 hx (by decide)) (fun _ _ => by rw [hF.1]; exact r12_force_ok (I := (uI (uI I 1 5 x) 0 14 0)) x nl hC.2.1 hC.2.2.1 hx (by decide)) ?_
    refine h.u0 ?_ (fun q a b c => by (repeat (first | rw [uI_n (by omega)]))) ⟨rfl, rfl⟩ ⟨rfl, rfl, rfl, rfl, rfl, rfl⟩ rfl
    exact ⟨⟨n, cF, cT, cS, cL, hA.cg rfl (fun _ _ => rfl) (fun j hj => by (repeat (first | rw [uI_n (by decide)] | rw [uI_ss] | rw [uI_sn (by omega)])))⟩, ⟨tm, hB.cg (fun _ _ => rfl) (fun j ha hb => by (repeat (first | rw [uI_n (by decide)] | rw [uI_ss] | rw [uI_sn (by omega)])))⟩, ⟨nl, Tf, Cf, hC.c0 rfl rfl (fun j ha hb => by (repeat (first | rw [uI_n (by decide)] | rw [uI_ss] | rw [uI_sn (by omega)]))), ⟨rfl, hq⟩⟩, ⟨nh, Th, Ch, hD.c0 rfl (by (repeat (first | rw [uI_n (by decide)] | rw [uI_ss] | rw [uI_sn (by omega)]))) (fun j ha hb => by (repeat (first | rw [uI_n (by decide)] | rw [uI_ss] | rw [uI_sn (by omega)])))⟩, ⟨np, lo, wi, hE.cg rfl (fun _ _ => ⟨rfl, rfl⟩) (fun j hj => by (repeat (first | rw [uI_n (by decide)] | rw [uI_ss] | rw [uI_sn (by omega)])))⟩, ⟨ns, ss, sc, hS.cg rfl (fun _ _ => ⟨rfl, rfl⟩) (fun j hj => by (repeat (first | rw [uI_n (by decide)] | rw [uI_ss] | rw [uI_sn (by omega)])))⟩, hT⟩
  · exact PR.no 1 2 (-2) (by decide) h (fun _ _ => r11_force_no x nl hC.1 hC.2.2.1 hx (by decide)) (fun _ _ => r12_force_no (I := uI (uI I 55 1 (I 55 1 + 1)) 0 14 (-2)) x nl hC.2.1 hC.2.2.1 hx (by decide))
set_option maxHeartbeats 1000000 in
theorem plc_QE {I : wI} {np a b : Nat} {lo wi : Nat → Nat} (hE : QE I 1 (I 76) np lo wi) (hn : np < 6) (h1 : a < b) (h2 : b ≤ 99) : QE (uI (uI (uI (uI (uI (uI (uI (uI (uI I 6 np (nI a)) 7 np (nI b)) 1 8 (nI (np + 1))) 0 14 0) 74 0 0) 76 (38 + 2 * np) (nI a)) 76 (38 + 2 * np + 1) (nI b)) 76 3 (nI (np + 1))) 74 1 0) 1 ((uI (uI (uI (uI (uI (uI (uI (uI (uI I 6 np (nI a)) 7 np (nI b)) 1 8 (nI (np + 1))) 0 14 0) 74 0 0) 76 (38 + 2 * np) (nI a)) 76 (38 + 2 * np + 1) (nI b)) 76 3 (nI (np + 1))) 74 1 0) 76) (np + 1) (fun q => if q = np then a else lo q) (fun q => if q = np then b - a else wi q) := by
  obtain ⟨a1, a2, a3, a4⟩ := hE
  refine ⟨rfl, rfl, by omega, fun q hq => ?_⟩
  by_cases e : q = np
  · subst e
    dsimp only
    rw [if_pos rfl, if_pos rfl, show a + (b - a) = b by omega]
    refine ⟨?_, ?_, ?_, ?_, by omega, h2⟩
    · show (uI (uI (uI (uI (uI (uI (uI (uI (uI I 6 q (nI a)) 7 q (nI b)) 1 8 (nI (q + 1))) 0 14 0) 74 0 0) 76 (38 + 2 * q) (nI a)) 76 (38 + 2 * q + 1) (nI b)) 76 3 (nI (q + 1))) 74 1 0) 6 q = _
      (repeat (first | rw [uI_n (by decide)] | rw [uI_ss] | rw [uI_sn (by omega)]))
    · show (uI (uI (uI (uI (uI (uI (uI (uI (uI I 6 q (nI a)) 7 q (nI b)) 1 8 (nI (q + 1))) 0 14 0) 74 0 0) 76 (38 + 2 * q) (nI a)) 76 (38 + 2 * q + 1) (nI b)) 76 3 (nI (q + 1))) 74 1 0) 7 q = _
      (repeat (first | rw [uI_n (by decide)] | rw [uI_ss] | rw [uI_sn (by omega)]))
    · (repeat (first | rw [uI_n (by decide)] | rw [uI_ss] | rw [uI_sn (by omega)]))
    · (repeat (first | rw [uI_n (by decide)] | rw [uI_ss] | rw [uI_sn (by omega)]))
  · obtain ⟨b1, b2, b3, b4, b5, b6⟩ := a4 q (by omega)
    dsimp only
    rw [if_neg e, if_neg e]
    refine ⟨?_, ?_, ?_, ?_, b5, b6⟩
    · show (uI (uI (uI (uI (uI (uI (uI (uI (uI I 6 np (nI a)) 7 np (nI b)) 1 8 (nI (np + 1))) 0 14 0) 74 0 0) 76 (38 + 2 * np) (nI a)) 76 (38 + 2 * np + 1) (nI b)) 76 3 (nI (np + 1))) 74 1 0) 6 q = _
      (repeat (first | rw [uI_n (by decide)] | rw [uI_ss] | rw [uI_sn (by omega)]))
      exact b1
    · show (uI (uI (uI (uI (uI (uI (uI (uI (uI I 6 np (nI a)) 7 np (nI b)) 1 8 (nI (np + 1))) 0 14 0) 74 0 0) 76 (38 + 2 * np) (nI a)) 76 (38 + 2 * np + 1) (nI b)) 76 3 (nI (np + 1))) 74 1 0) 7 q = _
      (repeat (first | rw [uI_n (by decide)] | rw [uI_ss] | rw [uI_sn (by omega)]))
      exact b2
    · (repeat (first | rw [uI_n (by decide)] | rw [uI_ss] | rw [uI_sn (by omega)]))
      exact b3
    · (repeat (first | rw [uI_n (by decide)] | rw [uI_ss] | rw [uI_sn (by omega)]))
      exact b4
set_option maxHeartbeats 1000000 in
theorem p_place {I : wI} {L : wL} {R : wR} {dy : cH} (h : REL I L R dy) (a : Int32) (b : Int32) : PR kdI m11_place m12_place 0 0 [.int a, .int b] I L R dy := by
  obtain ⟨⟨n, cF, cT, cS, cL, hA⟩, ⟨tm, hB⟩, ⟨nl, Tf, Cf, hC, hF⟩, ⟨nh, Th, Ch, hD⟩, ⟨np, lo, wi, hE⟩, ⟨ns, ss, sc, hS⟩, hT⟩ := h.1
  by_cases hb : 0 ≤ a.toInt ∧ a.toInt < b.toInt ∧ b.toInt ≤ 99
  · obtain ⟨a, rfl, ha⟩ := nI_ex hb.1
    obtain ⟨b, rfl, hbb⟩ := nI_ex (x := b) (by omega)
    by_cases hn : np = 6
    · subst hn
      exact PR.no 3 5 (-5) (by decide) h (fun _ _ => r11_place_full (nI a) (nI b) hb hE.1 (by decide)) (fun _ _ => r12_place_full (I := uI (uI I 55 3 (I 55 3 + 1)) 0 14 (-5)) (nI a) (nI b) hb hE.2.1 (by decide))
    · have hn6 : np < 6 := by have := hE.2.2.1; omega
      refine PR.E (I1 := (uI (uI (uI (uI I 6 np (nI a)) 7 np (nI b)) 1 8 (nI (np + 1))) 0 14 0)) (I2 := (uI (uI (uI (uI (uI (uI (uI (uI (uI I 6 np (nI a)) 7 np (nI b)) 1 8 (nI (np + 1))) 0 14 0) 74 0 0) 76 (38 + 2 * np) (nI a)) 76 (38 + 2 * np + 1) (nI b)) 76 3 (nI (np + 1))) 74 1 0)) ⟨_, rfl⟩ (fun _ _ => r11_place_ok (nI a) (nI b) hb np hE.1 hn6 (by decide)) (fun _ _ => r12_place_ok (I := (uI (uI (uI (uI I 6 np (nI a)) 7 np (nI b)) 1 8 (nI (np + 1))) 0 14 0)) (nI a) (nI b) hb np hE.2.1 hn6 (by decide)) ?_
      refine h.u0 ?_ (fun q a b c => by (repeat (first | rw [uI_n (by omega)]))) ⟨rfl, rfl⟩ ⟨rfl, rfl, rfl, rfl, rfl, rfl⟩ rfl
      exact ⟨⟨n, cF, cT, cS, cL, hA.cg rfl (fun _ _ => rfl) (fun j hj => by (repeat (first | rw [uI_n (by decide)] | rw [uI_ss] | rw [uI_sn (by omega)])))⟩, ⟨tm, hB.cg (fun _ _ => rfl) (fun j ha hb => by (repeat (first | rw [uI_n (by decide)] | rw [uI_ss] | rw [uI_sn (by omega)])))⟩, ⟨nl, Tf, Cf, hC.c0 rfl (by (repeat (first | rw [uI_n (by decide)] | rw [uI_ss] | rw [uI_sn (by omega)]))) (fun j ha hb => by (repeat (first | rw [uI_n (by decide)] | rw [uI_ss] | rw [uI_sn (by omega)]))), hF.cg rfl (by (repeat (first | rw [uI_n (by decide)] | rw [uI_ss] | rw [uI_sn (by omega)])))⟩, ⟨nh, Th, Ch, hD.c0 rfl (by (repeat (first | rw [uI_n (by decide)] | rw [uI_ss] | rw [uI_sn (by omega)]))) (fun j ha hb => by (repeat (first | rw [uI_n (by decide)] | rw [uI_ss] | rw [uI_sn (by omega)])))⟩, ⟨np + 1, _, _, plc_QE hE hn6 (by omega) (by omega)⟩, ⟨ns, ss, sc, hS.cg rfl (fun _ _ => ⟨rfl, rfl⟩) (fun j hj => by (repeat (first | rw [uI_n (by decide)] | rw [uI_ss] | rw [uI_sn (by omega)])))⟩, hT⟩
  · exact PR.no 0 1 (-1) (by decide) h (fun _ _ => r11_place_no a b hb (by decide)) (fun _ _ => r12_place_no (I := uI (uI I 55 0 (I 55 0 + 1)) 0 14 (-1)) a b hb (by decide))
set_option maxHeartbeats 1000000 in
theorem p_clear {I : wI} {L : wL} {R : wR} {dy : cH} (h : REL I L R dy)  : PR kdI m11_clear m12_clear 0 0 [] I L R dy := by
  obtain ⟨⟨n, cF, cT, cS, cL, hA⟩, ⟨tm, hB⟩, ⟨nl, Tf, Cf, hC, hF⟩, ⟨nh, Th, Ch, hD⟩, ⟨np, lo, wi, hE⟩, ⟨ns, ss, sc, hS⟩, hT⟩ := h.1
  have e : I 1 8 = I 76 3 := hE.1.trans hE.2.1.symm
  refine PR.E (I1 := uI I 1 8 0) (I2 := uI (uI (uI I 1 8 0) 74 0 0) 76 3 0) ⟨_, rfl⟩ (fun _ _ => r11_clear (by decide)) (fun _ _ => by rw [e]; exact r12_clear (I := uI I 1 8 0) (by decide)) ?_
  refine h.u0 ?_ (fun q a b c => by (repeat (first | rw [uI_n (by omega)]))) ⟨rfl, rfl⟩ ⟨rfl, rfl, rfl, rfl, rfl, rfl⟩ h.2.2.2.2.2.2.1
  exact ⟨⟨n, cF, cT, cS, cL, hA.cg rfl (fun _ _ => rfl) (fun j hj => by (repeat (first | rw [uI_n (by decide)] | rw [uI_ss] | rw [uI_sn (by omega)])))⟩, ⟨tm, hB.cg (fun _ _ => rfl) (fun j ha hb => by (repeat (first | rw [uI_n (by decide)] | rw [uI_ss] | rw [uI_sn (by omega)])))⟩, ⟨nl, Tf, Cf, hC.c0 rfl (by (repeat (first | rw [uI_n (by decide)] | rw [uI_ss] | rw [uI_sn (by omega)]))) (fun j ha hb => by (repeat (first | rw [uI_n (by decide)] | rw [uI_ss] | rw [uI_sn (by omega)]))), hF.cg rfl (by (repeat (first | rw [uI_n (by decide)] | rw [uI_ss] | rw [uI_sn (by omega)])))⟩, ⟨nh, Th, Ch, hD.c0 rfl (by (repeat (first | rw [uI_n (by decide)] | rw [uI_ss] | rw [uI_sn (by omega)]))) (fun j ha hb => by (repeat (first | rw [uI_n (by decide)] | rw [uI_ss] | rw [uI_sn (by omega)])))⟩, ⟨0, lo, wi, rfl, rfl, by decide, fun q hq => absurd hq (Nat.not_lt_zero _)⟩, ⟨ns, ss, sc, hS.cg rfl (fun _ _ => ⟨rfl, rfl⟩) (fun j hj => by (repeat (first | rw [uI_n (by decide)] | rw [uI_ss] | rw [uI_sn (by omega)])))⟩, hT⟩
set_option maxHeartbeats 1000000 in
theorem slp_QS {I : wI} {ns x w : Nat} {ss sc : Nat → Nat} (hS : QS I 1 (I 76) ns ss sc) (hn : ns < 12) (h1 : x < 12) (h2 : w ≤ 1) (h0 : sO ss sc x ns 0 = 0) : QS (uI (uI (uI (uI (uI (uI (uI (uI (uI I 8 ns (nI x)) 9 ns (nI w)) 1 11 (nI (ns + 1))) 0 14 0) 74 0 0) 76 (50 + 2 * ns) (nI x)) 76 (50 + 2 * ns + 1) (nI w)) 76 4 (nI (ns + 1))) 74 1 0) 1 ((uI (uI (uI (uI (uI (uI (uI (uI (uI I 8 ns (nI x)) 9 ns (nI w)) 1 11 (nI (ns + 1))) 0 14 0) 74 0 0) 76 (50 + 2 * ns) (nI x)) 76 (50 + 2 * ns + 1) (nI w)) 76 4 (nI (ns + 1))) 74 1 0) 76) (ns + 1) (fun q => if q = ns then x else ss q) (fun q => if q = ns then w else sc q) := by
  obtain ⟨a1, a2, a3, a4, a5⟩ := hS
  refine ⟨rfl, rfl, by omega, fun q hq => ?_, fun i j hij hj => ?_⟩
  · by_cases e : q = ns
    · subst e
      dsimp only
      rw [if_pos rfl, if_pos rfl]
      refine ⟨?_, ?_, ?_, ?_, h1, h2⟩
      · show (uI (uI (uI (uI (uI (uI (uI (uI (uI I 8 q (nI x)) 9 q (nI w)) 1 11 (nI (q + 1))) 0 14 0) 74 0 0) 76 (50 + 2 * q) (nI x)) 76 (50 + 2 * q + 1) (nI w)) 76 4 (nI (q + 1))) 74 1 0) 8 q = _
        (repeat (first | rw [uI_n (by decide)] | rw [uI_ss] | rw [uI_sn (by omega)]))
      · show (uI (uI (uI (uI (uI (uI (uI (uI (uI I 8 q (nI x)) 9 q (nI w)) 1 11 (nI (q + 1))) 0 14 0) 74 0 0) 76 (50 + 2 * q) (nI x)) 76 (50 + 2 * q + 1) (nI w)) 76 4 (nI (q + 1))) 74 1 0) 9 q = _
        (repeat (first | rw [uI_n (by decide)] | rw [uI_ss] | rw [uI_sn (by omega)]))
      · (repeat (first | rw [uI_n (by decide)] | rw [uI_ss] | rw [uI_sn (by omega)]))
      · (repeat (first | rw [uI_n (by decide)] | rw [uI_ss] | rw [uI_sn (by omega)]))
    · obtain ⟨b1, b2, b3, b4, b5, b6⟩ := a4 q (by omega)
      dsimp only
      rw [if_neg e, if_neg e]
      refine ⟨?_, ?_, ?_, ?_, b5, b6⟩
      · show (uI (uI (uI (uI (uI (uI (uI (uI (uI I 8 ns (nI x)) 9 ns (nI w)) 1 11 (nI (ns + 1))) 0 14 0) 74 0 0) 76 (50 + 2 * ns) (nI x)) 76 (50 + 2 * ns + 1) (nI w)) 76 4 (nI (ns + 1))) 74 1 0) 8 q = _
        (repeat (first | rw [uI_n (by decide)] | rw [uI_ss] | rw [uI_sn (by omega)]))
        exact b1
      · show (uI (uI (uI (uI (uI (uI (uI (uI (uI I 8 ns (nI x)) 9 ns (nI w)) 1 11 (nI (ns + 1))) 0 14 0) 74 0 0) 76 (50 + 2 * ns) (nI x)) 76 (50 + 2 * ns + 1) (nI w)) 76 4 (nI (ns + 1))) 74 1 0) 9 q = _
        (repeat (first | rw [uI_n (by decide)] | rw [uI_ss] | rw [uI_sn (by omega)]))
        exact b2
      · (repeat (first | rw [uI_n (by decide)] | rw [uI_ss] | rw [uI_sn (by omega)]))
        exact b3
      · (repeat (first | rw [uI_n (by decide)] | rw [uI_ss] | rw [uI_sn (by omega)]))
        exact b4
  · have hi : i ≠ ns := by omega
    show (if i = ns then x else ss i) ≠ (if j = ns then x else ss j)
    rw [if_neg hi]
    by_cases ej : j = ns
    · rw [if_pos ej]
      intro z
      have := sO_y (ss := ss) (sc := sc) z (show i < ns by omega) a5 ns 0 (Nat.zero_le _) (by omega)
      omega
    · rw [if_neg ej]; exact a5 i j hij (by omega)
set_option maxHeartbeats 1000000 in
theorem p_slip {I : wI} {L : wL} {R : wR} {dy : cH} (h : REL I L R dy) (x : Int32) (w : Int32) : PR kdI m11_slip m12_slip 0 0 [.int x, .int w] I L R dy := by
  obtain ⟨⟨n, cF, cT, cS, cL, hA⟩, ⟨tm, hB⟩, ⟨nl, Tf, Cf, hC, hF⟩, ⟨nh, Th, Ch, hD⟩, ⟨np, lo, wi, hE⟩, ⟨ns, ss, sc, hS⟩, hT⟩ := h.1
  obtain ⟨ns', ss', sc', hSL, hSM⟩ : ∃ n ss sc, CSL I n ss sc ∧ SLP I n ss sc := h.sl
  clear hSL hSM
  have hSL : CSL I ns ss sc := ⟨hS.1, hS.2.2.1, fun q hq => by obtain ⟨a1, a2, a3, a4, a5, a6⟩ := hS.2.2.2.1 q hq; exact ⟨a1, a5, a2, a6⟩, hS.2.2.2.2⟩
  have hSM : SLP I ns ss sc := ⟨hS.2.1, hS.2.2.1, fun q hq => by obtain ⟨a1, a2, a3, a4, a5, a6⟩ := hS.2.2.2.1 q hq; exact ⟨a3, a5, a4, a6⟩⟩
  by_cases hb : (0 ≤ x.toInt ∧ x.toInt < 12) ∧ 0 ≤ w.toInt ∧ w.toInt ≤ 1
  · obtain ⟨x, rfl, hx⟩ := nI_ex hb.1.1
    obtain ⟨w, rfl, hw⟩ := nI_ex hb.2.1
    by_cases h0 : sO ss sc x ns 0 = 0
    · have hn12 : ns < 12 := slip_room hS.2.2.2.2 (fun k hk => (hS.2.2.2.1 k hk).2.2.2.2.1) (by omega) h0
      refine PR.E (I1 := (uI (uI (uI (uI I 8 ns (nI x)) 9 ns (nI w)) 1 11 (nI (ns + 1))) 0 14 0)) (I2 := (uI (uI (uI (uI (uI (uI (uI (uI (uI I 8 ns (nI x)) 9 ns (nI w)) 1 11 (nI (ns + 1))) 0 14 0) 74 0 0) 76 (50 + 2 * ns) (nI x)) 76 (50 + 2 * ns + 1) (nI w)) 76 4 (nI (ns + 1))) 74 1 0)) ⟨_, rfl⟩ (fun _ _ => r11_slip_ok ns ss sc hSL x w (by omega) (by omega) h0 (by decide)) (fun _ _ => r12_slip_ok (I := (uI (uI (uI (uI I 8 ns (nI x)) 9 ns (nI w)) 1 11 (nI (ns + 1))) 0 14 0)) ns ss sc (hSM.of rfl) x w (by omega) (by omega) h0 (by decide)) ?_
      refine h.u0 ?_ (fun q a b c => by (repeat (first | rw [uI_n (by omega)]))) ⟨rfl, rfl⟩ ⟨rfl, rfl, rfl, rfl, rfl, rfl⟩ rfl
      exact ⟨⟨n, cF, cT, cS, cL, hA.cg rfl (fun _ _ => rfl) (fun j hj => by (repeat (first | rw [uI_n (by decide)] | rw [uI_ss] | rw [uI_sn (by omega)])))⟩, ⟨tm, hB.cg (fun _ _ => rfl) (fun j ha hb => by (repeat (first | rw [uI_n (by decide)] | rw [uI_ss] | rw [uI_sn (by omega)])))⟩, ⟨nl, Tf, Cf, hC.c0 rfl (by (repeat (first | rw [uI_n (by decide)] | rw [uI_ss] | rw [uI_sn (by omega)]))) (fun j ha hb => by (repeat (first | rw [uI_n (by decide)] | rw [uI_ss] | rw [uI_sn (by omega)]))), hF.cg rfl (by (repeat (first | rw [uI_n (by decide)] | rw [uI_ss] | rw [uI_sn (by omega)])))⟩, ⟨nh, Th, Ch, hD.c0 rfl (by (repeat (first | rw [uI_n (by decide)] | rw [uI_ss] | rw [uI_sn (by omega)]))) (fun j ha hb => by (repeat (first | rw [uI_n (by decide)] | rw [uI_ss] | rw [uI_sn (by omega)])))⟩, ⟨np, lo, wi, hE.cg rfl (fun _ _ => ⟨rfl, rfl⟩) (fun j hj => by (repeat (first | rw [uI_n (by decide)] | rw [uI_ss] | rw [uI_sn (by omega)])))⟩, ⟨ns + 1, _, _, slp_QS hS hn12 (by omega) (by omega) h0⟩, hT⟩
    · exact PR.no 2 3 (-3) (by decide) h (fun _ _ => r11_slip_no3 ns ss sc hSL x w (by omega) (by omega) h0 (by decide)) (fun _ _ => r12_slip_no3 (I := uI (uI I 55 2 (I 55 2 + 1)) 0 14 (-3)) ns ss sc (hSM.of rfl) x w (by omega) (by omega) h0 (by decide))
  · exact PR.no 0 1 (-1) (by decide) h (fun _ _ => r11_slip_no1 x w hb (by decide)) (fun _ _ => r12_slip_no1 (I := uI (uI I 55 0 (I 55 0 + 1)) 0 14 (-1)) x w hb (by decide))
set_option maxHeartbeats 1000000 in
theorem p_undo {I : wI} {L : wL} {R : wR} {dy : cH} (h : REL I L R dy)  : PR kdI m11_undo m12_undo 0 0 [] I L R dy := by
  obtain ⟨⟨n, cF, cT, cS, cL, hA⟩, ⟨tm, hB⟩, ⟨nl, Tf, Cf, hC, hF⟩, ⟨nh, Th, Ch, hD⟩, ⟨np, lo, wi, hE⟩, ⟨ns, ss, sc, hS⟩, hT⟩ := h.1
  rcases ns with _ | m
  · exact PR.no 2 3 (-3) (by decide) h (fun _ _ => r11_undo_no hS.1 (by decide)) (fun _ _ => r12_undo_no (I := uI (uI I 55 2 (I 55 2 + 1)) 0 14 (-3)) hS.2.1 (by decide))
  · have hm : m < 12 := by have := hS.2.2.1; omega
    obtain ⟨b1, b2, b3, b4, b5, b6⟩ := hS.2.2.2.1 m (Nat.lt_succ_self m)
    have e : I 8 m = I 76 (50 + 2 * m) := b1.trans b3.symm
    refine PR.E (I1 := (uI (uI I 1 11 (nI m)) 0 14 0)) (I2 := (uI (uI (uI (uI (uI I 1 11 (nI m)) 0 14 0) 74 0 0) 76 4 (nI m)) 74 1 0)) ⟨_, rfl⟩ (fun _ _ => r11_undo_ok m hS.1 hm (by decide)) (fun _ _ => by rw [e]; exact r12_undo_ok (I := (uI (uI I 1 11 (nI m)) 0 14 0)) m hS.2.1 hm (by show 0 ≤ (I 76 (50 + 2 * m)).toInt; rw [b3, nI_ti (by omega)]; omega) (by decide)) ?_
    refine h.u0 ?_ (fun q a b c => by (repeat (first | rw [uI_n (by omega)]))) ⟨rfl, rfl⟩ ⟨rfl, rfl, rfl, rfl, rfl, rfl⟩ rfl
    exact ⟨⟨n, cF, cT, cS, cL, hA.cg rfl (fun _ _ => rfl) (fun j hj => by (repeat (first | rw [uI_n (by decide)] | rw [uI_ss] | rw [uI_sn (by omega)])))⟩, ⟨tm, hB.cg (fun _ _ => rfl) (fun j ha hb => by (repeat (first | rw [uI_n (by decide)] | rw [uI_ss] | rw [uI_sn (by omega)])))⟩, ⟨nl, Tf, Cf, hC.c0 rfl (by (repeat (first | rw [uI_n (by decide)] | rw [uI_ss] | rw [uI_sn (by omega)]))) (fun j ha hb => by (repeat (first | rw [uI_n (by decide)] | rw [uI_ss] | rw [uI_sn (by omega)]))), hF.cg rfl (by (repeat (first | rw [uI_n (by decide)] | rw [uI_ss] | rw [uI_sn (by omega)])))⟩, ⟨nh, Th, Ch, hD.c0 rfl (by (repeat (first | rw [uI_n (by decide)] | rw [uI_ss] | rw [uI_sn (by omega)]))) (fun j ha hb => by (repeat (first | rw [uI_n (by decide)] | rw [uI_ss] | rw [uI_sn (by omega)])))⟩, ⟨np, lo, wi, hE.cg rfl (fun _ _ => ⟨rfl, rfl⟩) (fun j hj => by (repeat (first | rw [uI_n (by decide)] | rw [uI_ss] | rw [uI_sn (by omega)])))⟩, ⟨m, ss, sc, rfl, rfl, by omega, fun q hq => by obtain ⟨c1, c2, c3, c4, c5⟩ := hS.2.2.2.1 q (by omega); exact ⟨c1, c2, by (repeat (first | rw [uI_n (by decide)] | rw [uI_ss] | rw [uI_sn (by omega)])); exact c3, by (repeat (first | rw [uI_n (by decide)] | rw [uI_ss] | rw [uI_sn (by omega)])); exact c4, c5⟩, fun i j hij hj => hS.2.2.2.2 i j hij (by omega)⟩, hT⟩
