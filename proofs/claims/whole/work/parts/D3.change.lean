section RNO
variable {I I2 : wI} {L : wL} {R R2 : wR} {dy dz : cH}
/-- a refusal -/
theorem REL.no {i k : Nat} {s : Int32} (hik : (i = 0 ∧ k = 1) ∨ (i = 1 ∧ k = 2) ∨ (i = 2 ∧ k = 3) ∨ (i = 3 ∧ k = 5) ∨ (i = 4 ∧ k = 6)) (h : REL I L R dy) : REL (uI (uI (uI (uI (uI I 55 i (I 55 i + 1)) 0 14 s) 74 0 0) 74 1 s) 75 k ((uI (uI I 55 i (I 55 i + 1)) 0 14 s) 75 k + 1)) L R dy := by
  obtain ⟨h1, h2, h3, h4, h5, h6, h7, h8, h9⟩ := h
  have z1 := h1.cp (dz := []) (I2 := uI (uI (uI (uI (uI I 55 i (I 55 i + 1)) 0 14 s) 74 0 0) 74 1 s) 75 k ((uI (uI I 55 i (I 55 i + 1)) 0 14 s) 75 k + 1)) (R2 := R) (p := 1) (q := 1) (g2 := I 76) (SEq.same (fun q a b => by rw [uI_n (by omega), uI_n (by omega), uI_n (by omega), uI_n (by omega), uI_n (by omega)]) (fun _ _ _ => rfl)) (fun _ _ => rfl)
  have z2 := h2.fr (dz := []) (I2 := uI (uI (uI (uI (uI I 55 i (I 55 i + 1)) 0 14 s) 74 0 0) 74 1 s) 75 k ((uI (uI I 55 i (I 55 i + 1)) 0 14 s) 75 k + 1)) (R2 := R) rfl rfl rfl (fun q a b => by rw [uI_n (by omega), uI_n (by omega), uI_n (by omega), uI_n (by omega), uI_n (by omega)]) (fun _ _ _ => rfl)
  rw [List.append_nil] at z1 z2
  refine ⟨z1, z2, h3.fr rfl rfl rfl rfl, ?_, h5.fr rfl rfl rfl, h6.fr (fun q a b => by rw [uI_n (by omega), uI_n (by omega), uI_n (by omega), uI_n (by omega), uI_n (by omega)]) rfl rfl rfl rfl, rfl, h8, h9⟩
  obtain ⟨n1, n2, n3, n4, n5⟩ := h4
  rcases hik with ⟨rfl, rfl⟩ | ⟨rfl, rfl⟩ | ⟨rfl, rfl⟩ | ⟨rfl, rfl⟩ | ⟨rfl, rfl⟩
  · exact ⟨congrArg (fun z : Int32 => z + 1) n1, n2, n3, n4, n5⟩
  · exact ⟨n1, congrArg (fun z : Int32 => z + 1) n2, n3, n4, n5⟩
  · exact ⟨n1, n2, congrArg (fun z : Int32 => z + 1) n3, n4, n5⟩
  · exact ⟨n1, n2, n3, congrArg (fun z : Int32 => z + 1) n4, n5⟩
  · exact ⟨n1, n2, n3, n4, congrArg (fun z : Int32 => z + 1) n5⟩
theorem PR.no {mc mm : MI} {as : List Value} (i k : Nat) (s : Int32) (hik : (i = 0 ∧ k = 1) ∨ (i = 1 ∧ k = 2) ∨ (i = 2 ∧ k = 3) ∨ (i = 3 ∧ k = 5) ∨ (i = 4 ∧ k = 6)) (h : REL I L R dy) (h1 : ∀ (l : Launch) (K : cK), CE l K mc 90 (.ref 0 :: as) (hp I L R dy) (.int s) (hp (uI (uI I 55 i (I 55 i + 1)) 0 14 s) L R dy)) (h2 : ∀ (l : Launch) (K : cK), CE l K mm 90 (.ref 74 :: as) (hp (uI (uI I 55 i (I 55 i + 1)) 0 14 s) L R dy) (.int s) (hp (uI (uI (uI (uI (uI I 55 i (I 55 i + 1)) 0 14 s) 74 0 0) 74 1 s) 75 k ((uI (uI I 55 i (I 55 i + 1)) 0 14 s) 75 k + 1)) L R dy)) : PR kdI mc mm 0 0 as I L R dy := PR.E ⟨_, rfl⟩ h1 h2 (h.no hik)
/-- a change of the state alone -/
theorem REL.up (h : REL I L R dy) (hS : SQ I2 R2 (dy ++ dz) 1 (I2 76)) (eI : ∀ q, 10 ≤ q → q ≠ 74 → q ≠ 76 → I2 q = I q) (e0 : I2 0 15 = I 0 15 ∧ I2 0 16 = I 0 16) (e74 : I2 74 6 = I 74 6 ∧ I2 74 8 = I 74 8 ∧ I2 74 13 = I 74 13 ∧ I2 74 15 = I 74 15 ∧ I2 74 57 = I 74 57 ∧ I2 74 58 = I 74 58) (eR : ∀ q, 10 ≤ q → R2 q = R q) (hst : I2 0 14 = I2 74 1) : REL I2 L R2 (dy ++ dz) := by
  obtain ⟨h1, h2, h3, h4, h5, h6, h7, h8, h9⟩ := h
  obtain ⟨f6, f8, f13, f15, f57, f58⟩ := e74
  exact ⟨hS, h2.fr (eI 11 (by decide) (by decide) (by decide)) (eI 78 (by decide) (by decide) (by decide)) (eI 77 (by decide) (by decide) (by decide)) (fun q a b => eI q (by omega) (by omega) (by omega)) (fun q a b => eR q (by omega)), h3.fr (by rw [eI 12 (by decide) (by decide) (by decide)]) (eI 13 (by decide) (by decide) (by decide)) f8 (eI 79 (by decide) (by decide) (by decide)), h4.fr (eI 55 (by decide) (by decide) (by decide)) (eI 75 (by decide) (by decide) (by decide)), h5.fr f15 rfl rfl, h6.fr (fun q a b => eI q (by omega) (by omega) (by omega)) (eI 101 (by decide) (by decide) (by decide)) (eI 102 (by decide) (by decide) (by decide)) f57 f58, hst, by rw [e0.1, f13]; exact h8, by rw [e0.2, f6]; exact h9⟩
theorem REL.u0 (h : REL I L R dy) (hS : SQ I2 R dy 1 (I2 76)) (eI : ∀ q, 10 ≤ q → q ≠ 74 → q ≠ 76 → I2 q = I q) (e0 : I2 0 15 = I 0 15 ∧ I2 0 16 = I 0 16) (e74 : I2 74 6 = I 74 6 ∧ I2 74 8 = I 74 8 ∧ I2 74 13 = I 74 13 ∧ I2 74 15 = I 74 15 ∧ I2 74 57 = I 74 57 ∧ I2 74 58 = I 74 58) (hst : I2 0 14 = I2 74 1) : REL I2 L R dy := by
  have z := h.up (dz := []) (R2 := R) (by rw [List.append_nil]; exact hS) eI e0 e74 (fun _ _ => rfl) hst
  rw [List.append_nil] at z; exact z
theorem QC.c0 {g g2 : Nat → Int32} {nl : Nat} {Tf : Nat → Nat} {Cf : Nat → List Cl} (h : QC I R dy 1 g nl Tf Cf) (e : I2 1 3 = I 1 3) (eg1 : g2 1 = g 1) (eg : ∀ j, 80 ≤ j → j < 5480 → g2 j = g j) : QC I2 R dy 1 g2 nl Tf Cf := by
  have z := h.cg (dz := []) (R2 := R) (p := 1) e (fun _ _ => rfl) eg1 eg
  rw [List.append_nil] at z; exact z
theorem QD.c0 {g g2 : Nat → Int32} {nl : Nat} {Tf : Nat → Nat} {Cf : Nat → List Cl} (h : QD I R dy 1 g nl Tf Cf) (e : I2 1 6 = I 1 6) (eg1 : g2 2 = g 2) (eg : ∀ j, 5480 ≤ j → j < 10880 → g2 j = g j) : QD I2 R dy 1 g2 nl Tf Cf := by
  have z := h.cg (dz := []) (R2 := R) (p := 1) e (fun _ _ => rfl) eg1 eg
  rw [List.append_nil] at z; exact z
end RNO
set_option maxHeartbeats 2000000 in
theorem car_QA {I : wI} {n a b c e : Nat} {cF cT cS cL : Nat → Nat} (hA : QA I 1 (I 76) n cF cT cS cL) (hn : n < 6) (h1 : a ≤ b) (h2 : b ≤ 11) (h3 : c ≤ 1) (h4 : e ≤ 9) : QA (uI (uI (uI (uI (uI (uI (uI (uI (uI (uI (uI (uI (uI I 2 (n * 4 + 0) (nI a)) 2 (n * 4 + 1) (nI b)) 2 (n * 4 + 2) (nI c)) 2 (n * 4 + 3) (nI e)) 1 0 (nI (n + 1))) 0 14 0) 74 0 0) 76 (14 + 4 * n) (nI a)) 76 (14 + 4 * n + 1) (nI b)) 76 (14 + 4 * n + 2) (nI c)) 76 (14 + 4 * n + 3) (nI e)) 76 0 (nI (n + 1))) 74 1 0) 1 ((uI (uI (uI (uI (uI (uI (uI (uI (uI (uI (uI (uI (uI I 2 (n * 4 + 0) (nI a)) 2 (n * 4 + 1) (nI b)) 2 (n * 4 + 2) (nI c)) 2 (n * 4 + 3) (nI e)) 1 0 (nI (n + 1))) 0 14 0) 74 0 0) 76 (14 + 4 * n) (nI a)) 76 (14 + 4 * n + 1) (nI b)) 76 (14 + 4 * n + 2) (nI c)) 76 (14 + 4 * n + 3) (nI e)) 76 0 (nI (n + 1))) 74 1 0) 76) (n + 1) (fun q => if q = n then a else cF q) (fun q => if q = n then b else cT q) (fun q => if q = n then c else cS q) (fun q => if q = n then e else cL q) := by
  obtain ⟨a1, a2, a3, a4, a5⟩ := hA
  refine ⟨rfl, rfl, by omega, fun j hj => ?_, fun k hk => ?_⟩
  · show (uI (uI (uI (uI (uI (uI (uI (uI (uI (uI (uI (uI (uI I 2 (n * 4 + 0) (nI a)) 2 (n * 4 + 1) (nI b)) 2 (n * 4 + 2) (nI c)) 2 (n * 4 + 3) (nI e)) 1 0 (nI (n + 1))) 0 14 0) 74 0 0) 76 (14 + 4 * n) (nI a)) 76 (14 + 4 * n + 1) (nI b)) 76 (14 + 4 * n + 2) (nI c)) 76 (14 + 4 * n + 3) (nI e)) 76 0 (nI (n + 1))) 74 1 0) 2 j = (uI (uI (uI (uI (uI (uI (uI (uI (uI (uI (uI (uI (uI I 2 (n * 4 + 0) (nI a)) 2 (n * 4 + 1) (nI b)) 2 (n * 4 + 2) (nI c)) 2 (n * 4 + 3) (nI e)) 1 0 (nI (n + 1))) 0 14 0) 74 0 0) 76 (14 + 4 * n) (nI a)) 76 (14 + 4 * n + 1) (nI b)) 76 (14 + 4 * n + 2) (nI c)) 76 (14 + 4 * n + 3) (nI e)) 76 0 (nI (n + 1))) 74 1 0) 76 (14 + j)
    by_cases e0 : j = n * 4 + 0
    · subst e0; rw [show 14 + (n * 4 + 0) = 14 + 4 * n by omega]; (repeat (first | rw [uI_n (by decide)] | rw [uI_ss] | rw [uI_sn (by omega)]))
    · by_cases e1 : j = n * 4 + 1
      · subst e1; rw [show 14 + (n * 4 + 1) = 14 + 4 * n + 1 by omega]; (repeat (first | rw [uI_n (by decide)] | rw [uI_ss] | rw [uI_sn (by omega)]))
      · by_cases e2 : j = n * 4 + 2
        · subst e2; rw [show 14 + (n * 4 + 2) = 14 + 4 * n + 2 by omega]; (repeat (first | rw [uI_n (by decide)] | rw [uI_ss] | rw [uI_sn (by omega)]))
        · by_cases e3 : j = n * 4 + 3
          · subst e3; rw [show 14 + (n * 4 + 3) = 14 + 4 * n + 3 by omega]; (repeat (first | rw [uI_n (by decide)] | rw [uI_ss] | rw [uI_sn (by omega)]))
          · (repeat (first | rw [uI_n (by decide)] | rw [uI_ss] | rw [uI_sn (by omega)]))
            exact a4 j hj
  · by_cases ek : k = n
    · subst ek
      refine ⟨?_, ?_, ?_, ?_, ?_, ?_, ?_, ?_⟩
      · show (uI (uI (uI (uI (uI (uI (uI (uI (uI (uI (uI (uI (uI I 2 (k * 4 + 0) (nI a)) 2 (k * 4 + 1) (nI b)) 2 (k * 4 + 2) (nI c)) 2 (k * 4 + 3) (nI e)) 1 0 (nI (k + 1))) 0 14 0) 74 0 0) 76 (14 + 4 * k) (nI a)) 76 (14 + 4 * k + 1) (nI b)) 76 (14 + 4 * k + 2) (nI c)) 76 (14 + 4 * k + 3) (nI e)) 76 0 (nI (k + 1))) 74 1 0) 76 (14 + 4 * k) = nI (if k = k then a else cF k)
        rw [if_pos rfl]; (repeat (first | rw [uI_n (by decide)] | rw [uI_ss] | rw [uI_sn (by omega)]))
      · show (uI (uI (uI (uI (uI (uI (uI (uI (uI (uI (uI (uI (uI I 2 (k * 4 + 0) (nI a)) 2 (k * 4 + 1) (nI b)) 2 (k * 4 + 2) (nI c)) 2 (k * 4 + 3) (nI e)) 1 0 (nI (k + 1))) 0 14 0) 74 0 0) 76 (14 + 4 * k) (nI a)) 76 (14 + 4 * k + 1) (nI b)) 76 (14 + 4 * k + 2) (nI c)) 76 (14 + 4 * k + 3) (nI e)) 76 0 (nI (k + 1))) 74 1 0) 76 (14 + 4 * k + 1) = nI (if k = k then b else cT k)
        rw [if_pos rfl]; (repeat (first | rw [uI_n (by decide)] | rw [uI_ss] | rw [uI_sn (by omega)]))
      · show (uI (uI (uI (uI (uI (uI (uI (uI (uI (uI (uI (uI (uI I 2 (k * 4 + 0) (nI a)) 2 (k * 4 + 1) (nI b)) 2 (k * 4 + 2) (nI c)) 2 (k * 4 + 3) (nI e)) 1 0 (nI (k + 1))) 0 14 0) 74 0 0) 76 (14 + 4 * k) (nI a)) 76 (14 + 4 * k + 1) (nI b)) 76 (14 + 4 * k + 2) (nI c)) 76 (14 + 4 * k + 3) (nI e)) 76 0 (nI (k + 1))) 74 1 0) 76 (14 + 4 * k + 2) = nI (if k = k then c else cS k)
        rw [if_pos rfl]; (repeat (first | rw [uI_n (by decide)] | rw [uI_ss] | rw [uI_sn (by omega)]))
      · show (uI (uI (uI (uI (uI (uI (uI (uI (uI (uI (uI (uI (uI I 2 (k * 4 + 0) (nI a)) 2 (k * 4 + 1) (nI b)) 2 (k * 4 + 2) (nI c)) 2 (k * 4 + 3) (nI e)) 1 0 (nI (k + 1))) 0 14 0) 74 0 0) 76 (14 + 4 * k) (nI a)) 76 (14 + 4 * k + 1) (nI b)) 76 (14 + 4 * k + 2) (nI c)) 76 (14 + 4 * k + 3) (nI e)) 76 0 (nI (k + 1))) 74 1 0) 76 (14 + 4 * k + 3) = nI (if k = k then e else cL k)
        rw [if_pos rfl]; (repeat (first | rw [uI_n (by decide)] | rw [uI_ss] | rw [uI_sn (by omega)]))
      · show (if k = k then a else cF k) ≤ (if k = k then b else cT k)
        rw [if_pos rfl, if_pos rfl]; exact h1
      · show (if k = k then b else cT k) ≤ 11
        rw [if_pos rfl]; exact h2
      · show (if k = k then c else cS k) ≤ 1
        rw [if_pos rfl]; exact h3
      · show (if k = k then e else cL k) ≤ 9
        rw [if_pos rfl]; exact h4
    · obtain ⟨b1, b2, b3, b4, b5, b6, b7, b8⟩ := a5 k (by omega)
      dsimp only
      rw [if_neg ek, if_neg ek, if_neg ek, if_neg ek]
      refine ⟨?_, ?_, ?_, ?_, b5, b6, b7, b8⟩
      · (repeat (first | rw [uI_n (by decide)] | rw [uI_ss] | rw [uI_sn (by omega)]))
        exact b1
      · (repeat (first | rw [uI_n (by decide)] | rw [uI_ss] | rw [uI_sn (by omega)]))
        exact b2
      · (repeat (first | rw [uI_n (by decide)] | rw [uI_ss] | rw [uI_sn (by omega)]))
        exact b3
      · (repeat (first | rw [uI_n (by decide)] | rw [uI_ss] | rw [uI_sn (by omega)]))
        exact b4
set_option maxHeartbeats 1000000 in
theorem p_car {I : wI} {L : wL} {R : wR} {dy : cH} (h : REL I L R dy) (a : Int32) (b : Int32) (c : Int32) (e : Int32) : PR kdI m11_car m12_car 0 0 [.int a, .int b, .int c, .int e] I L R dy := by
  obtain ⟨⟨n, cF, cT, cS, cL, hA⟩, ⟨tm, hB⟩, ⟨nl, Tf, Cf, hC, hF⟩, ⟨nh, Th, Ch, hD⟩, ⟨np, lo, wi, hE⟩, ⟨ns, ss, sc, hS⟩, hT⟩ := h.1
  by_cases hb : 0 ≤ a.toInt ∧ a.toInt ≤ b.toInt ∧ b.toInt ≤ 11 ∧ 0 ≤ c.toInt ∧ c.toInt ≤ 1 ∧ 0 ≤ e.toInt ∧ e.toInt ≤ 9
  · obtain ⟨a, rfl, ha⟩ := nI_ex hb.1
    obtain ⟨b, rfl, hbb⟩ := nI_ex (x := b) (by omega)
    obtain ⟨c, rfl, hc⟩ := nI_ex hb.2.2.2.1
    obtain ⟨e, rfl, he⟩ := nI_ex hb.2.2.2.2.2.1
    by_cases hn : n = 6
    · subst hn
      exact PR.no 3 5 (-5) (by decide) h (fun _ _ => r11_car_full (nI a) (nI b) (nI c) (nI e) hb hA.1 (by decide)) (fun _ _ => r12_car_full (I := uI (uI I 55 3 (I 55 3 + 1)) 0 14 (-5)) (nI a) (nI b) (nI c) (nI e) hb hA.2.1 (by decide))
    · have hn6 : n < 6 := by have := hA.2.2.1; omega
      refine PR.E (I1 := (uI (uI (uI (uI (uI (uI I 2 (n * 4 + 0) (nI a)) 2 (n * 4 + 1) (nI b)) 2 (n * 4 + 2) (nI c)) 2 (n * 4 + 3) (nI e)) 1 0 (nI (n + 1))) 0 14 0)) (I2 := (uI (uI (uI (uI (uI (uI (uI (uI (uI (uI (uI (uI (uI I 2 (n * 4 + 0) (nI a)) 2 (n * 4 + 1) (nI b)) 2 (n * 4 + 2) (nI c)) 2 (n * 4 + 3) (nI e)) 1 0 (nI (n + 1))) 0 14 0) 74 0 0) 76 (14 + 4 * n) (nI a)) 76 (14 + 4 * n + 1) (nI b)) 76 (14 + 4 * n + 2) (nI c)) 76 (14 + 4 * n + 3) (nI e)) 76 0 (nI (n + 1))) 74 1 0)) ⟨_, rfl⟩ (fun _ _ => r11_car_ok (nI a) (nI b) (nI c) (nI e) hb n hA.1 hn6 (by decide)) (fun _ _ => r12_car_ok (I := (uI (uI (uI (uI (uI (uI I 2 (n * 4 + 0) (nI a)) 2 (n * 4 + 1) (nI b)) 2 (n * 4 + 2) (nI c)) 2 (n * 4 + 3) (nI e)) 1 0 (nI (n + 1))) 0 14 0)) (nI a) (nI b) (nI c) (nI e) hb n hA.2.1 hn6 (by decide)) ?_
      refine h.u0 ?_ (fun q a b c => by (repeat (first | rw [uI_n (by omega)]))) ⟨rfl, rfl⟩ ⟨rfl, rfl, rfl, rfl, rfl, rfl⟩ rfl
      exact ⟨⟨n + 1, _, _, _, _, car_QA hA hn6 (by omega) (by omega) (by omega) (by omega)⟩, ⟨tm, hB.cg (fun _ _ => rfl) (fun j ha hb => by (repeat (first | rw [uI_n (by decide)] | rw [uI_ss] | rw [uI_sn (by omega)])))⟩, ⟨nl, Tf, Cf, hC.c0 rfl (by (repeat (first | rw [uI_n (by decide)] | rw [uI_ss] | rw [uI_sn (by omega)]))) (fun j ha hb => by (repeat (first | rw [uI_n (by decide)] | rw [uI_ss] | rw [uI_sn (by omega)]))), hF.cg rfl (by (repeat (first | rw [uI_n (by decide)] | rw [uI_ss] | rw [uI_sn (by omega)])))⟩, ⟨nh, Th, Ch, hD.c0 rfl (by (repeat (first | rw [uI_n (by decide)] | rw [uI_ss] | rw [uI_sn (by omega)]))) (fun j ha hb => by (repeat (first | rw [uI_n (by decide)] | rw [uI_ss] | rw [uI_sn (by omega)])))⟩, ⟨np, lo, wi, hE.cg rfl (fun _ _ => ⟨rfl, rfl⟩) (fun j hj => by (repeat (first | rw [uI_n (by decide)] | rw [uI_ss] | rw [uI_sn (by omega)])))⟩, ⟨ns, ss, sc, hS.cg rfl (fun _ _ => ⟨rfl, rfl⟩) (fun j hj => by (repeat (first | rw [uI_n (by decide)] | rw [uI_ss] | rw [uI_sn (by omega)])))⟩, hT⟩
  · exact PR.no 0 1 (-1) (by decide) h (fun _ _ => r11_car_bad a b c e hb (by decide)) (fun _ _ => r12_car_bad (I := uI (uI I 55 0 (I 55 0 + 1)) 0 14 (-1)) a b c e hb (by decide))
set_option maxHeartbeats 2000000 in
theorem put_QA0 {I : wI} {n k x : Nat} {cF cT cS cL : Nat → Nat} (hA : QA I 1 (I 76) n cF cT cS cL) (hk : k < n) (hx : x ≤ cT k) : QA (uI (uI (uI (uI (uI I 2 (k * 4 + 0) (nI x)) 0 14 0) 74 0 0) 76 (14 + 4 * k + 0) (nI x)) 74 1 0) 1 ((uI (uI (uI (uI (uI I 2 (k * 4 + 0) (nI x)) 0 14 0) 74 0 0) 76 (14 + 4 * k + 0) (nI x)) 74 1 0) 76) n (fun q => if q = k then x else cF q) cT cS cL := by
  obtain ⟨a1, a2, a3, a4, a5⟩ := hA
  have a2' : (uI (uI (uI (uI (uI I 2 (k * 4 + 0) (nI x)) 0 14 0) 74 0 0) 76 (14 + 4 * k + 0) (nI x)) 74 1 0) 76 0 = nI n := by
    (repeat (first | rw [uI_n (by decide)] | rw [uI_ss] | rw [uI_sn (by omega)]))
    exact a2
  refine ⟨a1, a2', a3, fun j hj => ?_, fun c hc => ?_⟩
  · show (uI (uI (uI (uI (uI I 2 (k * 4 + 0) (nI x)) 0 14 0) 74 0 0) 76 (14 + 4 * k + 0) (nI x)) 74 1 0) 2 j = (uI (uI (uI (uI (uI I 2 (k * 4 + 0) (nI x)) 0 14 0) 74 0 0) 76 (14 + 4 * k + 0) (nI x)) 74 1 0) 76 (14 + j)
    by_cases e0 : j = k * 4 + 0
    · subst e0; rw [show 14 + (k * 4 + 0) = 14 + 4 * k + 0 by omega]; (repeat (first | rw [uI_n (by decide)] | rw [uI_ss] | rw [uI_sn (by omega)]))
    · (repeat (first | rw [uI_n (by decide)] | rw [uI_ss] | rw [uI_sn (by omega)]))
      exact a4 j hj
  · obtain ⟨b1, b2, b3, b4, b5, b6, b7, b8⟩ := a5 c hc
    by_cases ek : c = k
    · subst ek
      refine ⟨?_, ?_, ?_, ?_, (by show (if c = c then x else cF c) ≤ cT c; rw [if_pos rfl]; exact hx), b6, b7, b8⟩
      · show (uI (uI (uI (uI (uI I 2 (c * 4 + 0) (nI x)) 0 14 0) 74 0 0) 76 (14 + 4 * c + 0) (nI x)) 74 1 0) 76 (14 + 4 * c + 0) = nI (if c = c then x else cF c)
        rw [if_pos rfl]; (repeat (first | rw [uI_n (by decide)] | rw [uI_ss] | rw [uI_sn (by omega)]))
      · (repeat (first | rw [uI_n (by decide)] | rw [uI_ss] | rw [uI_sn (by omega)]))
        exact b2
      · (repeat (first | rw [uI_n (by decide)] | rw [uI_ss] | rw [uI_sn (by omega)]))
        exact b3
      · (repeat (first | rw [uI_n (by decide)] | rw [uI_ss] | rw [uI_sn (by omega)]))
        exact b4
    · dsimp only
      rw [if_neg ek]
      refine ⟨?_, ?_, ?_, ?_, b5, b6, b7, b8⟩
      · (repeat (first | rw [uI_n (by decide)] | rw [uI_ss] | rw [uI_sn (by omega)]))
        exact b1
      · (repeat (first | rw [uI_n (by decide)] | rw [uI_ss] | rw [uI_sn (by omega)]))
        exact b2
      · (repeat (first | rw [uI_n (by decide)] | rw [uI_ss] | rw [uI_sn (by omega)]))
        exact b3
      · (repeat (first | rw [uI_n (by decide)] | rw [uI_ss] | rw [uI_sn (by omega)]))
        exact b4
set_option maxHeartbeats 2000000 in
theorem put_QA1 {I : wI} {n k x : Nat} {cF cT cS cL : Nat → Nat} (hA : QA I 1 (I 76) n cF cT cS cL) (hk : k < n) (hx : cF k ≤ x) (hx2 : x ≤ 11) : QA (uI (uI (uI (uI (uI I 2 (k * 4 + 1) (nI x)) 0 14 0) 74 0 0) 76 (14 + 4 * k + 1) (nI x)) 74 1 0) 1 ((uI (uI (uI (uI (uI I 2 (k * 4 + 1) (nI x)) 0 14 0) 74 0 0) 76 (14 + 4 * k + 1) (nI x)) 74 1 0) 76) n cF (fun q => if q = k then x else cT q) cS cL := by
  obtain ⟨a1, a2, a3, a4, a5⟩ := hA
  have a2' : (uI (uI (uI (uI (uI I 2 (k * 4 + 1) (nI x)) 0 14 0) 74 0 0) 76 (14 + 4 * k + 1) (nI x)) 74 1 0) 76 0 = nI n := by
    (repeat (first | rw [uI_n (by decide)] | rw [uI_ss] | rw [uI_sn (by omega)]))
    exact a2
  refine ⟨a1, a2', a3, fun j hj => ?_, fun c hc => ?_⟩
  · show (uI (uI (uI (uI (uI I 2 (k * 4 + 1) (nI x)) 0 14 0) 74 0 0) 76 (14 + 4 * k + 1) (nI x)) 74 1 0) 2 j = (uI (uI (uI (uI (uI I 2 (k * 4 + 1) (nI x)) 0 14 0) 74 0 0) 76 (14 + 4 * k + 1) (nI x)) 74 1 0) 76 (14 + j)
    by_cases e0 : j = k * 4 + 1
    · subst e0; rw [show 14 + (k * 4 + 1) = 14 + 4 * k + 1 by omega]; (repeat (first | rw [uI_n (by decide)] | rw [uI_ss] | rw [uI_sn (by omega)]))
    · (repeat (first | rw [uI_n (by decide)] | rw [uI_ss] | rw [uI_sn (by omega)]))
      exact a4 j hj
  · obtain ⟨b1, b2, b3, b4, b5, b6, b7, b8⟩ := a5 c hc
    by_cases ek : c = k
    · subst ek
      refine ⟨?_, ?_, ?_, ?_, (by show cF c ≤ (if c = c then x else cT c); rw [if_pos rfl]; exact hx), (by show (if c = c then x else cT c) ≤ 11; rw [if_pos rfl]; exact hx2), b7, b8⟩
      · (repeat (first | rw [uI_n (by decide)] | rw [uI_ss] | rw [uI_sn (by omega)]))
        exact b1
      · show (uI (uI (uI (uI (uI I 2 (c * 4 + 1) (nI x)) 0 14 0) 74 0 0) 76 (14 + 4 * c + 1) (nI x)) 74 1 0) 76 (14 + 4 * c + 1) = nI (if c = c then x else cT c)
        rw [if_pos rfl]; (repeat (first | rw [uI_n (by decide)] | rw [uI_ss] | rw [uI_sn (by omega)]))
      · (repeat (first | rw [uI_n (by decide)] | rw [uI_ss] | rw [uI_sn (by omega)]))
        exact b3
      · (repeat (first | rw [uI_n (by decide)] | rw [uI_ss] | rw [uI_sn (by omega)]))
        exact b4
    · dsimp only
      rw [if_neg ek]
      refine ⟨?_, ?_, ?_, ?_, b5, b6, b7, b8⟩
      · (repeat (first | rw [uI_n (by decide)] | rw [uI_ss] | rw [uI_sn (by omega)]))
        exact b1
      · (repeat (first | rw [uI_n (by decide)] | rw [uI_ss] | rw [uI_sn (by omega)]))
        exact b2
      · (repeat (first | rw [uI_n (by decide)] | rw [uI_ss] | rw [uI_sn (by omega)]))
        exact b3
      · (repeat (first | rw [uI_n (by decide)] | rw [uI_ss] | rw [uI_sn (by omega)]))
        exact b4
set_option maxHeartbeats 2000000 in
theorem put_QA2 {I : wI} {n k x : Nat} {cF cT cS cL : Nat → Nat} (hA : QA I 1 (I 76) n cF cT cS cL) (hk : k < n) (hx : x ≤ 1) : QA (uI (uI (uI (uI (uI I 2 (k * 4 + 2) (nI x)) 0 14 0) 74 0 0) 76 (14 + 4 * k + 2) (nI x)) 74 1 0) 1 ((uI (uI (uI (uI (uI I 2 (k * 4 + 2) (nI x)) 0 14 0) 74 0 0) 76 (14 + 4 * k + 2) (nI x)) 74 1 0) 76) n cF cT (fun q => if q = k then x else cS q) cL := by
  obtain ⟨a1, a2, a3, a4, a5⟩ := hA
  have a2' : (uI (uI (uI (uI (uI I 2 (k * 4 + 2) (nI x)) 0 14 0) 74 0 0) 76 (14 + 4 * k + 2) (nI x)) 74 1 0) 76 0 = nI n := by
    (repeat (first | rw [uI_n (by decide)] | rw [uI_ss] | rw [uI_sn (by omega)]))
    exact a2
  refine ⟨a1, a2', a3, fun j hj => ?_, fun c hc => ?_⟩
  · show (uI (uI (uI (uI (uI I 2 (k * 4 + 2) (nI x)) 0 14 0) 74 0 0) 76 (14 + 4 * k + 2) (nI x)) 74 1 0) 2 j = (uI (uI (uI (uI (uI I 2 (k * 4 + 2) (nI x)) 0 14 0) 74 0 0) 76 (14 + 4 * k + 2) (nI x)) 74 1 0) 76 (14 + j)
    by_cases e0 : j = k * 4 + 2
    · subst e0; rw [show 14 + (k * 4 + 2) = 14 + 4 * k + 2 by omega]; (repeat (first | rw [uI_n (by decide)] | rw [uI_ss] | rw [uI_sn (by omega)]))
    · (repeat (first | rw [uI_n (by decide)] | rw [uI_ss] | rw [uI_sn (by omega)]))
      exact a4 j hj
  · obtain ⟨b1, b2, b3, b4, b5, b6, b7, b8⟩ := a5 c hc
    by_cases ek : c = k
    · subst ek
      refine ⟨?_, ?_, ?_, ?_, b5, b6, (by show (if c = c then x else cS c) ≤ 1; rw [if_pos rfl]; exact hx), b8⟩
      · (repeat (first | rw [uI_n (by decide)] | rw [uI_ss] | rw [uI_sn (by omega)]))
        exact b1
      · (repeat (first | rw [uI_n (by decide)] | rw [uI_ss] | rw [uI_sn (by omega)]))
        exact b2
      · show (uI (uI (uI (uI (uI I 2 (c * 4 + 2) (nI x)) 0 14 0) 74 0 0) 76 (14 + 4 * c + 2) (nI x)) 74 1 0) 76 (14 + 4 * c + 2) = nI (if c = c then x else cS c)
        rw [if_pos rfl]; (repeat (first | rw [uI_n (by decide)] | rw [uI_ss] | rw [uI_sn (by omega)]))
      · (repeat (first | rw [uI_n (by decide)] | rw [uI_ss] | rw [uI_sn (by omega)]))
        exact b4
    · dsimp only
      rw [if_neg ek]
      refine ⟨?_, ?_, ?_, ?_, b5, b6, b7, b8⟩
      · (repeat (first | rw [uI_n (by decide)] | rw [uI_ss] | rw [uI_sn (by omega)]))
        exact b1
      · (repeat (first | rw [uI_n (by decide)] | rw [uI_ss] | rw [uI_sn (by omega)]))
        exact b2
      · (repeat (first | rw [uI_n (by decide)] | rw [uI_ss] | rw [uI_sn (by omega)]))
        exact b3
      · (repeat (first | rw [uI_n (by decide)] | rw [uI_ss] | rw [uI_sn (by omega)]))
        exact b4
set_option maxHeartbeats 2000000 in
theorem put_QA3 {I : wI} {n k x : Nat} {cF cT cS cL : Nat → Nat} (hA : QA I 1 (I 76) n cF cT cS cL) (hk : k < n) (hx : x ≤ 9) : QA (uI (uI (uI (uI (uI I 2 (k * 4 + 3) (nI x)) 0 14 0) 74 0 0) 76 (14 + 4 * k + 3) (nI x)) 74 1 0) 1 ((uI (uI (uI (uI (uI I 2 (k * 4 + 3) (nI x)) 0 14 0) 74 0 0) 76 (14 + 4 * k + 3) (nI x)) 74 1 0) 76) n cF cT cS (fun q => if q = k then x else cL q) := by
  obtain ⟨a1, a2, a3, a4, a5⟩ := hA
  have a2' : (uI (uI (uI (uI (uI I 2 (k * 4 + 3) (nI x)) 0 14 0) 74 0 0) 76 (14 + 4 * k + 3) (nI x)) 74 1 0) 76 0 = nI n := by
    (repeat (first | rw [uI_n (by decide)] | rw [uI_ss] | rw [uI_sn (by omega)]))
    exact a2
  refine ⟨a1, a2', a3, fun j hj => ?_, fun c hc => ?_⟩
  · show (uI (uI (uI (uI (uI I 2 (k * 4 + 3) (nI x)) 0 14 0) 74 0 0) 76 (14 + 4 * k + 3) (nI x)) 74 1 0) 2 j = (uI (uI (uI (uI (uI I 2 (k * 4 + 3) (nI x)) 0 14 0) 74 0 0) 76 (14 + 4 * k + 3) (nI x)) 74 1 0) 76 (14 + j)
    by_cases e0 : j = k * 4 + 3
    · subst e0; rw [show 14 + (k * 4 + 3) = 14 + 4 * k + 3 by omega]; (repeat (first | rw [uI_n (by decide)] | rw [uI_ss] | rw [uI_sn (by omega)]))
    · (repeat (first | rw [uI_n (by decide)] | rw [uI_ss] | rw [uI_sn (by omega)]))
      exact a4 j hj
  · obtain ⟨b1, b2, b3, b4, b5, b6, b7, b8⟩ := a5 c hc
    by_cases ek : c = k
    · subst ek
      refine ⟨?_, ?_, ?_, ?_, b5, b6, b7, (by show (if c = c then x else cL c) ≤ 9; rw [if_pos rfl]; exact hx)⟩
      · (repeat (first | rw [uI_n (by decide)] | rw [uI_ss] | rw [uI_sn (by omega)]))
        exact b1
      · (repeat (first | rw [uI_n (by decide)] | rw [uI_ss] | rw [uI_sn (by omega)]))
        exact b2
      · (repeat (first | rw [uI_n (by decide)] | rw [uI_ss] | rw [uI_sn (by omega)]))
        exact b3
      · show (uI (uI (uI (uI (uI I 2 (c * 4 + 3) (nI x)) 0 14 0) 74 0 0) 76 (14 + 4 * c + 3) (nI x)) 74 1 0) 76 (14 + 4 * c + 3) = nI (if c = c then x else cL c)
        rw [if_pos rfl]; (repeat (first | rw [uI_n (by decide)] | rw [uI_ss] | rw [uI_sn (by omega)]))
    · dsimp only
      rw [if_neg ek]
      refine ⟨?_, ?_, ?_, ?_, b5, b6, b7, b8⟩
      · (repeat (first | rw [uI_n (by decide)] | rw [uI_ss] | rw [uI_sn (by omega)]))
        exact b1
      · (repeat (first | rw [uI_n (by decide)] | rw [uI_ss] | rw [uI_sn (by omega)]))
        exact b2
      · (repeat (first | rw [uI_n (by decide)] | rw [uI_ss] | rw [uI_sn (by omega)]))
        exact b3
      · (repeat (first | rw [uI_n (by decide)] | rw [uI_ss] | rw [uI_sn (by omega)]))
        exact b4
set_option maxHeartbeats 3000000 in
theorem p_put {I : wI} {L : wL} {R : wR} {dy : cH} (h : REL I L R dy) (c : Int32) (w : Int32) (x : Int32) : PR kdI m11_put m12_put 0 0 [.int c, .int w, .int x] I L R dy := by
  obtain ⟨⟨n, cF, cT, cS, cL, hA⟩, ⟨tm, hB⟩, ⟨nl, Tf, Cf, hC, hF⟩, ⟨nh, Th, Ch, hD⟩, ⟨np, lo, wi, hE⟩, ⟨ns, ss, sc, hS⟩, hT⟩ := h.1
  by_cases hb : (w.toInt = 0 ∨ w.toInt = 1) ∧ 0 ≤ x.toInt ∧ x.toInt ≤ 11 ∨ w.toInt = 2 ∧ 0 ≤ x.toInt ∧ x.toInt ≤ 1 ∨ w.toInt = 3 ∧ 0 ≤ x.toInt ∧ x.toInt ≤ 9
  · obtain ⟨x, rfl, hx⟩ := nI_ex (x := x) (by omega)
    obtain ⟨j, rfl, hj⟩ := nI_ex (x := w) (by omega)
    have hj4 : j < 4 := by omega
    by_cases hc : 0 ≤ c.toInt ∧ c.toInt < n
    · obtain ⟨k, rfl, hk⟩ := nI_ex hc.1
      have hkn : k < n := by omega
      have hk6 : k < 6 := by have := hA.2.2.1; omega
      obtain ⟨b1, b2, b3, b4, b5, b6, b7, b8⟩ := hA.2.2.2.2 k hkn
      have hq : ∀ i, i < 4 → I 2 (k * 4 + i) = I 76 (14 + 4 * k + i) := fun i hi => by
        have hn6 := hA.2.2.1
        have z := hA.2.2.2.1 (k * 4 + i) (by omega); rw [show 14 + (k * 4 + i) = 14 + 4 * k + i by omega] at z; exact z
      have t0 : (I 2 (k * 4 + 0)).toInt = (cF k : Int) := by rw [hq 0 (by decide), b1, nI_ti (by omega)]
      have t1 : (I 2 (k * 4 + 1)).toInt = (cT k : Int) := by rw [hq 1 (by decide), b2, nI_ti (by omega)]
      have m0 : (I 76 (14 + 4 * k + 0)).toInt = (cF k : Int) := by rw [b1, nI_ti (by omega)]
      have m1 : (I 76 (14 + 4 * k + 1)).toInt = (cT k : Int) := by rw [b2, nI_ti (by omega)]
      have hx0 : 0 ≤ (nI x).toInt := by omega
      have hok : j < 2 ∧ 0 ≤ (nI x).toInt ∧ (nI x).toInt ≤ 11 ∨ j = 2 ∧ 0 ≤ (nI x).toInt ∧ (nI x).toInt ≤ 1 ∨ j = 3 ∧ 0 ≤ (nI x).toInt ∧ (nI x).toInt ≤ 9 := by omega
      by_cases hno : j = 0 ∧ cT k < x ∨ j = 1 ∧ x < cF k
      · have hy1 : j = 0 ∧ (I 2 (k * 4 + 1)).toInt < (nI x).toInt ∨ j = 1 ∧ (nI x).toInt < (I 2 (k * 4 + 0)).toInt := by rw [t0, t1]; omega
        have hy2 : j = 0 ∧ (I 76 (14 + 4 * k + 1)).toInt < (nI x).toInt ∨ j = 1 ∧ (nI x).toInt < (I 76 (14 + 4 * k + 0)).toInt := by rw [m0, m1]; omega
        have hx1 : (nI x).toInt ≤ ([11, 11, 1, 9] : List Int).getD j 0 := by
          rcases hno with ⟨rfl, _⟩ | ⟨rfl, _⟩
          · show (nI x).toInt ≤ 11; omega
          · show (nI x).toInt ≤ 11; omega
        exact PR.no 2 3 (-3) (by decide) h (fun _ _ => r11_put_3 j hj4 (nI x) hx0 hx1 n k hA.1 hA.2.2.1 hkn hy1 (by decide)) (fun _ _ => r12_put_3 (I := uI (uI I 55 2 (I 55 2 + 1)) 0 14 (-3)) n k j hA.2.1 hA.2.2.1 hkn hj4 (nI x) hok hy2 (by decide))
      · have hno1 : ¬ (j = 0 ∧ (I 2 (k * 4 + 1)).toInt < (nI x).toInt ∨ j = 1 ∧ (nI x).toInt < (I 2 (k * 4 + 0)).toInt) := by rw [t0, t1]; omega
        have hno2 : ¬ (j = 0 ∧ (I 76 (14 + 4 * k + 1)).toInt < (nI x).toInt ∨ j = 1 ∧ (nI x).toInt < (I 76 (14 + 4 * k + 0)).toInt) := by rw [m0, m1]; omega
        have hcs : j = 0 ∨ j = 1 ∨ j = 2 ∨ j = 3 := by omega
        rcases hcs with rfl | rfl | rfl | rfl
        · refine PR.E (I1 := (uI (uI I 2 (k * 4 + 0) (nI x)) 0 14 0)) (I2 := (uI (uI (uI (uI (uI I 2 (k * 4 + 0) (nI x)) 0 14 0) 74 0 0) 76 (14 + 4 * k + 0) (nI x)) 74 1 0)) ⟨_, rfl⟩ (fun _ _ => r11_put_ok 0 (by decide) (nI x) hx0 (by show (nI x).toInt ≤ 11; omega) n k hA.1 hA.2.2.1 hkn hno1 (by decide)) (fun _ _ => by
            rw [hq 0 (by decide)]
            exact r12_put_ok (I := (uI (uI I 2 (k * 4 + 0) (nI x)) 0 14 0)) n k 0 hA.2.1 hA.2.2.1 hkn (by decide) (nI x) hok hno2 (by decide)) ?_
          refine h.u0 ?_ (fun q a b c => by (repeat (first | rw [uI_n (by omega)]))) ⟨rfl, rfl⟩ ⟨rfl, rfl, rfl, rfl, rfl, rfl⟩ rfl
          exact ⟨⟨n, _, _, _, _, put_QA0 hA hkn (by omega)⟩, ⟨tm, hB.cg (fun _ _ => rfl) (fun j ha hb => by (repeat (first | rw [uI_n (by decide)] | rw [uI_ss] | rw [uI_sn (by omega)])))⟩, ⟨nl, Tf, Cf, hC.c0 rfl (by (repeat (first | rw [uI_n (by decide)] | rw [uI_ss] | rw [uI_sn (by omega)]))) (fun j ha hb => by (repeat (first | rw [uI_n (by decide)] | rw [uI_ss] | rw [uI_sn (by omega)]))), hF.cg rfl (by (repeat (first | rw [uI_n (by decide)] | rw [uI_ss] | rw [uI_sn (by omega)])))⟩, ⟨nh, Th, Ch, hD.c0 rfl (by (repeat (first | rw [uI_n (by decide)] | rw [uI_ss] | rw [uI_sn (by omega)]))) (fun j ha hb => by (repeat (first | rw [uI_n (by decide)] | rw [uI_ss] | rw [uI_sn (by omega)])))⟩, ⟨np, lo, wi, hE.cg rfl (fun _ _ => ⟨rfl, rfl⟩) (fun j hj => by (repeat (first | rw [uI_n (by decide)] | rw [uI_ss] | rw [uI_sn (by omega)])))⟩, ⟨ns, ss, sc, hS.cg rfl (fun _ _ => ⟨rfl, rfl⟩) (fun j hj => by (repeat (first | rw [uI_n (by decide)] | rw [uI_ss] | rw [uI_sn (by omega)])))⟩, hT⟩
        · refine PR.E (I1 := (uI (uI I 2 (k * 4 + 1) (nI x)) 0 14 0)) (I2 := (uI (uI (uI (uI (uI I 2 (k * 4 + 1) (nI x)) 0 14 0) 74 0 0) 76 (14 + 4 * k + 1) (nI x)) 74 1 0)) ⟨_, rfl⟩ (fun _ _ => r11_put_ok 1 (by decide) (nI x) hx0 (by show (nI x).toInt ≤ 11; omega) n k hA.1 hA.2.2.1 hkn hno1 (by decide)) (fun _ _ => by
            rw [hq 1 (by decide)]
            exact r12_put_ok (I := (uI (uI I 2 (k * 4 + 1) (nI x)) 0 14 0)) n k 1 hA.2.1 hA.2.2.1 hkn (by decide) (nI x) hok hno2 (by decide)) ?_
          refine h.u0 ?_ (fun q a b c => by (repeat (first | rw [uI_n (by omega)]))) ⟨rfl, rfl⟩ ⟨rfl, rfl, rfl, rfl, rfl, rfl⟩ rfl
          exact ⟨⟨n, _, _, _, _, put_QA1 hA hkn (by omega) (by omega)⟩, ⟨tm, hB.cg (fun _ _ => rfl) (fun j ha hb => by (repeat (first | rw [uI_n (by decide)] | rw [uI_ss] | rw [uI_sn (by omega)])))⟩, ⟨nl, Tf, Cf, hC.c0 rfl (by (repeat (first | rw [uI_n (by decide)] | rw [uI_ss] | rw [uI_sn (by omega)]))) (fun j ha hb => by (repeat (first | rw [uI_n (by decide)] | rw [uI_ss] | rw [uI_sn (by omega)]))), hF.cg rfl (by (repeat (first | rw [uI_n (by decide)] | rw [uI_ss] | rw [uI_sn (by omega)])))⟩, ⟨nh, Th, Ch, hD.c0 rfl (by (repeat (first | rw [uI_n (by decide)] | rw [uI_ss] | rw [uI_sn (by omega)]))) (fun j ha hb => by (repeat (first | rw [uI_n (by decide)] | rw [uI_ss] | rw [uI_sn (by omega)])))⟩, ⟨np, lo, wi, hE.cg rfl (fun _ _ => ⟨rfl, rfl⟩) (fun j hj => by (repeat (first | rw [uI_n (by decide)] | rw [uI_ss] | rw [uI_sn (by omega)])))⟩, ⟨ns, ss, sc, hS.cg rfl (fun _ _ => ⟨rfl, rfl⟩) (fun j hj => by (repeat (first | rw [uI_n (by decide)] | rw [uI_ss] | rw [uI_sn (by omega)])))⟩, hT⟩
        · refine PR.E (I1 := (uI (uI I 2 (k * 4 + 2) (nI x)) 0 14 0)) (I2 := (uI (uI (uI (uI (uI I 2 (k * 4 + 2) (nI x)) 0 14 0) 74 0 0) 76 (14 + 4 * k + 2) (nI x)) 74 1 0)) ⟨_, rfl⟩ (fun _ _ => r11_put_ok 2 (by decide) (nI x) hx0 (by show (nI x).toInt ≤ 1; omega) n k hA.1 hA.2.2.1 hkn hno1 (by decide)) (fun _ _ => by
            rw [hq 2 (by decide)]
            exact r12_put_ok (I := (uI (uI I 2 (k * 4 + 2) (nI x)) 0 14 0)) n k 2 hA.2.1 hA.2.2.1 hkn (by decide) (nI x) hok hno2 (by decide)) ?_
          refine h.u0 ?_ (fun q a b c => by (repeat (first | rw [uI_n (by omega)]))) ⟨rfl, rfl⟩ ⟨rfl, rfl, rfl, rfl, rfl, rfl⟩ rfl
          exact ⟨⟨n, _, _, _, _, put_QA2 hA hkn (by omega)⟩, ⟨tm, hB.cg (fun _ _ => rfl) (fun j ha hb => by (repeat (first | rw [uI_n (by decide)] | rw [uI_ss] | rw [uI_sn (by omega)])))⟩, ⟨nl, Tf, Cf, hC.c0 rfl (by (repeat (first | rw [uI_n (by decide)] | rw [uI_ss] | rw [uI_sn (by omega)]))) (fun j ha hb => by (repeat (first | rw [uI_n (by decide)] | rw [uI_ss] | rw [uI_sn (by omega)]))), hF.cg rfl (by (repeat (first | rw [uI_n (by decide)] | rw [uI_ss] | rw [uI_sn (by omega)])))⟩, ⟨nh, Th, Ch, hD.c0 rfl (by (repeat (first | rw [uI_n (by decide)] | rw [uI_ss] | rw [uI_sn (by omega)]))) (fun j ha hb => by (repeat (first | rw [uI_n (by decide)] | rw [uI_ss] | rw [uI_sn (by omega)])))⟩, ⟨np, lo, wi, hE.cg rfl (fun _ _ => ⟨rfl, rfl⟩) (fun j hj => by (repeat (first | rw [uI_n (by decide)] | rw [uI_ss] | rw [uI_sn (by omega)])))⟩, ⟨ns, ss, sc, hS.cg rfl (fun _ _ => ⟨rfl, rfl⟩) (fun j hj => by (repeat (first | rw [uI_n (by decide)] | rw [uI_ss] | rw [uI_sn (by omega)])))⟩, hT⟩
        · refine PR.E (I1 := (uI (uI I 2 (k * 4 + 3) (nI x)) 0 14 0)) (I2 := (uI (uI (uI (uI (uI I 2 (k * 4 + 3) (nI x)) 0 14 0) 74 0 0) 76 (14 + 4 * k + 3) (nI x)) 74 1 0)) ⟨_, rfl⟩ (fun _ _ => r11_put_ok 3 (by decide) (nI x) hx0 (by show (nI x).toInt ≤ 9; omega) n k hA.1 hA.2.2.1 hkn hno1 (by decide)) (fun _ _ => by
            rw [hq 3 (by decide)]
            exact r12_put_ok (I := (uI (uI I 2 (k * 4 + 3) (nI x)) 0 14 0)) n k 3 hA.2.1 hA.2.2.1 hkn (by decide) (nI x) hok hno2 (by decide)) ?_
          refine h.u0 ?_ (fun q a b c => by (repeat (first | rw [uI_n (by omega)]))) ⟨rfl, rfl⟩ ⟨rfl, rfl, rfl, rfl, rfl, rfl⟩ rfl
          exact ⟨⟨n, _, _, _, _, put_QA3 hA hkn (by omega)⟩, ⟨tm, hB.cg (fun _ _ => rfl) (fun j ha hb => by (repeat (first | rw [uI_n (by decide)] | rw [uI_ss] | rw [uI_sn (by omega)])))⟩, ⟨nl, Tf, Cf, hC.c0 rfl (by (repeat (first | rw [uI_n (by decide)] | rw [uI_ss] | rw [uI_sn (by omega)]))) (fun j ha hb => by (repeat (first | rw [uI_n (by decide)] | rw [uI_ss] | rw [uI_sn (by omega)]))), hF.cg rfl (by (repeat (first | rw [uI_n (by decide)] | rw [uI_ss] | rw [uI_sn (by omega)])))⟩, ⟨nh, Th, Ch, hD.c0 rfl (by (repeat (first | rw [uI_n (by decide)] | rw [uI_ss] | rw [uI_sn (by omega)]))) (fun j ha hb => by (repeat (first | rw [uI_n (by decide)] | rw [uI_ss] | rw [uI_sn (by omega)])))⟩, ⟨np, lo, wi, hE.cg rfl (fun _ _ => ⟨rfl, rfl⟩) (fun j hj => by (repeat (first | rw [uI_n (by decide)] | rw [uI_ss] | rw [uI_sn (by omega)])))⟩, ⟨ns, ss, sc, hS.cg rfl (fun _ _ => ⟨rfl, rfl⟩) (fun j hj => by (repeat (first | rw [uI_n (by decide)] | rw [uI_ss] | rw [uI_sn (by omega)])))⟩, hT⟩
    · have hx0 : 0 ≤ (nI x).toInt := by omega
      have hx1 : (nI x).toInt ≤ ([11, 11, 1, 9] : List Int).getD j 0 := by
        have hcs : j = 0 ∨ j = 1 ∨ j = 2 ∨ j = 3 := by omega
        rcases hcs with rfl | rfl | rfl | rfl
        · show (nI x).toInt ≤ 11; omega
        · show (nI x).toInt ≤ 11; omega
        · show (nI x).toInt ≤ 1; omega
        · show (nI x).toInt ≤ 9; omega
      exact PR.no 1 2 (-2) (by decide) h (fun _ _ => r11_put_2 j hj4 (nI x) hx0 hx1 c n hA.1 hA.2.2.1 hc (by decide)) (fun _ _ => r12_put_2 (I := uI (uI I 55 1 (I 55 1 + 1)) 0 14 (-2)) c (nI j) (nI x) hb n hA.2.1 hA.2.2.1 hc (by decide))
  · exact PR.no 0 1 (-1) (by decide) h (fun _ _ => r11_put_1 c w x hb (by decide)) (fun _ _ => r12_put_1 (I := uI (uI I 55 0 (I 55 0 + 1)) 0 14 (-1)) c w x hb (by decide))
