theorem nI_ex {x : Int32} (h : 0 ≤ x.toInt) : ∃ a : Nat, x = nI a ∧ (nI a).toInt = (a : Int) := by
  have e := nI_of_nn h
  have e2 : ((x.toNatClampNeg : Nat) : Int) = x.toInt := by show ((x.toInt.toNat : Nat) : Int) = x.toInt; omega
  refine ⟨x.toNatClampNeg, e, ?_⟩
  rw [← e]; exact e2.symm
theorem i_m1 {x : Int32} (h : x.toInt = -1) : x = -1 := Int32.toInt_inj.mp (by rw [h]; rfl)
theorem inF.of {I I2 : wI} {lf : lawF} (e : I2 76 = I 76) (h : inF I lf) : inF I2 lf := by unfold inF at *; rw [e]; exact h
theorem RT.of {I I2 : wI} {coin per fine s0 : Nat} (e : I2 76 = I 76) (h15 : I2 74 15 = 0) (h : RT I coin per fine s0) : RT I2 coin per fine s0 := by
  obtain ⟨a1, a2, a3, a4, a5, a6, a7, a8, a9, b1, b2, -⟩ := h
  unfold RT; rw [e]; exact ⟨a1, a2, a3, a4, a5, a6, a7, a8, a9, b1, b2, h15⟩
theorem PL.of {I I2 : wI} {n : Nat} {lo wi : Nat → Nat} (e : I2 76 = I 76) (h : PL I n lo wi) : PL I2 n lo wi := by unfold PL at *; rw [e]; exact h
section RFA
variable {I : wI} {L : wL} {R : wR} {dy : cH}
theorem REL.h15 (h : REL I L R dy) : I 74 15 = 0 := h.2.2.2.2.1.1
theorem REL.tm (h : REL I L R dy) : ∃ coin per fine s0 wa wage : Nat, RT I coin per fine s0 ∧ CT I coin per fine ∧ 1 ≤ coin ∧ (I 3 4 = nI s0 ∧ 1 ≤ s0 ∧ s0 ≤ 12) ∧ (I 76 9 = I 3 3 ∧ I 76 13 = I 3 7) ∧ I 3 5 = I 76 11 ∧ (I 76 11 = nI wa ∧ I 3 5 = nI wa ∧ wa ≤ 3) ∧ (I 3 6 = nI wage ∧ I 76 12 = nI wage ∧ wage ≤ 99) := by
  obtain ⟨tm, hB⟩ := h.1.2.1
  have b0 := hB 0 (by decide)
  have b1 := hB 1 (by decide)
  have b2 := hB 2 (by decide)
  have b3 := hB 3 (by decide)
  have b4 := hB 4 (by decide)
  have b5 := hB 5 (by decide)
  have b6 := hB 6 (by decide)
  have b7 := hB 7 (by decide)
  exact ⟨tm 0, tm 1, tm 2, tm 4, tm 5, tm 6, ⟨b0.2.1, b0.2.2.1, b0.2.2.2, b1.2.1, b1.2.2.1, b1.2.2.2, b2.2.1, b2.2.2.2, b4.2.1, b4.2.2.1, b4.2.2.2, h.h15⟩, ⟨b0.1, b0.2.2.2, b1.1, b1.2.2.1, b1.2.2.2, b2.1, b2.2.2.2⟩, b0.2.2.1, ⟨b4.1, b4.2.2.1, b4.2.2.2⟩, ⟨b3.2.1.trans b3.1.symm, b7.2.1.trans b7.1.symm⟩, b5.1.trans b5.2.1.symm, ⟨b5.2.1, b5.1, b5.2.2.2⟩, ⟨b6.1, b6.2.1, b6.2.2.2⟩⟩
theorem QC.clf {nl : Nat} {Tf : Nat → Nat} {Cf : Nat → List Cl} {x : Int32} (hC : QC I R dy 1 (I 76) nl Tf Cf) (hx : x = -1 ∨ ∃ a, a < nl ∧ x = nI a) : ∃ o lc, CLF I R dy x o lc ∧ ((lfO lc = none ∧ x = -1) ∨ ∃ a F, lfO lc = some F ∧ a < 6 ∧ a < nl ∧ x = nI a ∧ TMF (I 76) (80 + 900 * a) F) := by
  obtain ⟨h1, h2, h3, h4⟩ := hC
  rcases hx with e | ⟨a, ha, e⟩
  · exact ⟨none, none, ⟨nl, h1, h3, Or.inl ⟨rfl, rfl, by rw [e]; exact fun z => absurd z.1 (by decide)⟩⟩, Or.inl ⟨rfl, e⟩⟩
  · obtain ⟨a1, a2, a3, a4⟩ := h4 a ha
    exact ⟨some (Tf a), some (Cf a), ⟨nl, h1, h3, Or.inr ⟨a, Tf a, Cf a, ha, e, rfl, a1, rfl, a2, a3⟩⟩, Or.inr ⟨a, txF (Cf a), rfl, by omega, ha, e, a4⟩⟩
theorem REL.lw (h : REL I L R dy) : ∃ o lc, CLF I R dy (I 1 5) o lc ∧ inF I (lfO lc) := by
  obtain ⟨nl, Tf, Cf, hC, hF⟩ := h.1.2.2.1
  obtain ⟨o, lc, a, b⟩ := hC.clf (x := I 1 5) (by rw [hF.1]; exact hF.2)
  refine ⟨o, lc, a, ?_⟩
  rcases b with ⟨b1, b2⟩ | ⟨q, F, b1, b2, -, b3, b4⟩
  · exact Or.inl ⟨b1, hF.1.symm.trans b2⟩
  · exact Or.inr ⟨q, F, b1, b2, hF.1.symm.trans b3, b4⟩
theorem REL.cs (h : REL I L R dy) : ∃ n cF cT cS cL, CSC I n cF cT cS cL ∧ CS I n cF cT cS cL := by
  obtain ⟨n, cF, cT, cS, cL, h1, h2, h3, h4, h5⟩ := h.1.1
  refine ⟨n, cF, cT, cS, cL, ⟨h1, h3, fun c hc => ?_⟩, ⟨h2, h3, fun c hc => ?_⟩⟩
  · obtain ⟨a1, a2, a3, a4, a5, a6, a7, a8⟩ := h5 c hc
    refine ⟨by omega, ?_, ?_, ?_, ?_, a5, a6, a7, a8⟩
    · have z := h4 (c * 4 + 0) (by omega); rw [show 14 + (c * 4 + 0) = 14 + 4 * c + 0 by omega] at z; exact z.trans a1
    · have z := h4 (c * 4 + 1) (by omega); rw [show 14 + (c * 4 + 1) = 14 + 4 * c + 1 by omega] at z; exact z.trans a2
    · have z := h4 (c * 4 + 2) (by omega); rw [show 14 + (c * 4 + 2) = 14 + 4 * c + 2 by omega] at z; exact z.trans a3
    · have z := h4 (c * 4 + 3) (by omega); rw [show 14 + (c * 4 + 3) = 14 + 4 * c + 3 by omega] at z; exact z.trans a4
  · obtain ⟨a1, a2, a3, a4, a5, a6, a7, a8⟩ := h5 c hc
    exact ⟨by omega, a1, a2, a3, a4, a5, a6, a7, a8⟩
theorem REL.hb (h : REL I L R dy) : ∃ nh Tf Cf, HBC I R dy nh Tf Cf ∧ I 76 2 = nI nh ∧ ∀ a, a < nh → HB (I 76) a (txF (Cf a)) := by
  obtain ⟨nh, Tf, Cf, h1, h2, h3, h4⟩ := h.1.2.2.2.1
  exact ⟨nh, Tf, Cf, ⟨h1, h3, fun a ha => ⟨(h4 a ha).1, (h4 a ha).2.1⟩⟩, h2, fun a ha => ⟨by omega, (h4 a ha).2.2⟩⟩
theorem REL.lws (h : REL I L R dy) : ∃ nl Tf Cf, LWS I R dy nl Tf Cf ∧ I 76 1 = nI nl ∧ LAWS (I 76) nl (fun a => txF (Cf a)) := by
  obtain ⟨nl, Tf, Cf, ⟨h1, h2, h3, h4⟩, -⟩ := h.1.2.2.1
  exact ⟨nl, Tf, Cf, ⟨h1, h3, fun a ha => ⟨(h4 a ha).1, (h4 a ha).2.1, (h4 a ha).2.2.1⟩⟩, h2, fun a ha => (h4 a ha).2.2.2⟩
theorem REL.pl (h : REL I L R dy) : ∃ n lo wi, PLc I n lo wi ∧ PL I n lo wi := by
  obtain ⟨n, lo, wi, h1, h2, h3, h4⟩ := h.1.2.2.2.2.1
  exact ⟨n, lo, wi, ⟨h1, h3, fun q hq => by obtain ⟨a1, a2, a3, a4, a5, a6⟩ := h4 q hq; exact ⟨a1, a2, a5, a6⟩⟩, ⟨h2, h3, fun q hq => by obtain ⟨a1, a2, a3, a4, a5, a6⟩ := h4 q hq; exact ⟨a3, a4, a5, a6⟩⟩⟩
theorem REL.sl (h : REL I L R dy) : ∃ n ss sc, CSL I n ss sc ∧ SLP I n ss sc := by
  obtain ⟨n, ss, sc, h1, h2, h3, h4, h5⟩ := h.1.2.2.2.2.2.1
  exact ⟨n, ss, sc, ⟨h1, h3, fun q hq => by obtain ⟨a1, a2, a3, a4, a5, a6⟩ := h4 q hq; exact ⟨a1, a5, a2, a6⟩, h5⟩, ⟨h2, h3, fun q hq => by obtain ⟨a1, a2, a3, a4, a5, a6⟩ := h4 q hq; exact ⟨a3, a5, a4, a6⟩⟩⟩
end RFA
theorem gfi_ge (lo wi : Nat → Nat) (n : Nat) : ∀ f mo, mo ≤ gfi lo wi n f mo
  | 0, mo => Nat.le_refl _
  | f + 1, mo => by
    by_cases c : gnx lo mo n < 100 ∧ gnx lo mo n * gd lo wi n mo < gu lo wi n mo
    · have e : gfi lo wi n (f + 1) mo = gfi lo wi n f (gnx lo mo n) := if_pos c
      have h1 := (gnx_at lo mo n c.1).1
      have h2 := gfi_ge lo wi n f (gnx lo mo n)
      rw [e]; omega
    · have e : gfi lo wi n (f + 1) mo = mo := if_neg c
      rw [e]; exact Nat.le_refl _
theorem gd_ps {lo wi : Nat → Nat} {n : Nat} (hn : 0 < n) (hw : ∀ p, p < n → 1 ≤ wi p ∧ lo p + wi p ≤ 99) : 0 < gd lo wi n (gfi lo wi n 100 (gmi lo n)) := by
  obtain ⟨q, a, b⟩ := gmi_at lo n (fun r hr => by have := hw r hr; omega) hn
  have h := gfi_ge lo wi n 100 (gmi lo n)
  have hD0 := gD_pos (lo := lo) (wi := wi) (n := n) (mo := gfi lo wi n 100 (gmi lo n)) (fun p hp => by have := hw p hp; omega) a (by omega)
  exact Nat.div_pos (Nat.gcd_le_right _ hD0) (Nat.gcd_pos_of_pos_right _ hD0)
section PRK
variable {kd : Value → Prop} {mc mm : MI} {as : List Value} {I I1 I2 : wI} {L L1 L2 : wL} {R R1 R2 : wR} {dy dz : cH} {v : Value}
/-- a question, by frames -/
theorem PR.K {o : Option Nat} {ci cl : List Nat} (di dj dl dk : List Nat) (hk : kd v) (h0 : REL I L R dy) (h1 : ∀ (l : Launch) (K : cK), CX l K mc 90 (.ref 0 :: as) (hp I L R dy) (α := wI × wL) (fun x => FK ci cl I L x.1 x.2) (fun _ => v) (fun x => hp x.1 x.2 (uR R 21 1 o) dy)) (hc : ∀ k, k ∈ obI → k ∉ ci) (h74 : 74 ∉ ci) (h85 : 85 ∉ cl) (h86 : 86 ∉ cl) (gc : ∀ k, k ∈ obI → k ∉ di) (gj : ∀ j, j ∈ ob74 → j ∉ dj) (g85 : 85 ∉ dl) (g86 : 86 ∉ dl) (h2 : ∀ (I1 : wI) (L1 : wL), I1 76 = I 76 → I1 74 15 = 0 → ∀ (l : Launch) (K : cK), CX l K mm 90 (.ref 74 :: as) (hp I1 L1 (uR R 21 1 o) dy) (α := wI × wL) (fun x => FR di dj dl dk I1 L1 x.1 x.2) (fun _ => v) (fun x => hp x.1 x.2 (uR R 21 1 o) dy)) : PR kd mc mm 0 0 as I L R dy :=
  PR.Q (α := wI × wL) (β := wI × wL) (P2 := fun y x => FR di dj dl dk y.1 y.2 x.1 x.2) (gI := fun _ x => x.1) (gL := fun _ x => x.2) (gR := fun _ _ => uR R 21 1 o) hk h0 h1 (fun y hy => by
    obtain ⟨a, b, c, e⟩ := fk_ob hy hc h74 h85 h86
    exact ⟨a, b, c, e, ur_ob⟩) (fun y e hr l K => h2 y.1 y.2 e hr.h15 l K) (fun y z hz => by
    obtain ⟨a, b, c, e⟩ := fr_ob hz gc gj g85 g86
    exact ⟨a, b, c, e, fun _ _ => rfl⟩)
end PRK
