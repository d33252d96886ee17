theorem nin {l : List Nat} {q c : Nat} (hq : q ∈ l) (hc : c ∉ l) : q ≠ c := fun e => hc (e ▸ hq)
def lwT : List Nat := [1, 1, 0, 0, 1, 0, 0, 0]
def hiT : List Nat := [9, 4, 99, 9, 12, 3, 99, 9]
/-- cars -/
def QA (I : wI) (p : Nat) (g : Nat → Int32) (n : Nat) (cF cT cS cL : Nat → Nat) : Prop := I p 0 = nI n ∧ g 0 = nI n ∧ n ≤ 6 ∧ (∀ j, j < 24 → I (p + 1) j = g (14 + j)) ∧ ∀ c, c < n → g (14 + 4 * c + 0) = nI (cF c) ∧ g (14 + 4 * c + 1) = nI (cT c) ∧ g (14 + 4 * c + 2) = nI (cS c) ∧ g (14 + 4 * c + 3) = nI (cL c) ∧ cF c ≤ cT c ∧ cT c ≤ 11 ∧ cS c ≤ 1 ∧ cL c ≤ 9
/-- terms -/
def QB (I : wI) (p : Nat) (g : Nat → Int32) (tm : Nat → Nat) : Prop := ∀ j, j < 8 → I (p + 2) j = nI (tm j) ∧ g (6 + j) = nI (tm j) ∧ lwT.getD j 0 ≤ tm j ∧ tm j ≤ hiT.getD j 0
/-- laws -/
def QC (I : wI) (R : wR) (dy : cH) (p : Nat) (g : Nat → Int32) (nl : Nat) (Tf : Nat → Nat) (Cf : Nat → List Cl) : Prop := I p 3 = nI nl ∧ g 1 = nI nl ∧ nl ≤ 6 ∧ ∀ a, a < nl → R (p + 3) a = some (Tf a) ∧ CTX dy (Tf a) (Cf a) ∧ SPR (Cf a) ∧ TMF g (80 + 900 * a) (txF (Cf a))
def QF (I : wI) (p : Nat) (g : Nat → Int32) (nl : Nat) : Prop := I p 5 = g 5 ∧ (g 5 = -1 ∨ ∃ a, a < nl ∧ g 5 = nI a)
/-- habits -/
def QD (I : wI) (R : wR) (dy : cH) (p : Nat) (g : Nat → Int32) (nh : Nat) (Tf : Nat → Nat) (Cf : Nat → List Cl) : Prop := I p 6 = nI nh ∧ g 2 = nI nh ∧ nh ≤ 6 ∧ ∀ a, a < nh → R (p + 4) a = some (Tf a) ∧ CTX dy (Tf a) (Cf a) ∧ TMF g (5480 + 900 * a) (txF (Cf a))
/-- places -/
def QE (I : wI) (p : Nat) (g : Nat → Int32) (n : Nat) (lo wi : Nat → Nat) : Prop := I p 8 = nI n ∧ g 3 = nI n ∧ n ≤ 6 ∧ ∀ q, q < n → I (p + 5) q = nI (lo q) ∧ I (p + 6) q = nI (lo q + wi q) ∧ g (38 + 2 * q) = nI (lo q) ∧ g (38 + 2 * q + 1) = nI (lo q + wi q) ∧ 1 ≤ wi q ∧ lo q + wi q ≤ 99
/-- slips -/
def QS (I : wI) (p : Nat) (g : Nat → Int32) (n : Nat) (ss sc : Nat → Nat) : Prop := I p 11 = nI n ∧ g 4 = nI n ∧ n ≤ 12 ∧ (∀ k, k < n → I (p + 7) k = nI (ss k) ∧ I (p + 8) k = nI (sc k) ∧ g (50 + 2 * k) = nI (ss k) ∧ g (50 + 2 * k + 1) = nI (sc k) ∧ ss k < 12 ∧ sc k ≤ 1) ∧ dif ss n
def QT (R : wR) (dy : cH) (p : Nat) : Prop := ∀ j, j < 6 → okT dy (R (p + 3) j) ∧ okT dy (R (p + 4) j)
/-- a state of the class and a row of the model -/
def SQ (I : wI) (R : wR) (dy : cH) (p : Nat) (g : Nat → Int32) : Prop := (∃ n cF cT cS cL, QA I p g n cF cT cS cL) ∧ (∃ tm, QB I p g tm) ∧ (∃ nl Tf Cf, QC I R dy p g nl Tf Cf ∧ QF I p g nl) ∧ (∃ nh Tf Cf, QD I R dy p g nh Tf Cf) ∧ (∃ n lo wi, QE I p g n lo wi) ∧ (∃ n ss sc, QS I p g n ss sc) ∧ QT R dy p
section QCG
variable {I I2 : wI} {R R2 : wR} {dy dz : cH} {p q : Nat} {g g2 : Nat → Int32}
theorem QA.cg {n : Nat} {cF cT cS cL : Nat → Nat} (h : QA I q g n cF cT cS cL) (e0 : I2 p 0 = I q 0) (e1 : ∀ j, j < 24 → I2 (p + 1) j = I (q + 1) j) (eg : ∀ j, j = 0 ∨ 14 ≤ j ∧ j < 38 → g2 j = g j) : QA I2 p g2 n cF cT cS cL := by
  obtain ⟨h1, h2, h3, h4, h5⟩ := h
  refine ⟨e0.trans h1, (eg 0 (by omega)).trans h2, h3, fun j hj => ((e1 j hj).trans (h4 j hj)).trans (eg (14 + j) (by omega)).symm, fun c hc => ?_⟩
  obtain ⟨a1, a2, a3, a4, a5⟩ := h5 c hc
  exact ⟨(eg _ (by omega)).trans a1, (eg _ (by omega)).trans a2, (eg _ (by omega)).trans a3, (eg _ (by omega)).trans a4, a5⟩
theorem QB.cg {tm : Nat → Nat} (h : QB I q g tm) (e : ∀ j, j < 8 → I2 (p + 2) j = I (q + 2) j) (eg : ∀ j, 6 ≤ j → j < 14 → g2 j = g j) : QB I2 p g2 tm := fun j hj =>
  ⟨(e j hj).trans (h j hj).1, (eg _ (by omega) (by omega)).trans (h j hj).2.1, (h j hj).2.2⟩
theorem QC.cg {nl : Nat} {Tf : Nat → Nat} {Cf : Nat → List Cl} (h : QC I R dy q g nl Tf Cf) (e : I2 p 3 = I q 3) (eR : ∀ j, j < 6 → R2 (p + 3) j = R (q + 3) j) (eg1 : g2 1 = g 1) (eg : ∀ j, 80 ≤ j → j < 5480 → g2 j = g j) : QC I2 R2 (dy ++ dz) p g2 nl Tf Cf := by
  obtain ⟨h1, h2, h3, h4⟩ := h
  refine ⟨e.trans h1, eg1.trans h2, h3, fun a ha => ?_⟩
  obtain ⟨a1, a2, a3, a4⟩ := h4 a ha
  exact ⟨(eR a (by omega)).trans a1, a2.ap, a3, a4.cg (fun j h1 h2 => eg j (by omega) (by omega))⟩
theorem QF.cg {nl : Nat} (h : QF I q g nl) (e : I2 p 5 = I q 5) (eg : g2 5 = g 5) : QF I2 p g2 nl := ⟨(e.trans h.1).trans eg.symm, by rw [eg]; exact h.2⟩
theorem QD.cg {nl : Nat} {Tf : Nat → Nat} {Cf : Nat → List Cl} (h : QD I R dy q g nl Tf Cf) (e : I2 p 6 = I q 6) (eR : ∀ j, j < 6 → R2 (p + 4) j = R (q + 4) j) (eg1 : g2 2 = g 2) (eg : ∀ j, 5480 ≤ j → j < 10880 → g2 j = g j) : QD I2 R2 (dy ++ dz) p g2 nl Tf Cf := by
  obtain ⟨h1, h2, h3, h4⟩ := h
  refine ⟨e.trans h1, eg1.trans h2, h3, fun a ha => ?_⟩
  obtain ⟨a1, a2, a4⟩ := h4 a ha
  exact ⟨(eR a (by omega)).trans a1, a2.ap, a4.cg (fun j h1 h2 => eg j (by omega) (by omega))⟩
theorem QE.cg {n : Nat} {lo wi : Nat → Nat} (h : QE I q g n lo wi) (e : I2 p 8 = I q 8) (e5 : ∀ j, j < 6 → I2 (p + 5) j = I (q + 5) j ∧ I2 (p + 6) j = I (q + 6) j) (eg : ∀ j, j = 3 ∨ 38 ≤ j ∧ j < 50 → g2 j = g j) : QE I2 p g2 n lo wi := by
  obtain ⟨h1, h2, h3, h4⟩ := h
  refine ⟨e.trans h1, (eg 3 (by omega)).trans h2, h3, fun a ha => ?_⟩
  obtain ⟨a1, a2, a3, a4, a5⟩ := h4 a ha
  exact ⟨(e5 a (by omega)).1.trans a1, (e5 a (by omega)).2.trans a2, (eg _ (by omega)).trans a3, (eg _ (by omega)).trans a4, a5⟩
theorem QS.cg {n : Nat} {ss sc : Nat → Nat} (h : QS I q g n ss sc) (e : I2 p 11 = I q 11) (e7 : ∀ j, j < 12 → I2 (p + 7) j = I (q + 7) j ∧ I2 (p + 8) j = I (q + 8) j) (eg : ∀ j, j = 4 ∨ 50 ≤ j ∧ j < 74 → g2 j = g j) : QS I2 p g2 n ss sc := by
  obtain ⟨h1, h2, h3, h4, h5⟩ := h
  refine ⟨e.trans h1, (eg 4 (by omega)).trans h2, h3, fun a ha => ?_, h5⟩
  obtain ⟨a1, a2, a3, a4, a5⟩ := h4 a ha
  exact ⟨(e7 a (by omega)).1.trans a1, (e7 a (by omega)).2.trans a2, (eg _ (by omega)).trans a3, (eg _ (by omega)).trans a4, a5⟩
theorem okT.ap {o : Option Nat} (h : okT dy o) : okT (dy ++ dz) o := by
  rcases h with h | ⟨k, vs, h1, h2⟩
  · exact Or.inl h
  · exact Or.inr ⟨k, vs, h1, ap_at h2⟩
theorem QT.cg (h : QT R dy q) (eR : ∀ j, j < 6 → R2 (p + 3) j = R (q + 3) j ∧ R2 (p + 4) j = R (q + 4) j) : QT R2 (dy ++ dz) p := fun j hj => by
  rw [(eR j hj).1, (eR j hj).2]; exact ⟨(h j hj).1.ap, (h j hj).2.ap⟩
theorem SQ.cp (h : SQ I R dy q g) (e : SEq I I2 R R2 p q) (eg : ∀ j, j < 10880 → g2 j = g j) : SQ I2 R2 (dy ++ dz) p g2 := by
  obtain ⟨⟨n, cF, cT, cS, cL, hA⟩, ⟨tm, hB⟩, ⟨nl, Tf, Cf, hC, hF⟩, ⟨nh, Th, Ch, hD⟩, ⟨np, lo, wi, hE⟩, ⟨ns, ss, sc, hS⟩, hT⟩ := h
  obtain ⟨e1, e2, e3, e4, e5, e6⟩ := e
  exact ⟨⟨n, cF, cT, cS, cL, hA.cg (e1 0 (by omega)) e2 (fun j hj => eg j (by omega))⟩, ⟨tm, hB.cg e3 (fun j _ h2 => eg j (by omega))⟩, ⟨nl, Tf, Cf, hC.cg (e1 3 (by omega)) (fun j hj => (e6 j hj).1) (eg 1 (by omega)) (fun j _ h2 => eg j (by omega)), hF.cg (e1 5 (by omega)) (eg 5 (by omega))⟩, ⟨nh, Th, Ch, hD.cg (e1 6 (by omega)) (fun j hj => (e6 j hj).2) (eg 2 (by omega)) (fun j _ h2 => eg j h2)⟩, ⟨np, lo, wi, hE.cg (e1 8 (by omega)) e4 (fun j hj => eg j (by omega))⟩, ⟨ns, ss, sc, hS.cg (e1 11 (by omega)) e5 (fun j hj => eg j (by omega))⟩, hT.cg e6⟩
theorem SEq.same (hI : ∀ k, q ≤ k → k < q + 9 → I2 k = I k) (hR : ∀ k, q ≤ k → k < q + 9 → R2 k = R k) : SEq I I2 R R2 q q :=
  ⟨fun j _ => by rw [hI q (by omega) (by omega)], fun j _ => by rw [hI (q + 1) (by omega) (by omega)], fun j _ => by rw [hI (q + 2) (by omega) (by omega)], fun j _ => ⟨by rw [hI (q + 5) (by omega) (by omega)], by rw [hI (q + 6) (by omega) (by omega)]⟩, fun j _ => ⟨by rw [hI (q + 7) (by omega) (by omega)], by rw [hI (q + 8) (by omega) (by omega)]⟩, fun j _ => ⟨by rw [hR (q + 3) (by omega) (by omega)], by rw [hR (q + 4) (by omega) (by omega)]⟩⟩
end QCG
/-- an image -/
def IMR (I : wI) (R : wR) (dy : cH) (k : Nat) : Prop := (I 11 k = 0 ∧ I 78 k = 0) ∨ (I 11 k = 1 ∧ I 78 k = 1 ∧ SQ I R dy (56 + 9 * k) (fun j => I 77 (10880 * k + j)))
/-- the day on paper -/
def DYR (I : wI) : Prop := (I 44 3 = 0 ∧ I 74 58 = 0) ∨ (I 44 3 = 1 ∧ I 74 58 = 1 ∧ ∃ n, n ≤ 6 ∧ I 44 4 = nI n ∧ I 74 57 = nI n ∧ (∀ q, q < 12 → I 45 q = I 102 q) ∧ ∀ c, c < n → I 46 c = I 101 (3 * c) ∧ I 47 c = I 101 (3 * c + 1) ∧ I 48 c = I 101 (3 * c + 2))
def CNR (I : wI) : Prop := I 55 0 = I 75 1 ∧ I 55 1 = I 75 2 ∧ I 55 2 = I 75 3 ∧ I 55 3 = I 75 5 ∧ I 55 4 = I 75 6
def TPR (I : wI) : Prop := ∃ tp t, TPc I tp t ∧ TPm I tp t
def IMS (I : wI) (R : wR) (dy : cH) : Prop := IMR I R dy 0 ∧ IMR I R dy 1 ∧ R 10 0 = some 56 ∧ R 10 1 = some 65
def WRD (I : wI) (L : wL) : Prop := I 74 15 = 0 ∧ ∀ k, k < 7 → L 85 k = lN (lws true k) ∧ L 86 k = lN (lws false k)
/-- the class and the model mean the same -/
def REL (I : wI) (L : wL) (R : wR) (dy : cH) : Prop := SQ I R dy 1 (I 76) ∧ IMS I R dy ∧ TPR I ∧ CNR I ∧ WRD I L ∧ DYR I ∧ I 0 14 = I 74 1 ∧ I 0 15 = I 74 13 ∧ I 0 16 = I 74 6
section RCG
variable {I I2 : wI} {L L2 : wL} {R R2 : wR} {dy dz : cH}
theorem IMR.fr {k : Nat} (hk : k < 2) (h : IMR I R dy k) (e11 : I2 11 k = I 11 k) (e78 : I2 78 k = I 78 k) (e77 : I2 77 = I 77) (eI : ∀ q, 56 ≤ q → q < 74 → I2 q = I q) (eR : ∀ q, 56 ≤ q → q < 74 → R2 q = R q) : IMR I2 R2 (dy ++ dz) k := by
  rcases h with ⟨h1, h2⟩ | ⟨h1, h2, h3⟩
  · exact Or.inl ⟨e11.trans h1, e78.trans h2⟩
  · exact Or.inr ⟨e11.trans h1, e78.trans h2, h3.cp (SEq.same (fun q a b => eI q (by omega) (by omega)) (fun q a b => eR q (by omega) (by omega))) (fun j _ => by rw [e77])⟩
theorem IMS.fr (h : IMS I R dy) (e11 : I2 11 = I 11) (e78 : I2 78 = I 78) (e77 : I2 77 = I 77) (eI : ∀ q, 56 ≤ q → q < 74 → I2 q = I q) (eR : ∀ q, q = 10 ∨ 56 ≤ q → q < 74 → R2 q = R q) : IMS I2 R2 (dy ++ dz) :=
  ⟨h.1.fr (by decide) (by rw [e11]) (by rw [e78]) e77 eI (fun q a b => eR q (Or.inr a) b), h.2.1.fr (by decide) (by rw [e11]) (by rw [e78]) e77 eI (fun q a b => eR q (Or.inr a) b), by rw [eR 10 (Or.inl rfl) (by decide)]; exact h.2.2.1, by rw [eR 10 (Or.inl rfl) (by decide)]; exact h.2.2.2⟩
theorem TPR.fr (h : TPR I) (e1 : I2 12 1 = I 12 1) (e13 : I2 13 = I 13) (e8 : I2 74 8 = I 74 8) (e79 : I2 79 = I 79) : TPR I2 := by
  obtain ⟨tp, t, ⟨a1, a2, a3, a4⟩, b1, b2, b3, b4⟩ := h
  exact ⟨tp, t, ⟨a1, e1.trans a2, by rw [e13]; exact a3, a4⟩, b1, e8.trans b2, by rw [e79]; exact b3, b4⟩
theorem CNR.fr (h : CNR I) (e1 : I2 55 = I 55) (e2 : I2 75 = I 75) : CNR I2 := by unfold CNR at *; rw [e1, e2]; exact h
theorem DYR.fr (h : DYR I) (e : ∀ q, 44 ≤ q → q < 49 → I2 q = I q) (e1 : I2 101 = I 101) (e2 : I2 102 = I 102) (e7 : I2 74 57 = I 74 57) (e8 : I2 74 58 = I 74 58) : DYR I2 := by
  unfold DYR at *
  rw [e 44 (by decide) (by decide), e 45 (by decide) (by decide), e 46 (by decide) (by decide), e 47 (by decide) (by decide), e 48 (by decide) (by decide), e1, e2, e7, e8]; exact h
theorem WRD.fr (h : WRD I L) (e : I2 74 15 = I 74 15) (e5 : L2 85 = L 85) (e6 : L2 86 = L 86) : WRD I2 L2 := ⟨e.trans h.1, by rw [e5, e6]; exact h.2⟩
/-- what the relation looks at -/
def obI : List Nat := [0, 1, 2, 3, 4, 5, 6, 7, 8, 9, 11, 12, 13, 44, 45, 46, 47, 48, 55, 56, 57, 58, 59, 60, 61, 62, 63, 64, 65, 66, 67, 68, 69, 70, 71, 72, 73, 75, 76, 77, 78, 79, 101, 102]
def ob74 : List Nat := [1, 6, 8, 13, 15, 57, 58]
def obR : List Nat := [1, 2, 3, 4, 5, 6, 7, 8, 9, 10, 56, 57, 58, 59, 60, 61, 62, 63, 64, 65, 66, 67, 68, 69, 70, 71, 72, 73]
theorem ob_56 {q : Nat} (h : 56 ≤ q) (h2 : q < 74) : q ∈ obI ∧ q ∈ obR := by
  have : ∀ q : Fin 74, 56 ≤ q.1 → q.1 ∈ obI ∧ q.1 ∈ obR := by decide
  exact this ⟨q, h2⟩ h
theorem ob_1 {q : Nat} (h : 1 ≤ q) (h2 : q < 10) : q ∈ obI ∧ q ∈ obR := by
  have : ∀ q : Fin 10, 1 ≤ q.1 → q.1 ∈ obI ∧ q.1 ∈ obR := by decide
  exact this ⟨q, h2⟩ h
theorem ob_44 {q : Nat} (h : 44 ≤ q) (h2 : q < 49) : q ∈ obI := by
  have : ∀ q : Fin 49, 44 ≤ q.1 → q.1 ∈ obI := by decide
  exact this ⟨q, h2⟩ h
theorem REL.fr (h : REL I L R dy) (hI : ∀ k, k ∈ obI → I2 k = I k) (h74 : ∀ j, j ∈ ob74 → I2 74 j = I 74 j) (h85 : L2 85 = L 85) (h86 : L2 86 = L 86) (hR : ∀ k, k ∈ obR → R2 k = R k) : REL I2 L2 R2 (dy ++ dz) := by
  obtain ⟨h1, h2, h3, h4, h5, h6, h7, h8, h9⟩ := h
  have e := fun k (hk : k ∈ obI) => hI k hk
  refine ⟨h1.cp (SEq.same (fun k a b => hI k (ob_1 a b).1) (fun k a b => hR k (ob_1 a b).2)) (fun j _ => by rw [e 76 (by decide)]), h2.fr (e 11 (by decide)) (e 78 (by decide)) (e 77 (by decide)) (fun q a b => hI q (ob_56 a b).1) (fun q a b => ?_), h3.fr (by rw [e 12 (by decide)]) (e 13 (by decide)) (h74 8 (by decide)) (e 79 (by decide)), h4.fr (e 55 (by decide)) (e 75 (by decide)), h5.fr (h74 15 (by decide)) h85 h86, h6.fr (fun q a b => hI q (ob_44 a b)) (e 101 (by decide)) (e 102 (by decide)) (h74 57 (by decide)) (h74 58 (by decide)), ?_, ?_, ?_⟩
  · rcases a with rfl | a
    · exact hR 10 (by decide)
    · exact hR q (ob_56 a b).2
  · rw [e 0 (by decide), h74 1 (by decide)]; exact h7
  · rw [e 0 (by decide), h74 13 (by decide)]; exact h8
  · rw [e 0 (by decide), h74 6 (by decide)]; exact h9
theorem REL.f0 (h : REL I L R dy) (hI : ∀ k, k ∈ obI → I2 k = I k) (h74 : ∀ j, j ∈ ob74 → I2 74 j = I 74 j) (h85 : L2 85 = L 85) (h86 : L2 86 = L 86) (hR : ∀ k, k ∈ obR → R2 k = R k) : REL I2 L2 R2 dy := by
  have z := h.fr (dz := []) hI h74 h85 h86 hR
  rw [List.append_nil] at z; exact z
end RCG
/-- what the class does, and the model behind it -/
def PR (kd : Value → Prop) (mc mm : MI) (kc ks : Nat) (as : List Value) (I : wI) (L : wL) (R : wR) (dy : cH) : Prop := ∀ (l : Launch) (K : cK), CC l K mc 90 kc ks (.ref 0 :: as) (hp I L R dy) (fun r h1 => ∃ (v : Value) (I1 : wI) (L1 : wL) (R1 : wR) (dz : cH), kd v ∧ r = some v ∧ h1 = hp I1 L1 R1 (dy ++ dz) ∧ CC l K mm 90 0 0 (.ref 74 :: as) h1 (fun r2 h2 => r2 = some v ∧ ∃ (I2 : wI) (L2 : wL) (R2 : wR), h2 = hp I2 L2 R2 (dy ++ dz) ∧ REL I2 L2 R2 (dy ++ dz)))
def kdI (v : Value) : Prop := ∃ x : Int32, v = .int x
def kdL (v : Value) : Prop := ∃ x : Int64, v = .long x
section PRS
variable {kd : Value → Prop} {mc mm : MI} {as : List Value} {I I1 I2 : wI} {L L1 L2 : wL} {R R1 R2 : wR} {dy dz : cH} {v : Value}
theorem PR.E (hk : kd v) (h1 : ∀ (l : Launch) (K : cK), CE l K mc 90 (.ref 0 :: as) (hp I L R dy) v (hp I1 L1 R1 dy)) (h2 : ∀ (l : Launch) (K : cK), CE l K mm 90 (.ref 74 :: as) (hp I1 L1 R1 dy) v (hp I2 L2 R2 dy)) (hR : REL I2 L2 R2 dy) : PR kd mc mm 0 0 as I L R dy := fun l K =>
  CC.mono (h1 l K) (fun r h q => by
    obtain ⟨rfl, rfl⟩ := q
    refine ⟨v, I1, L1, R1, [], hk, rfl, by rw [List.append_nil], CC.mono (h2 l K) (fun r2 h3 q2 => ?_)⟩
    obtain ⟨rfl, rfl⟩ := q2
    exact ⟨rfl, I2, L2, R2, by rw [List.append_nil], by rw [List.append_nil]; exact hR⟩)
theorem PR.X {α β : Type} {P : α → Prop} {fI : α → wI} {fL : α → wL} {fR : α → wR} {P2 : α → β → Prop} {gI : α → β → wI} {gL : α → β → wL} {gR : α → β → wR} (hk : kd v) (h1 : ∀ (l : Launch) (K : cK), CX l K mc 90 (.ref 0 :: as) (hp I L R dy) P (fun _ => v) (fun y => hp (fI y) (fL y) (fR y) dy)) (h2 : ∀ y, P y → ∀ (l : Launch) (K : cK), CX l K mm 90 (.ref 74 :: as) (hp (fI y) (fL y) (fR y) dy) (P2 y) (fun _ => v) (fun z => hp (gI y z) (gL y z) (gR y z) dy)) (hR : ∀ y z, P y → P2 y z → REL (gI y z) (gL y z) (gR y z) dy) : PR kd mc mm 0 0 as I L R dy := fun l K =>
  CC.mono (h1 l K) (fun r h q => by
    obtain ⟨y, hy, rfl, rfl⟩ := q
    refine ⟨v, fI y, fL y, fR y, [], hk, rfl, by rw [List.append_nil], CC.mono (h2 y hy l K) (fun r2 h3 q2 => ?_)⟩
    obtain ⟨z, hz, rfl, rfl⟩ := q2
    exact ⟨rfl, _, _, _, by rw [List.append_nil], by rw [List.append_nil]; exact hR y z hy hz⟩)
/-- a question: nothing changes that the relation looks at -/
theorem PR.Q {α β : Type} {P : α → Prop} {fI : α → wI} {fL : α → wL} {fR : α → wR} {P2 : α → β → Prop} {gI : α → β → wI} {gL : α → β → wL} {gR : α → β → wR} (hk : kd v) (h0 : REL I L R dy) (h1 : ∀ (l : Launch) (K : cK), CX l K mc 90 (.ref 0 :: as) (hp I L R dy) P (fun _ => v) (fun y => hp (fI y) (fL y) (fR y) dy)) (hF : ∀ y, P y → (∀ k, k ∈ obI → fI y k = I k) ∧ (∀ j, j ∈ ob74 → fI y 74 j = I 74 j) ∧ fL y 85 = L 85 ∧ fL y 86 = L 86 ∧ ∀ k, k ∈ obR → fR y k = R k) (h2 : ∀ y, fI y 76 = I 76 → REL (fI y) (fL y) (fR y) dy → ∀ (l : Launch) (K : cK), CX l K mm 90 (.ref 74 :: as) (hp (fI y) (fL y) (fR y) dy) (P2 y) (fun _ => v) (fun z => hp (gI y z) (gL y z) (gR y z) dy)) (hG : ∀ y z, P2 y z → (∀ k, k ∈ obI → gI y z k = fI y k) ∧ (∀ j, j ∈ ob74 → gI y z 74 j = fI y 74 j) ∧ gL y z 85 = fL y 85 ∧ gL y z 86 = fL y 86 ∧ ∀ k, k ∈ obR → gR y z k = fR y k) : PR kd mc mm 0 0 as I L R dy := by
  have hr : ∀ y, P y → REL (fI y) (fL y) (fR y) dy := fun y hy => by
    obtain ⟨a, b, c, e, f⟩ := hF y hy
    exact h0.f0 a b c e f
  refine PR.X hk h1 (fun y hy => h2 y ((hF y hy).1 76 (by decide)) (hr y hy)) (fun y z hy hz => ?_)
  obtain ⟨a, b, c, e, f⟩ := hG y z hz
  exact (hr y hy).f0 a b c e f
/-- a question that leaves the class as it is -/
theorem PR.E0 (hk : kd v) (h0 : REL I L R dy) (h1 : ∀ (l : Launch) (K : cK), CE l K mc 90 (.ref 0 :: as) (hp I L R dy) v (hp I L R dy)) (h2 : ∀ (l : Launch) (K : cK), CE l K mm 90 (.ref 74 :: as) (hp I L R dy) v (hp (uI I 74 0 0) L R dy)) : PR kd mc mm 0 0 as I L R dy :=
  PR.E hk h1 h2 (h0.f0 (fun k hk => uI_n (nin hk (by decide))) (fun j hj => uI_sn (nin hj (by decide))) rfl rfl (fun _ _ => rfl))
theorem fk_ob {ci cl : List Nat} (h : FK ci cl I L I2 L2) (hc : ∀ k, k ∈ obI → k ∉ ci) (h74 : 74 ∉ ci) (h85 : 85 ∉ cl) (h86 : 86 ∉ cl) : (∀ k, k ∈ obI → I2 k = I k) ∧ (∀ j, j ∈ ob74 → I2 74 j = I 74 j) ∧ L2 85 = L 85 ∧ L2 86 = L 86 :=
  ⟨fun k hk => h.1 k (hc k hk), fun j _ => by rw [h.1 74 h74], h.2 85 h85, h.2 86 h86⟩
theorem fr_ob {ci cj cl ck : List Nat} (h : FR ci cj cl ck I L I2 L2) (hc : ∀ k, k ∈ obI → k ∉ ci) (hj : ∀ j, j ∈ ob74 → j ∉ cj) (h85 : 85 ∉ cl) (h86 : 86 ∉ cl) : (∀ k, k ∈ obI → I2 k = I k) ∧ (∀ j, j ∈ ob74 → I2 74 j = I 74 j) ∧ L2 85 = L 85 ∧ L2 86 = L 86 :=
  ⟨fun k hk => h.1 k (hc k hk) (nin hk (by decide)), fun j hjj => h.2.1 j (hj j hjj), h.2.2.1 85 h85 (by decide), h.2.2.1 86 h86 (by decide)⟩
theorem ur_ob {o : Option Nat} : ∀ k, k ∈ obR → uR R 21 1 o k = R k := fun k hk => uR_n (nin hk (by decide))
end PRS
