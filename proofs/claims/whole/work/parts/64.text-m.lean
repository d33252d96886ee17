/-- what a clause tells -/
def tl1 (c : Cl) (env : Nat → Int64) (head : Nat) : Option Int64 := if c.1 = head then (c.2.2 env).bind (fun x => if x = 0 then none else c.2.1 env) else none
/-- what the last clause that holds tells -/
def tW (cs : List Cl) (env : Nat → Int64) (head : Nat) : Nat → Option Int64
  | 0 => none
  | n + 1 => (tl1 (cs.getD n (0, d0, d0)) env head).elim (tW cs env head n) some
def txF (cs : List Cl) : hbF := fun env head w => (tW cs env head cs.length).getD w
def DOK (v : Den) : Prop := ∀ e1 e2 : Nat → Int64, (∀ j, 1 ≤ j → j ≤ 7 → e1 j = e2 j) → v e1 = v e2
theorem DOK.bin {o : Nat} {v w : Den} (h1 : DOK v) (h2 : DOK w) : DOK (binD o v w) := fun e1 e2 h => by unfold binD; rw [h1 e1 e2 h, h2 e1 e2 h]
theorem DOK.not {v : Den} (h1 : DOK v) : DOK (notD v) := fun e1 e2 h => by unfold notD; rw [h1 e1 e2 h]
theorem DOK.jmp {o : Nat} {v w : Den} (h1 : DOK v) (h2 : DOK w) : DOK (jmpD o v w) := fun e1 e2 h => by unfold jmpD; rw [h1 e1 e2 h, h2 e1 e2 h]
def RDk (r : Res) : Prop := match r with
  | .inl _ => True
  | .inr (_, _, v) => DOK v
theorem RDk.rb {r : Res} {k : Nat → Nat → Den → Res} (h : RDk r) (hk : ∀ f p v, DOK v → RDk (k f p v)) : RDk (rb r k) := by
  match r, h with
  | .inl e, _ => trivial
  | .inr (f, p, v), h => exact hk f p v h
theorem pz_dok (tp : Nat → Nat) (t : Nat) (lw : Bool) : ∀ (n k br pa f : Nat) (v : Den), DOK v → RDk (pz tp t lw n k br pa f v)
  | 0, k, br, pa, f, v, h => by unfold pz; exact trivial
  | n + 1, 0, br, pa, f, v, h => RDk.rb (pz_dok tp t lw n 1 br pa f v h) (fun f p v h => pz_dok tp t lw n 7 br p f v h)
  | n + 1, 1, br, pa, f, v, h => RDk.rb (pz_dok tp t lw n 2 br pa f v h) (fun f p v h => pz_dok tp t lw n 8 br p f v h)
  | n + 1, 2, br, pa, f, v, h => by
    show RDk (if _ then _ else if _ then (if _ then _ else _) else _)
    split
    · exact RDk.rb (pz_dok tp t lw n 2 br pa _ v h) (fun f p v h => h.not)
    · split
      · split
        · refine RDk.rb (pz_dok tp t lw n 0 (br + 1) pa _ v h) (fun f p v h => ?_)
          split
          · exact h
          · trivial
        · trivial
      · exact pz_dok tp t lw n 3 br pa f v h
  | n + 1, 3, br, pa, f, v, h => by
    refine RDk.rb (pz_dok tp t lw n 4 br pa f v h) (fun f1 p1 v1 h1 => ?_)
    split
    · trivial
    · exact RDk.rb (pz_dok tp t lw n 4 br p1 _ v h) (fun f2 p2 v2 h2 => h1.bin h2)
  | n + 1, 4, br, pa, f, v, h => RDk.rb (pz_dok tp t lw n 5 br pa f v h) (fun f p v h => pz_dok tp t lw n 9 br p f v h)
  | n + 1, 5, br, pa, f, v, h => RDk.rb (pz_dok tp t lw n 6 br pa f v h) (fun f p v h => pz_dok tp t lw n 10 br p f v h)
  | n + 1, 6, br, pa, f, v, h => by
    show RDk (if _ then (if _ then _ else _) else if _ then _ else _)
    split
    · split
      · refine RDk.rb (pz_dok tp t lw n 4 (br + 1) pa _ v h) (fun f p v h => ?_)
        split
        · exact h
        · trivial
      · trivial
    · split
      · show DOK (if _ then _ else _)
        split
        · exact fun _ _ _ => rfl
        · rename_i h1 h2
          refine fun e1 e2 he => ?_
          have h7 := wpa_le tp t f lw 7
          exact congrArg some (he _ (by rcases h1.1 with z | z; omega; exact absurd z h2) h7)
      · trivial
  | n + 1, 7, br, pa, f, v, h => by
    show RDk (if _ then _ else _)
    split
    · exact RDk.rb (pz_dok tp t lw n 1 br pa _ v h) (fun f1 p1 v1 h1 => pz_dok tp t lw n 7 br p1 f1 _ (h.jmp h1))
    · exact h
  | n + 1, 8, br, pa, f, v, h => by
    show RDk (if _ then _ else _)
    split
    · exact RDk.rb (pz_dok tp t lw n 2 br pa _ v h) (fun f1 p1 v1 h1 => pz_dok tp t lw n 8 br p1 f1 _ (h.jmp h1))
    · exact h
  | n + 1, 9, br, pa, f, v, h => by
    show RDk (if _ then _ else _)
    split
    · exact h
    · exact RDk.rb (pz_dok tp t lw n 5 br pa _ v h) (fun f1 p1 v1 h1 => pz_dok tp t lw n 9 br p1 f1 _ (h.bin h1))
  | n + 1, 10, br, pa, f, v, h => by
    show RDk (if _ then _ else _)
    split
    · exact h
    · exact RDk.rb (pz_dok tp t lw n 6 br pa _ v h) (fun f1 p1 v1 h1 => pz_dok tp t lw n 10 br p1 f1 _ (h.bin h1))
  | n + 1, k + 11, br, pa, f, v, h => trivial
theorem pE_dok {tp : Nat → Nat} {t : Nat} {lw te : Bool} {pa f f1 p1 : Nat} {v1 : Den} (h : pE tp t lw te pa f = .inr (f1, p1, v1)) : DOK v1 := by
  have := pz_dok tp t lw 3300 (if te = true then 0 else 4) 0 pa f d0 (fun _ _ _ => rfl)
  unfold pE at h; rw [h] at this; exact this
def CDK (c : Cl) : Prop := DOK c.2.1 ∧ DOK c.2.2
theorem pcl_dok {tp : Nat → Nat} {t : Nat} {lw : Bool} {nc pa f f1 p1 : Nat} {c : Cl} (h : pcl tp t lw nc pa f = .inr (f1, p1, c)) : CDK c := by
  unfold pcl at h
  split at h
  · cases h
  · have hd : DOK d1 := fun _ _ _ => rfl
    cases hs : (if hdK tp t f lw = 3 then (.inr (nxt tp t f, pa, d1) : Res) else pE tp t lw false pa (nxt tp t f)) with
    | inl e => rw [hs] at h; cases h
    | inr w =>
      obtain ⟨f2, p2, v2⟩ := w
      have h2 : DOK v2 := by
        split at hs
        · injection hs with hs; injection hs with _ hs; injection hs with _ hs; rw [← hs]; exact hd
        · exact pE_dok hs
      rw [hs] at h
      simp only at h
      split at h
      · cases hz : pE tp t lw true p2 (nxt tp t f2) with
        | inl e => rw [hz] at h; cases h
        | inr w =>
          obtain ⟨f3, p3, v3⟩ := w
          rw [hz] at h
          simp only at h
          injection h with h; injection h with _ h; injection h with _ h
          rw [← h]; exact ⟨h2, pE_dok hz⟩
      · injection h with h; injection h with _ h; injection h with _ h
        rw [← h]; exact ⟨h2, hd⟩
theorem tl1_dok {c : Cl} (h : CDK c) {e1 e2 : Nat → Int64} (he : ∀ j, 1 ≤ j → j ≤ 7 → e1 j = e2 j) (head : Nat) : tl1 c e1 head = tl1 c e2 head := by unfold tl1; rw [h.1 e1 e2 he, h.2 e1 e2 he]
theorem tW_dok {cs : List Cl} (h : ∀ n, n < cs.length → CDK (cs.getD n (0, d0, d0))) {e1 e2 : Nat → Int64} (he : ∀ j, 1 ≤ j → j ≤ 7 → e1 j = e2 j) (head : Nat) : ∀ n, n ≤ cs.length → tW cs e1 head n = tW cs e2 head n
  | 0, _ => rfl
  | n + 1, hn => by show Option.elim _ _ _ = Option.elim _ _ _; rw [tl1_dok (h n (by omega)) he, tW_dok h he head n (by omega)]
/-- a range's meaning as reckonAll finds it -/
theorem SG.ev {op arg : Nat → Nat} {a b : Nat} {v : Den} (h : SG op arg a b v) (hb : b ≤ 399) (env : Nat → Int64) : eS op arg env b 401 a [] = some ((v env).map (fun x => [x])) ∧ eV op arg env a b = v env := by
  obtain ⟨h1, h2, h3⟩ := h
  obtain ⟨f, hf⟩ := h3 env [] (by show 0 + (b - a) ≤ 399; omega)
  have h4 := eS_fuel h2 f a [] _ (Nat.le_refl _) (by omega) hf
  have h5 := eS_mono op arg env b (b - a + 1) a [] _ h4 (401 - (b - a + 1))
  rw [show b - a + 1 + (401 - (b - a + 1)) = 401 by omega] at h5
  refine ⟨h5, ?_⟩
  unfold eV
  rw [h5]
  cases v env with
  | none => rfl
  | some x => rfl
/-- all clauses, as they lie in the model -/
def CLS (I : wI) (b : Nat) (cs : List Cl) : Prop := ∀ c, c < cs.length → ∃ s1 s2 t2, I 80 (8 * c) = nI (cs.getD c (0, d0, d0)).1 ∧ I 80 (8 * c + 3) = nI s1 ∧ I 80 (8 * c + 4) = nI s2 ∧ I 80 (8 * c + 5) = nI s2 ∧ I 80 (8 * c + 6) = nI t2 ∧ t2 ≤ b ∧ clM (opF I) (agF I) s1 s2 t2 (cs.getD c (0, d0, d0))
theorem clM.cg {I I2 : wI} {s1 s2 t2 b : Nat} {c : Cl} (h : clM (opF I) (agF I) s1 s2 t2 c) (ht : t2 ≤ b) (hc : ∀ q, q < b → I2 81 q = I 81 q ∧ I2 82 q = I 82 q) : clM (opF I2) (agF I2) s1 s2 t2 c := by
  obtain ⟨h1, h2, h3, h4, h5, h6⟩ := h
  refine ⟨h1, h2, h3, fun z => opF_cg (h4 z) (fun q hq => hc q (by omega)), h5, ?_⟩
  rcases h6 with h6 | h6
  · exact Or.inl h6
  · exact Or.inr (opF_cg h6 (fun q hq => hc q (by omega)))
theorem CLS.cg {I I2 : wI} {b b2 : Nat} {cs : List Cl} (h : CLS I b cs) (hb : b ≤ b2) (hc : ∀ q, q < b → I2 81 q = I 81 q ∧ I2 82 q = I 82 q) (h80 : ∀ q, q < 8 * cs.length → I2 80 q = I 80 q) : CLS I2 b2 cs := fun c hcl => by
  obtain ⟨s1, s2, t2, a1, a2, a3, a4, a5, a6, a7⟩ := h c hcl
  exact ⟨s1, s2, t2, (h80 _ (by omega)).trans a1, (h80 _ (by omega)).trans a2, (h80 _ (by omega)).trans a3, (h80 _ (by omega)).trans a4, (h80 _ (by omega)).trans a5, by omega, a7.cg a6 hc⟩
theorem CLS.snoc {I : wI} {b : Nat} {cs : List Cl} {c : Cl} (h : CLS I b cs) (hc : ∃ s1 s2 t2, I 80 (8 * cs.length) = nI c.1 ∧ I 80 (8 * cs.length + 3) = nI s1 ∧ I 80 (8 * cs.length + 4) = nI s2 ∧ I 80 (8 * cs.length + 5) = nI s2 ∧ I 80 (8 * cs.length + 6) = nI t2 ∧ t2 ≤ b ∧ clM (opF I) (agF I) s1 s2 t2 c) : CLS I b (cs ++ [c]) := fun k hk => by
  by_cases e : k < cs.length
  · have : (cs ++ [c]).getD k (0, d0, d0) = cs.getD k (0, d0, d0) := by simp [List.getD, List.getElem?_append_left e]
    rw [this]; exact h k e
  · have e2 : k = cs.length := by simp at hk; omega
    subst e2
    have : (cs ++ [c]).getD cs.length (0, d0, d0) = c := by simp [List.getD]
    rw [this]; exact hc
theorem nI_of_nn {x : Int32} (h : 0 ≤ x.toInt) : x = nI x.toNatClampNeg := by
  have h2 : x.toInt < 2147483648 := Int32.toInt_lt x
  rw [i_eq]
  have : x.toNatClampNeg = x.toInt.toNat := rfl
  rw [this, nI_ti (by omega)]; omega
theorem cl_tl1 {op arg : Nat → Nat} {env : Nat → Int64} {head s1 s2 t2 : Nat} (c : Cl) (hb : t2 ≤ 399 ∧ s2 ≤ t2) (a10 : c.1 ≠ 2 → SG op arg s1 s2 c.2.1) (a11 : c.1 = 2 → c.2.1 = d1) (a12 : s2 = t2 ∧ c.2.2 = d1 ∨ SG op arg s2 t2 c.2.2) (w : Int64) (X : Option Int64) : ((tl1 c env head).elim X some).getD w = if c.1 = head then (cl op arg env c.1 s1 s2 s2 t2).getD (X.getD w) else X.getD w := by
  unfold tl1
  by_cases e : c.1 = head
  · rw [if_pos e, if_pos e]
    have hcl : cl op arg env c.1 s1 s2 s2 t2 = (c.2.2 env).bind (fun x => if x = 0 then none else c.2.1 env) := by
      unfold cl
      have hsum : (if c.1 = 2 then some 1 else eV op arg env s1 s2) = c.2.1 env := by
        by_cases e2 : c.1 = 2
        · rw [if_pos e2, a11 e2]; rfl
        · rw [if_neg e2]; exact ((a10 e2).ev (by omega) env).2
      rw [hsum]
      rcases a12 with ⟨b1, b2⟩ | a12
      · rw [if_neg (by omega), b2]; exact (if_neg (c := (1 : Int64) = 0) (t := (none : Option Int64)) (by decide)).symm
      · rw [(a12.ev (by omega) env).2]
        have hlt := a12.1
        cases hv : c.2.2 env with
        | none => rw [if_pos ⟨hlt, Or.inl rfl⟩]; rfl
        | some x =>
          show _ = (if x = 0 then none else _)
          by_cases ex : x = 0
          · rw [if_pos ⟨hlt, Or.inr (by rw [ex])⟩, if_pos ex]
          · rw [if_neg (fun z => by rcases z.2 with z | z; cases z; injection z with z; exact ex z), if_neg ex]
    rw [hcl]
    cases ((c.2.2 env).bind (fun x => if x = 0 then none else c.2.1 env)) with
    | none => rfl
    | some y => rfl
  · rw [if_neg e, if_neg e]; rfl
/-- a read text in the row -/
theorem CLS.tm {I : wI} {g : Nat → Int32} {at0 b : Nat} {cs : List Cl} (h : CLS I b cs) (hD : ∀ n, n < cs.length → CDK (cs.getD n (0, d0, d0))) (hN : NN I b) (hb : b ≤ 399) (hl : cs.length ≤ 12) (hat : at0 + 900 ≤ 10880) (g1 : g (at0 + 1) = nI cs.length) (g2 : ∀ k, k < 8 * cs.length → g (at0 + 2 + k) = I 80 k) (g3 : ∀ k, k < b → g (at0 + 98 + 2 * k) = I 81 k ∧ g (at0 + 98 + 2 * k + 1) = I 82 k) : TMF g at0 (txF cs) := by
  refine ⟨⟨cs.length, fun c => (cs.getD c (0, d0, d0)).1, fun c => (I 80 (8 * c + 3)).toNatClampNeg, fun c => (I 80 (8 * c + 4)).toNatClampNeg, fun c => (I 80 (8 * c + 5)).toNatClampNeg, fun c => (I 80 (8 * c + 6)).toNatClampNeg, opF I, agF I, ⟨g1, hl, hat, fun c hc => ?_, fun c hc env => ?_⟩, fun env head w => ?_⟩, fun e1 e2 he => ?_⟩
  · obtain ⟨s1, s2, t2, a1, a2, a3, a4, a5, a6, a7, a8, a9, a10⟩ := h c hc
    have n1 : (nI s1).toNatClampNeg = s1 := nI_tc (by omega)
    have n2 : (nI s2).toNatClampNeg = s2 := nI_tc (by omega)
    have n3 : (nI t2).toNatClampNeg = t2 := nI_tc (by omega)
    have hcode : ∀ k, k < b → g (at0 + 98 + 2 * k) = nI (opF I k) ∧ g (at0 + 98 + 2 * k + 1) = nI (agF I k) ∧ opF I k ≤ 30 ∧ agF I k < 2147483648 := fun k hk => by
      obtain ⟨q1, q2, q3⟩ := hN k hk
      have e1 := nI_of_nn q1
      have e2 := nI_of_nn q3
      refine ⟨(g3 k hk).1.trans e1, (g3 k hk).2.trans e2, ?_, ?_⟩
      · show (I 81 k).toInt.toNat ≤ 30; omega
      · show (I 82 k).toInt.toNat < _; have : (I 82 k).toInt < 2147483648 := Int32.toInt_lt _; omega
    simp only [a2, a3, a4, a5, n1, n2, n3]
    refine ⟨?_, a7, ?_, ?_, ?_, ?_, by omega, by omega, by omega, by omega, fun k hk => hcode k (by omega), fun k hk => hcode k (by omega)⟩
    · exact (g2 _ (by omega)).trans a1
    · rw [show at0 + 2 + 8 * c + 3 = at0 + 2 + (8 * c + 3) by omega]; exact (g2 _ (by omega)).trans a2
    · rw [show at0 + 2 + 8 * c + 4 = at0 + 2 + (8 * c + 4) by omega]; exact (g2 _ (by omega)).trans a3
    · rw [show at0 + 2 + 8 * c + 5 = at0 + 2 + (8 * c + 5) by omega]; exact (g2 _ (by omega)).trans a4
    · rw [show at0 + 2 + 8 * c + 6 = at0 + 2 + (8 * c + 6) by omega]; exact (g2 _ (by omega)).trans a5
  · obtain ⟨s1, s2, t2, a1, a2, a3, a4, a5, a6, a7, a8, a9, a10, a11, a12⟩ := h c hc
    have n1 : (nI s1).toNatClampNeg = s1 := nI_tc (by omega)
    have n2 : (nI s2).toNatClampNeg = s2 := nI_tc (by omega)
    have n3 : (nI t2).toNatClampNeg = t2 := nI_tc (by omega)
    simp only [a2, a3, a4, a5, n1, n2, n3]
    refine ⟨fun hlt => ?_, fun hne => ?_⟩
    · rcases a12 with a12 | a12
      · omega
      · rw [(a12.ev (by omega) env).1]; exact fun z => by cases z
    · rw [((a10 hne).ev (by omega) env).1]; exact fun z => by cases z
  · have key : ∀ n, n ≤ cs.length → (tW cs env head n).getD w = tF (opF I) (agF I) env (fun c => (cs.getD c (0, d0, d0)).1) (fun c => (I 80 (8 * c + 3)).toNatClampNeg) (fun c => (I 80 (8 * c + 4)).toNatClampNeg) (fun c => (I 80 (8 * c + 5)).toNatClampNeg) (fun c => (I 80 (8 * c + 6)).toNatClampNeg) head w n := by
      intro n
      induction n with
      | zero => intro _; rfl
      | succ n ih =>
        intro hn
        have ih := ih (by omega)
        obtain ⟨s1, s2, t2, a1, a2, a3, a4, a5, a6, a7, a8, a9, a10, a11, a12⟩ := h n (by omega)
        have n1 : (nI s1).toNatClampNeg = s1 := nI_tc (by omega)
        have n2 : (nI s2).toNatClampNeg = s2 := nI_tc (by omega)
        have n3 : (nI t2).toNatClampNeg = t2 := nI_tc (by omega)
        show (Option.elim _ _ _ : Option Int64).getD w = if _ = head then (cl _ _ _ _ _ _ _ _).getD _ else _
        rw [← ih]
        dsimp only
        rw [a2, a3, a4, a5, n1, n2, n3]
        exact cl_tl1 _ (by omega) a10 a11 a12 w _
    exact key cs.length (Nat.le_refl _)
  · funext head w
    show (tW cs e1 head cs.length).getD w = (tW cs e2 head cs.length).getD w
    rw [tW_dok hD he head cs.length (Nat.le_refl _)]
