/-- what an expression is worth by an environment; none: it breaks -/
abbrev Den : Type := (Nat → Int64) → Option Int64
abbrev arX (o : Nat) (a b : Int64) : Prop := ((o = 23 ∨ o = 24) ∧ b = 0) ∨ ¬ (-1000000000 ≤ (ar0 o a b).toInt ∧ (ar0 o a b).toInt ≤ 1000000000)
def binD (o : Nat) (v w : Den) : Den := fun env => (v env).bind (fun x => (w env).bind (fun y => if arX o x y then none else some (ar0 o x y)))
def notD (v : Den) : Den := fun env => (v env).map (fun x => 1 - x)
def jmpD (o : Nat) (v w : Den) : Den := fun env => (v env).bind (fun x => if x = (if o = 29 then 0 else 1) then some x else w env)
/-- jumps go forward and not beyond b -/
def FW (op arg : Nat → Nat) (a b : Nat) : Prop := ∀ k, a ≤ k → k < b → (op k ≤ 12 ∨ 20 ≤ op k ∧ op k ≤ 30) ∧ (29 ≤ op k → k < arg k ∧ arg k ≤ b)
theorem FW.sub {op arg : Nat → Nat} {a b c d : Nat} (h : FW op arg a b) (h1 : FW op arg b c) (h2 : a ≤ d) (hbc : b ≤ c) : FW op arg d c := fun k k1 k2 => by
  by_cases e : k < b
  · obtain ⟨p, q⟩ := h k (by omega) e
    refine ⟨p, fun z => ?_⟩
    obtain ⟨r, s⟩ := q z
    exact ⟨r, by omega⟩
  · exact h1 k (by omega) k2
theorem eS_mono (op arg : Nat → Nat) (env : Nat → Int64) (c : Nat) : ∀ (f : Nat) (k : Nat) (s : List Int64) (r : Option (List Int64)), eS op arg env c f k s = some r → ∀ m, eS op arg env c (f + m) k s = some r
  | 0, k, s, r, h, m => by cases h
  | f + 1, k, s, r, h, m => by
    rw [show f + 1 + m = (f + m) + 1 by omega, eS_s]
    rw [eS_s] at h
    by_cases e : c ≤ k
    · rw [if_pos e] at h ⊢; exact h
    · rw [if_neg e] at h ⊢
      cases hs : sS op arg env k s with
      | none => rw [hs] at h; cases h
      | some x =>
        rw [hs] at h
        cases x with
        | none => exact h
        | some p => exact eS_mono op arg env c f p.1 p.2 r h m
/-- where one step goes -/
theorem sS_to {op arg : Nat → Nat} {env : Nat → Int64} {a b k : Nat} (hF : FW op arg a b) (h1 : a ≤ k) (h2 : k < b) {s : List Int64} {p : Nat × List Int64} (h : sS op arg env k s = some (some p)) : k < p.1 ∧ p.1 ≤ b := by
  obtain ⟨hk, hj⟩ := hF k h1 h2
  unfold sS at h
  by_cases c1 : op k < 20
  · rw [if_pos c1] at h
    by_cases c2 : op k ≤ 12 ∧ s.length < 399
    · rw [if_pos c2] at h; cases h; exact ⟨Nat.lt_succ_self k, h2⟩
    · rw [if_neg c2] at h; cases h
  · rw [if_neg c1] at h
    by_cases c2 : op k < 28
    · rw [if_pos c2] at h
      match s, h with
      | [], h => cases h
      | [_], h => cases h
      | y :: x :: r, h =>
        dsimp only at h
        split at h
        · cases h
        · cases h; exact ⟨Nat.lt_succ_self k, h2⟩
    · rw [if_neg c2] at h
      by_cases c3 : op k = 28
      · rw [if_pos c3] at h
        match s, h with
        | [], h => cases h
        | x :: r, h => cases h; exact ⟨Nat.lt_succ_self k, h2⟩
      · rw [if_neg c3] at h
        match s, h with
        | [], h => cases h
        | x :: r, h =>
          dsimp only at h
          by_cases c4 : x = (if op k = 29 then 0 else 1)
          · rw [if_pos c4] at h; cases h; exact hj (by omega)
          · rw [if_neg c4] at h; cases h; exact ⟨Nat.lt_succ_self k, h2⟩
theorem eS_seq {op arg : Nat → Nat} {env : Nat → Int64} {a b c : Nat} (hF : FW op arg a b) (hbc : b ≤ c) : ∀ (f k : Nat) (s : List Int64) (r : Option (List Int64)), a ≤ k → k ≤ b → eS op arg env b f k s = some r →
    (r = none → ∀ g, eS op arg env c (f + g) k s = some none) ∧ ∀ s2, r = some s2 → ∀ g r2, eS op arg env c g b s2 = some r2 → eS op arg env c (f + g) k s = some r2
  | 0, k, s, r, _, _, h => by cases h
  | f + 1, k, s, r, h1, h2, h => by
    rw [eS_s] at h
    by_cases e : b ≤ k
    · rw [if_pos e] at h
      obtain rfl : k = b := by omega
      cases h
      refine ⟨fun z => (by cases z), fun s2 z g r2 hg => ?_⟩
      cases z
      rw [show f + 1 + g = g + (f + 1) by omega]
      exact eS_mono op arg env c g k s r2 hg (f + 1)
    · rw [if_neg e] at h
      have hkc : ¬ c ≤ k := by omega
      cases hs : sS op arg env k s with
      | none => rw [hs] at h; cases h
      | some x =>
        rw [hs] at h
        cases x with
        | none =>
          cases h
          refine ⟨fun _ g => ?_, fun s2 z => by cases z⟩
          rw [show f + 1 + g = (f + g) + 1 by omega, eS_s, if_neg hkc, hs]; rfl
        | some p =>
          obtain ⟨p1, p2⟩ := sS_to hF h1 (by omega) hs
          obtain ⟨i1, i2⟩ := eS_seq hF hbc f p.1 p.2 r (by omega) p2 h
          refine ⟨fun z g => ?_, fun s2 z g r2 hg => ?_⟩
          · rw [show f + 1 + g = (f + g) + 1 by omega, eS_s, if_neg hkc, hs]; exact i1 z g
          · rw [show f + 1 + g = (f + g) + 1 by omega, eS_s, if_neg hkc, hs]; exact i2 s2 z g r2 hg
theorem eS_fuel {op arg : Nat → Nat} {env : Nat → Int64} {a b : Nat} (hF : FW op arg a b) : ∀ (f k : Nat) (s : List Int64) (r : Option (List Int64)), a ≤ k → k ≤ b → eS op arg env b f k s = some r → eS op arg env b (b - k + 1) k s = some r
  | 0, k, s, r, _, _, h => by cases h
  | f + 1, k, s, r, h1, h2, h => by
    rw [eS_s] at h ⊢
    by_cases e : b ≤ k
    · rw [if_pos e] at h ⊢; exact h
    · rw [if_neg e] at h ⊢
      cases hs : sS op arg env k s with
      | none => rw [hs] at h; cases h
      | some x =>
        rw [hs] at h
        cases x with
        | none => exact h
        | some p =>
          obtain ⟨p1, p2⟩ := sS_to hF h1 (by omega) hs
          have := eS_fuel hF f p.1 p.2 r (by omega) p2 h
          show eS op arg env b (b - k) p.1 p.2 = some r
          rw [show b - k = (b - p.1 + 1) + (p.1 - k - 1) by omega]
          exact eS_mono op arg env b _ _ _ _ this _
theorem sS_cg {op arg op2 arg2 : Nat → Nat} {env : Nat → Int64} {k : Nat} (h1 : op2 k = op k) (h2 : arg2 k = arg k) (s : List Int64) : sS op2 arg2 env k s = sS op arg env k s := by
  unfold sS; rw [h1, h2]
theorem eS_cg {op arg op2 arg2 : Nat → Nat} {env : Nat → Int64} {a b : Nat} (hF : FW op arg a b) (hc : ∀ k, a ≤ k → k < b → op2 k = op k ∧ arg2 k = arg k) : ∀ (f k : Nat) (s : List Int64), a ≤ k → k ≤ b → eS op2 arg2 env b f k s = eS op arg env b f k s
  | 0, _, _, _, _ => rfl
  | f + 1, k, s, h1, h2 => by
    rw [eS_s, eS_s]
    by_cases e : b ≤ k
    · rw [if_pos e, if_pos e]
    · rw [if_neg e, if_neg e, sS_cg (hc k h1 (by omega)).1 (hc k h1 (by omega)).2]
      cases hs : sS op arg env k s with
      | none => rfl
      | some x =>
        cases x with
        | none => rfl
        | some p =>
          obtain ⟨p1, p2⟩ := sS_to hF h1 (by omega) hs
          exact eS_cg hF hc f p.1 p.2 (by omega) p2
/-- the code from a to b puts the worth v upon the stack -/
def SG (op arg : Nat → Nat) (a b : Nat) (v : Den) : Prop := a < b ∧ FW op arg a b ∧ ∀ (env : Nat → Int64) (s : List Int64), s.length + (b - a) ≤ 399 → ∃ f, eS op arg env b f a s = some ((v env).map (fun x => x :: s))
theorem SG.cg {op arg op2 arg2 : Nat → Nat} {a b : Nat} {v : Den} (h : SG op arg a b v) (hc : ∀ k, a ≤ k → k < b → op2 k = op k ∧ arg2 k = arg k) : SG op2 arg2 a b v := by
  obtain ⟨h1, h2, h3⟩ := h
  refine ⟨h1, fun k k1 k2 => by rw [(hc k k1 k2).1, (hc k k1 k2).2]; exact h2 k k1 k2, fun env s hs => ?_⟩
  obtain ⟨f, hf⟩ := h3 env s hs
  exact ⟨f, by rw [eS_cg h2 hc f a s (Nat.le_refl _) (by omega)]; exact hf⟩
theorem SG.run {op arg : Nat → Nat} {a b c : Nat} {v : Den} (h : SG op arg a b v) (hbc : b ≤ c) (env : Nat → Int64) (s : List Int64) (hs : s.length + (b - a) ≤ 399) :
    (v env = none → ∃ f, eS op arg env c f a s = some none) ∧ ∀ x, v env = some x → ∀ g r, eS op arg env c g b (x :: s) = some r → ∃ f, eS op arg env c f a s = some r := by
  obtain ⟨h1, h2, h3⟩ := h
  obtain ⟨f, hf⟩ := h3 env s hs
  obtain ⟨i1, i2⟩ := eS_seq h2 hbc f a s _ (Nat.le_refl _) (by omega) hf
  refine ⟨fun z => ⟨f + 0, i1 (by rw [z]; rfl) 0⟩, fun x z g r hg => ⟨f + g, i2 (x :: s) (by rw [z]; rfl) g r hg⟩⟩
theorem eS_at {op arg : Nat → Nat} {env : Nat → Int64} {b : Nat} {s : List Int64} : eS op arg env b 1 b s = some (some s) := by rw [eS_s, if_pos (Nat.le_refl _)]
theorem SG.leaf {op arg : Nat → Nat} {a : Nat} (h : op a ≤ 12) : SG op arg a (a + 1) (fun env => some (if op a = 0 then lN (arg a) else env (op a))) := by
  refine ⟨Nat.lt_succ_self a, fun k k1 k2 => ?_, fun env s hs => ⟨2, ?_⟩⟩
  · obtain rfl : k = a := by omega
    exact ⟨Or.inl h, fun z => by omega⟩
  · rw [eS_s, if_neg (by omega)]
    have : sS op arg env a s = some (some (a + 1, (if op a = 0 then lN (arg a) else env (op a)) :: s)) := by unfold sS; rw [if_pos (by omega), if_pos ⟨h, by omega⟩]
    rw [this]
    exact eS_at
theorem SG.bin {op arg : Nat → Nat} {a b c : Nat} {v w : Den} (h1 : SG op arg a b v) (h2 : SG op arg b c w) (h3 : 20 ≤ op c) (h4 : op c < 28) : SG op arg a (c + 1) (binD (op c) v w) := by
  have a1 := h1.1
  have a2 := h2.1
  refine ⟨by omega, fun k k1 k2 => ?_, fun env s hs => ?_⟩
  · by_cases e : k = c
    · subst e; exact ⟨Or.inr ⟨h3, by omega⟩, fun z => by omega⟩
    · obtain ⟨p, q⟩ := (h1.2.1.sub h2.2.1 (Nat.le_refl _) (by omega)) k k1 (by omega)
      exact ⟨p, fun z => by have := q z; omega⟩
  · obtain ⟨n1, s1⟩ := h1.run (c := c + 1) (by omega) env s (by omega)
    cases hv : v env with
    | none => obtain ⟨f, hf⟩ := n1 hv; exact ⟨f, by rw [hf]; simp [binD, hv]⟩
    | some x =>
      obtain ⟨n2, s2⟩ := h2.run (c := c + 1) (by omega) env (x :: s) (by simp only [List.length_cons]; omega)
      cases hw : w env with
      | none => obtain ⟨f, hf⟩ := n2 hw; obtain ⟨g, hg⟩ := s1 x hv f _ hf; exact ⟨g, by rw [hg]; simp [binD, hv, hw]⟩
      | some y =>
        have hstep : eS op arg env (c + 1) 2 c (y :: x :: s) = some ((binD (op c) v w env).map (fun x => x :: s)) := by
          rw [eS_s, if_neg (by omega)]
          have : sS op arg env c (y :: x :: s) = if arX (op c) x y then some none else some (some (c + 1, ar0 (op c) x y :: s)) := by unfold sS; rw [if_neg (by omega), if_pos h4]
          rw [this]
          by_cases e : arX (op c) x y
          · rw [if_pos e]; simp [binD, hv, hw, e]
          · rw [if_neg e]
            have e2 : (binD (op c) v w env) = some (ar0 (op c) x y) := by unfold binD; rw [hv, hw]; exact if_neg e
            rw [e2]; exact eS_at
        obtain ⟨f, hf⟩ := s2 y hw 2 _ hstep
        obtain ⟨g, hg⟩ := s1 x hv f _ hf
        exact ⟨g, hg⟩
theorem SG.not {op arg : Nat → Nat} {a b : Nat} {v : Den} (h1 : SG op arg a b v) (h3 : op b = 28) : SG op arg a (b + 1) (notD v) := by
  have a1 := h1.1
  refine ⟨by omega, fun k k1 k2 => ?_, fun env s hs => ?_⟩
  · by_cases e : k = b
    · subst e; exact ⟨Or.inr ⟨by omega, by omega⟩, fun z => by omega⟩
    · obtain ⟨p, q⟩ := h1.2.1 k k1 (by omega)
      exact ⟨p, fun z => by have := q z; omega⟩
  · obtain ⟨n1, s1⟩ := h1.run (c := b + 1) (by omega) env s (by omega)
    cases hv : v env with
    | none => obtain ⟨f, hf⟩ := n1 hv; exact ⟨f, by rw [hf]; simp [notD, hv]⟩
    | some x =>
      have hstep : eS op arg env (b + 1) 2 b (x :: s) = some ((notD v env).map (fun x => x :: s)) := by
        rw [eS_s, if_neg (by omega)]
        have : sS op arg env b (x :: s) = some (some (b + 1, (1 - x) :: s)) := by unfold sS; rw [if_neg (by omega), if_neg (by omega), if_pos h3]
        rw [this]
        have e2 : notD v env = some (1 - x) := by unfold notD; rw [hv]; rfl
        rw [e2]; exact eS_at
      exact s1 x hv 2 _ hstep
theorem SG.jmp {op arg : Nat → Nat} {a j c : Nat} {v w : Den} (h1 : SG op arg a j v) (h2 : SG op arg (j + 1) c w) (h3 : op j = 29 ∨ op j = 30) (h4 : arg j = c) : SG op arg a c (jmpD (op j) v w) := by
  have a1 := h1.1
  have a2 := h2.1
  refine ⟨by omega, fun k k1 k2 => ?_, fun env s hs => ?_⟩
  · by_cases e : k < j
    · obtain ⟨p, q⟩ := h1.2.1 k k1 e
      exact ⟨p, fun z => by have := q z; omega⟩
    · by_cases e2 : k = j
      · subst e2; exact ⟨Or.inr ⟨by omega, by omega⟩, fun z => by omega⟩
      · exact h2.2.1 k (by omega) k2
  · obtain ⟨n1, s1⟩ := h1.run (c := c) (by omega) env s (by omega)
    cases hv : v env with
    | none => obtain ⟨f, hf⟩ := n1 hv; exact ⟨f, by rw [hf]; simp [jmpD, hv]⟩
    | some x =>
      have hst : sS op arg env j (x :: s) = if x = (if op j = 29 then 0 else 1) then some (some (arg j, x :: s)) else some (some (j + 1, s)) := by unfold sS; rw [if_neg (by omega), if_neg (by omega), if_neg (by omega)]
      by_cases e : x = (if op j = 29 then 0 else 1)
      · rw [if_pos e, h4] at hst
        have hstep : eS op arg env c 2 j (x :: s) = some (some (x :: s)) := by
          rw [eS_s, if_neg (by omega), hst]; exact eS_at
        obtain ⟨g, hg⟩ := s1 x hv 2 _ hstep
        refine ⟨g, ?_⟩
        have e2 : jmpD (op j) v w env = some x := by unfold jmpD; rw [hv]; exact if_pos e
        rw [hg, e2]; rfl
      · rw [if_neg e] at hst
        obtain ⟨f, hf⟩ := h2.2.2 env s (by omega)
        have hstep : eS op arg env c (f + 1) j (x :: s) = some ((w env).map (fun x => x :: s)) := by
          rw [eS_s, if_neg (by omega), hst]; exact hf
        obtain ⟨g, hg⟩ := s1 x hv _ _ hstep
        refine ⟨g, ?_⟩
        have e2 : jmpD (op j) v w env = w env := by unfold jmpD; rw [hv]; exact if_neg e
        rw [hg, e2]
/-- what waits upon the pile, its lowest first -/
def PD (op arg : Nat → Nat) : List (Nat × Nat) → Nat → Nat → Den → Prop
  | [], a, b, v => SG op arg a b v
  | (o, j) :: Y, a, b, v => (20 ≤ o ∧ o < 28 ∧ ∃ (i : Nat) (v1 v2 : Den), SG op arg a i v1 ∧ PD op arg Y i b v2 ∧ v = binD o v1 v2) ∨ (o = 28 ∧ ∃ v2 : Den, PD op arg Y a b v2 ∧ v = notD v2) ∨ ((o = 29 ∨ o = 30) ∧ op j = o ∧ ∃ v1 v2 : Den, SG op arg a j v1 ∧ PD op arg Y (j + 1) b v2 ∧ v = jmpD o v1 v2)
theorem PD.lt {op arg : Nat → Nat} : ∀ (Y : List (Nat × Nat)) {a b : Nat} {v : Den}, PD op arg Y a b v → a < b
  | [], _, _, _, h => h.1
  | (o, j) :: Y, a, b, v, h => by
    rcases h with ⟨_, _, i, v1, v2, h1, h2, _⟩ | ⟨_, v2, h2, _⟩ | ⟨_, _, v1, v2, h1, h2, _⟩
    · have := PD.lt Y h2; have := h1.1; omega
    · exact PD.lt Y h2
    · have := PD.lt Y h2; have := h1.1; omega
/-- an operator is emitted -/
theorem PD.popE {op arg op2 arg2 : Nat → Nat} {o j : Nat} (h20 : 20 ≤ o) (h28 : o ≤ 28) : ∀ (Y : List (Nat × Nat)) {a b : Nat} {v : Den}, (∀ k, a ≤ k → k < b → op2 k = op k ∧ arg2 k = arg k) → op2 b = o → PD op arg (Y ++ [(o, j)]) a b v → PD op2 arg2 Y a (b + 1) v
  | [], a, b, v, hc, ho, h => by
    rcases h with ⟨_, c2, i, v1, v2, h1, h2, rfl⟩ | ⟨rfl, v2, h2, rfl⟩ | ⟨c1, _⟩
    · have q1 := h1.1
      have q2 : i < b := h2.1
      have := SG.bin (h1.cg (fun k k1 k2 => hc k k1 (by omega))) (SG.cg h2 (fun k k1 k2 => hc k (by omega) k2)) (by omega) (by omega)
      rw [ho] at this; exact this
    · exact SG.not (SG.cg h2 hc) ho
    · omega
  | (o2, j2) :: Y, a, b, v, hc, ho, h => by
    rcases h with ⟨c1, c2, i, v1, v2, h1, h2, rfl⟩ | ⟨rfl, v2, h2, rfl⟩ | ⟨c1, c2, v1, v2, h1, h2, rfl⟩
    · have q1 := h1.1
      have q2 := PD.lt _ h2
      exact Or.inl ⟨c1, c2, i, v1, v2, h1.cg (fun k k1 k2 => hc k k1 (by omega)), PD.popE h20 h28 Y (fun k k1 k2 => hc k (by omega) k2) ho h2, rfl⟩
    · exact Or.inr (Or.inl ⟨rfl, v2, PD.popE h20 h28 Y hc ho h2, rfl⟩)
    · have q1 := h1.1
      have q2 := PD.lt _ h2
      exact Or.inr (Or.inr ⟨c1, by rw [(hc j2 (by omega) (by omega)).1]; exact c2, v1, v2, h1.cg (fun k k1 k2 => hc k k1 (by omega)), PD.popE h20 h28 Y (fun k k1 k2 => hc k (by omega) k2) ho h2, rfl⟩)
theorem PD.pos {op arg : Nat → Nat} {o j : Nat} (hj : o = 29 ∨ o = 30) : ∀ (Y : List (Nat × Nat)) {a b : Nat} {v : Den}, PD op arg (Y ++ [(o, j)]) a b v → a < j ∧ j + 1 < b
  | [], a, b, v, h => by
    rcases h with ⟨_, c2, _⟩ | ⟨c1, _⟩ | ⟨_, _, v1, v2, h1, h2, _⟩
    · omega
    · omega
    · exact ⟨h1.1, h2.1⟩
  | (o2, j2) :: Y, a, b, v, h => by
    rcases h with ⟨_, _, i, v1, v2, h1, h2, _⟩ | ⟨_, v2, h2, _⟩ | ⟨_, _, v1, v2, h1, h2, _⟩
    · have := PD.pos hj Y h2; have := h1.1; omega
    · exact PD.pos hj Y h2
    · have := PD.pos hj Y h2; have := h1.1; omega
/-- a jump is led to its end -/
theorem PD.popJ {op arg op2 arg2 : Nat → Nat} {o j : Nat} (hj : o = 29 ∨ o = 30) : ∀ (Y : List (Nat × Nat)) {a b : Nat} {v : Den}, (∀ k, a ≤ k → k < b → op2 k = op k ∧ (k ≠ j → arg2 k = arg k)) → arg2 j = b → PD op arg (Y ++ [(o, j)]) a b v → PD op2 arg2 Y a b v
  | [], a, b, v, hc, ho, h => by
    rcases h with ⟨_, c2, _⟩ | ⟨c1, _⟩ | ⟨_, c2, v1, v2, h1, h2, rfl⟩
    · omega
    · omega
    · have q1 := h1.1
      have q2 : j + 1 < b := h2.1
      have e : op2 j = o := by rw [(hc j (by omega) (by omega)).1]; exact c2
      have := SG.jmp (h1.cg (fun k k1 k2 => ⟨(hc k k1 (by omega)).1, (hc k k1 (by omega)).2 (by omega)⟩)) (SG.cg h2 (fun k k1 k2 => ⟨(hc k (by omega) k2).1, (hc k (by omega) k2).2 (by omega)⟩)) (by rw [e]; exact hj) ho
      rw [e] at this; exact this
  | (o2, j2) :: Y, a, b, v, hc, ho, h => by
    rcases h with ⟨c1, c2, i, v1, v2, h1, h2, rfl⟩ | ⟨rfl, v2, h2, rfl⟩ | ⟨c1, c2, v1, v2, h1, h2, rfl⟩
    · have q1 := h1.1
      have q2 := PD.pos hj Y h2
      exact Or.inl ⟨c1, c2, i, v1, v2, h1.cg (fun k k1 k2 => ⟨(hc k k1 (by omega)).1, (hc k k1 (by omega)).2 (by omega)⟩), PD.popJ hj Y (fun k k1 k2 => hc k (by omega) k2) ho h2, rfl⟩
    · exact Or.inr (Or.inl ⟨rfl, v2, PD.popJ hj Y hc ho h2, rfl⟩)
    · have q1 := h1.1
      have q2 := PD.pos hj Y h2
      exact Or.inr (Or.inr ⟨c1, by rw [(hc j2 (by omega) (by omega)).1]; exact c2, v1, v2, h1.cg (fun k k1 k2 => ⟨(hc k k1 (by omega)).1, (hc k k1 (by omega)).2 (by omega)⟩), PD.popJ hj Y (fun k k1 k2 => hc k (by omega) k2) ho h2, rfl⟩)
theorem PD.cg {op arg op2 arg2 : Nat → Nat} : ∀ (Y : List (Nat × Nat)) {a b : Nat} {v : Den}, (∀ k, a ≤ k → k < b → op2 k = op k ∧ arg2 k = arg k) → PD op arg Y a b v → PD op2 arg2 Y a b v
  | [], a, b, v, hc, h => SG.cg h hc
  | (o2, j2) :: Y, a, b, v, hc, h => by
    rcases h with ⟨c1, c2, i, v1, v2, h1, h2, rfl⟩ | ⟨rfl, v2, h2, rfl⟩ | ⟨c1, c2, v1, v2, h1, h2, rfl⟩
    · have q1 := h1.1
      have q2 := PD.lt _ h2
      exact Or.inl ⟨c1, c2, i, v1, v2, h1.cg (fun k k1 k2 => hc k k1 (by omega)), PD.cg Y (fun k k1 k2 => hc k (by omega) k2) h2, rfl⟩
    · exact Or.inr (Or.inl ⟨rfl, v2, PD.cg Y hc h2, rfl⟩)
    · have q1 := h1.1
      have q2 := PD.lt _ h2
      exact Or.inr (Or.inr ⟨c1, by rw [(hc j2 (by omega) (by omega)).1]; exact c2, v1, v2, h1.cg (fun k k1 k2 => hc k k1 (by omega)), PD.cg Y (fun k k1 k2 => hc k (by omega) k2) h2, rfl⟩)
/-- how it binds -/
def bnd (o : Nat) : Nat := if 31 ≤ o then 0 else if o = 30 then 1 else if o = 29 then 2 else if o = 28 then 3 else if 25 ≤ o then 4 else if 22 ≤ o then 6 else 5
theorem notD2 (v : Den) : notD (notD v) = v := by
  funext env
  unfold notD
  cases v env with
  | none => rfl
  | some x => show some (1 - (1 - x)) = some x; congr 1; grind
