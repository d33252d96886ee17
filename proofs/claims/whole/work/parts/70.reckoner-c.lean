def sC (op arg : Nat → Nat) (env : Nat → Int64) (k : Nat) (s : List Int64) : Option (Option (Nat × List Int64)) := if op k < 20 ∧ 64 ≤ s.length then none else sS op arg env k s
def eC (op arg : Nat → Nat) (env : Nat → Int64) (last : Nat) : Nat → Nat → List Int64 → Option (Option (List Int64))
  | 0, _, _ => none
  | f + 1, k, s => if last ≤ k then some (some s) else (sC op arg env k s).bind (fun x => x.elim (some none) (fun p => eC op arg env last f p.1 p.2))
theorem eC_s (op arg : Nat → Nat) (env : Nat → Int64) (last f k : Nat) (s : List Int64) : eC op arg env last (f + 1) k s = if last ≤ k then some (some s) else (sC op arg env k s).bind (fun x => x.elim (some none) (fun p => eC op arg env last f p.1 p.2)) := rfl
theorem sC_some {op arg : Nat → Nat} {env : Nat → Int64} {k : Nat} {s : List Int64} {x : Option (Nat × List Int64)} (h : sC op arg env k s = some x) : sS op arg env k s = some x := by
  unfold sC at h
  split at h
  · cases h
  · exact h
theorem sC_to {op arg : Nat → Nat} {env : Nat → Int64} {a b k : Nat} (hF : FW op arg a b) (h1 : a ≤ k) (h2 : k < b) {s : List Int64} {p : Nat × List Int64} (h : sC op arg env k s = some (some p)) : k < p.1 ∧ p.1 ≤ b := sS_to hF h1 h2 (sC_some h)
theorem sC_cg {op arg op2 arg2 : Nat → Nat} {env : Nat → Int64} {k : Nat} (h1 : op2 k = op k) (h2 : arg2 k = arg k) (s : List Int64) : sC op2 arg2 env k s = sC op arg env k s := by
  unfold sC; rw [h1, sS_cg h1 h2]
theorem eC_mono (op arg : Nat → Nat) (env : Nat → Int64) (c : Nat) : ∀ (f : Nat) (k : Nat) (s : List Int64) (r : Option (List Int64)), eC op arg env c f k s = some r → ∀ m, eC op arg env c (f + m) k s = some r
  | 0, k, s, r, h, m => by cases h
  | f + 1, k, s, r, h, m => by
    rw [show f + 1 + m = (f + m) + 1 by omega, eC_s]
    rw [eC_s] at h
    by_cases e : c ≤ k
    · rw [if_pos e] at h ⊢; exact h
    · rw [if_neg e] at h ⊢
      cases hs : sC op arg env k s with
      | none => rw [hs] at h; cases h
      | some x =>
        rw [hs] at h
        cases x with
        | none => exact h
        | some p => exact eC_mono op arg env c f p.1 p.2 r h m
/-- where one step goes -/
theorem eC_seq {op arg : Nat → Nat} {env : Nat → Int64} {a b c : Nat} (hF : FW op arg a b) (hbc : b ≤ c) : ∀ (f k : Nat) (s : List Int64) (r : Option (List Int64)), a ≤ k → k ≤ b → eC op arg env b f k s = some r →
    (r = none → ∀ g, eC op arg env c (f + g) k s = some none) ∧ ∀ s2, r = some s2 → ∀ g r2, eC op arg env c g b s2 = some r2 → eC op arg env c (f + g) k s = some r2
  | 0, k, s, r, _, _, h => by cases h
  | f + 1, k, s, r, h1, h2, h => by
    rw [eC_s] at h
    by_cases e : b ≤ k
    · rw [if_pos e] at h
      obtain rfl : k = b := by omega
      cases h
      refine ⟨fun z => (by cases z), fun s2 z g r2 hg => ?_⟩
      cases z
      rw [show f + 1 + g = g + (f + 1) by omega]
      exact eC_mono op arg env c g k s r2 hg (f + 1)
    · rw [if_neg e] at h
      have hkc : ¬ c ≤ k := by omega
      cases hs : sC op arg env k s with
      | none => rw [hs] at h; cases h
      | some x =>
        rw [hs] at h
        cases x with
        | none =>
          cases h
          refine ⟨fun _ g => ?_, fun s2 z => by cases z⟩
          rw [show f + 1 + g = (f + g) + 1 by omega, eC_s, if_neg hkc, hs]; rfl
        | some p =>
          obtain ⟨p1, p2⟩ := sC_to hF h1 (by omega) hs
          obtain ⟨i1, i2⟩ := eC_seq hF hbc f p.1 p.2 r (by omega) p2 h
          refine ⟨fun z g => ?_, fun s2 z g r2 hg => ?_⟩
          · rw [show f + 1 + g = (f + g) + 1 by omega, eC_s, if_neg hkc, hs]; exact i1 z g
          · rw [show f + 1 + g = (f + g) + 1 by omega, eC_s, if_neg hkc, hs]; exact i2 s2 z g r2 hg
theorem eC_fuel {op arg : Nat → Nat} {env : Nat → Int64} {a b : Nat} (hF : FW op arg a b) : ∀ (f k : Nat) (s : List Int64) (r : Option (List Int64)), a ≤ k → k ≤ b → eC op arg env b f k s = some r → eC op arg env b (b - k + 1) k s = some r
  | 0, k, s, r, _, _, h => by cases h
  | f + 1, k, s, r, h1, h2, h => by
    rw [eC_s] at h ⊢
    by_cases e : b ≤ k
    · rw [if_pos e] at h ⊢; exact h
    · rw [if_neg e] at h ⊢
      cases hs : sC op arg env k s with
      | none => rw [hs] at h; cases h
      | some x =>
        rw [hs] at h
        cases x with
        | none => exact h
        | some p =>
          obtain ⟨p1, p2⟩ := sC_to hF h1 (by omega) hs
          have := eC_fuel hF f p.1 p.2 r (by omega) p2 h
          show eC op arg env b (b - k) p.1 p.2 = some r
          rw [show b - k = (b - p.1 + 1) + (p.1 - k - 1) by omega]
          exact eC_mono op arg env b _ _ _ _ this _
theorem eC_cg {op arg op2 arg2 : Nat → Nat} {env : Nat → Int64} {a b : Nat} (hF : FW op arg a b) (hc : ∀ k, a ≤ k → k < b → op2 k = op k ∧ arg2 k = arg k) : ∀ (f k : Nat) (s : List Int64), a ≤ k → k ≤ b → eC op2 arg2 env b f k s = eC op arg env b f k s
  | 0, _, _, _, _ => rfl
  | f + 1, k, s, h1, h2 => by
    rw [eC_s, eC_s]
    by_cases e : b ≤ k
    · rw [if_pos e, if_pos e]
    · rw [if_neg e, if_neg e, sC_cg (hc k h1 (by omega)).1 (hc k h1 (by omega)).2]
      cases hs : sC op arg env k s with
      | none => rfl
      | some x =>
        cases x with
        | none => rfl
        | some p =>
          obtain ⟨p1, p2⟩ := sC_to hF h1 (by omega) hs
          exact eC_cg hF hc f p.1 p.2 (by omega) p2

/-- the code from a to b puts the worth v upon the stack -/
def SC (op arg : Nat → Nat) (a b : Nat) (v : Den) (dp : Nat) : Prop := a < b ∧ FW op arg a b ∧ ∀ (env : Nat → Int64) (s : List Int64), s.length + dp ≤ 64 → ∃ f, eC op arg env b f a s = some ((v env).map (fun x => x :: s))
theorem SC.cg {op arg op2 arg2 : Nat → Nat} {a b : Nat} {v : Den} {dp : Nat} (h : SC op arg a b v dp) (hc : ∀ k, a ≤ k → k < b → op2 k = op k ∧ arg2 k = arg k) : SC op2 arg2 a b v dp := by
  obtain ⟨h1, h2, h3⟩ := h
  refine ⟨h1, fun k k1 k2 => by rw [(hc k k1 k2).1, (hc k k1 k2).2]; exact h2 k k1 k2, fun env s hs => ?_⟩
  obtain ⟨f, hf⟩ := h3 env s hs
  exact ⟨f, by rw [eC_cg h2 hc f a s (Nat.le_refl _) (by omega)]; exact hf⟩
theorem SC.run {op arg : Nat → Nat} {a b c : Nat} {v : Den} {dp : Nat} (h : SC op arg a b v dp) (hbc : b ≤ c) (env : Nat → Int64) (s : List Int64) (hs : s.length + dp ≤ 64) :
    (v env = none → ∃ f, eC op arg env c f a s = some none) ∧ ∀ x, v env = some x → ∀ g r, eC op arg env c g b (x :: s) = some r → ∃ f, eC op arg env c f a s = some r := by
  obtain ⟨h1, h2, h3⟩ := h
  obtain ⟨f, hf⟩ := h3 env s hs
  obtain ⟨i1, i2⟩ := eC_seq h2 hbc f a s _ (Nat.le_refl _) (by omega) hf
  refine ⟨fun z => ⟨f + 0, i1 (by rw [z]; rfl) 0⟩, fun x z g r hg => ⟨f + g, i2 (x :: s) (by rw [z]; rfl) g r hg⟩⟩
theorem eC_at {op arg : Nat → Nat} {env : Nat → Int64} {b : Nat} {s : List Int64} : eC op arg env b 1 b s = some (some s) := by rw [eC_s, if_pos (Nat.le_refl _)]
theorem SC.leaf {op arg : Nat → Nat} {a : Nat} (h : op a ≤ 12) : SC op arg a (a + 1) (fun env => some (if op a = 0 then lN (arg a) else env (op a))) 1 := by
  refine ⟨Nat.lt_succ_self a, fun k k1 k2 => ?_, fun env s hs => ⟨2, ?_⟩⟩
  · obtain rfl : k = a := by omega
    exact ⟨Or.inl h, fun z => by omega⟩
  · rw [eC_s, if_neg (by omega)]
    have : sC op arg env a s = some (some (a + 1, (if op a = 0 then lN (arg a) else env (op a)) :: s)) := by unfold sC sS; rw [if_neg (by omega), if_pos (by omega), if_pos ⟨h, by omega⟩]
    rw [this]
    exact eC_at
theorem SC.bin {op arg : Nat → Nat} {a b c : Nat} {v w : Den} {dp : Nat} (h1 : SC op arg a b v dp) {dp2 : Nat} (h2 : SC op arg b c w dp2) (hdp : dp2 + 1 ≤ dp) (h3 : 20 ≤ op c) (h4 : op c < 28) : SC op arg a (c + 1) (binD (op c) v w) dp := by
  have a1 := h1.1
  have a2 := h2.1
  refine ⟨by omega, fun k k1 k2 => ?_, fun env s hs => ?_⟩
  · by_cases e : k = c
    · subst e; exact ⟨Or.inr ⟨h3, by omega⟩, fun z => by omega⟩
    · obtain ⟨p, q⟩ := (h1.2.1.sub h2.2.1 (Nat.le_refl _) (by omega)) k k1 (by omega)
      exact ⟨p, fun z => by have := q z; omega⟩
  · obtain ⟨n1, s1⟩ := h1.run (c := c + 1) (by omega) env s (by omega)
    cases hv : v env with
    | none => obtain ⟨f, hf⟩ := n1 hv; exact ⟨f, by rw [hf]; simp [binD, hv]⟩
    | some x =>
      obtain ⟨n2, s2⟩ := h2.run (c := c + 1) (by omega) env (x :: s) (by simp only [List.length_cons]; omega)
      cases hw : w env with
      | none => obtain ⟨f, hf⟩ := n2 hw; obtain ⟨g, hg⟩ := s1 x hv f _ hf; exact ⟨g, by rw [hg]; simp [binD, hv, hw]⟩
      | some y =>
        have hstep : eC op arg env (c + 1) 2 c (y :: x :: s) = some ((binD (op c) v w env).map (fun x => x :: s)) := by
          rw [eC_s, if_neg (by omega)]
          have : sC op arg env c (y :: x :: s) = if arX (op c) x y then some none else some (some (c + 1, ar0 (op c) x y :: s)) := by unfold sC sS; rw [if_neg (by omega), if_neg (by omega), if_pos h4]
          rw [this]
          by_cases e : arX (op c) x y
          · rw [if_pos e]; simp [binD, hv, hw, e]
          · rw [if_neg e]
            have e2 : (binD (op c) v w env) = some (ar0 (op c) x y) := by unfold binD; rw [hv, hw]; exact if_neg e
            rw [e2]; exact eC_at
        obtain ⟨f, hf⟩ := s2 y hw 2 _ hstep
        obtain ⟨g, hg⟩ := s1 x hv f _ hf
        exact ⟨g, hg⟩
theorem SC.not {op arg : Nat → Nat} {a b : Nat} {v : Den} {dp : Nat} (h1 : SC op arg a b v dp) (h3 : op b = 28) : SC op arg a (b + 1) (notD v) dp := by
  have a1 := h1.1
  refine ⟨by omega, fun k k1 k2 => ?_, fun env s hs => ?_⟩
  · by_cases e : k = b
    · subst e; exact ⟨Or.inr ⟨by omega, by omega⟩, fun z => by omega⟩
    · obtain ⟨p, q⟩ := h1.2.1 k k1 (by omega)
      exact ⟨p, fun z => by have := q z; omega⟩
  · obtain ⟨n1, s1⟩ := h1.run (c := b + 1) (by omega) env s (by omega)
    cases hv : v env with
    | none => obtain ⟨f, hf⟩ := n1 hv; exact ⟨f, by rw [hf]; simp [notD, hv]⟩
    | some x =>
      have hstep : eC op arg env (b + 1) 2 b (x :: s) = some ((notD v env).map (fun x => x :: s)) := by
        rw [eC_s, if_neg (by omega)]
        have : sC op arg env b (x :: s) = some (some (b + 1, (1 - x) :: s)) := by unfold sC sS; rw [if_neg (by omega), if_neg (by omega), if_neg (by omega), if_pos h3]
        rw [this]
        have e2 : notD v env = some (1 - x) := by unfold notD; rw [hv]; rfl
        rw [e2]; exact eC_at
      exact s1 x hv 2 _ hstep
theorem SC.jmp {op arg : Nat → Nat} {a j c : Nat} {v w : Den} {dp : Nat} (h1 : SC op arg a j v dp) (h2 : SC op arg (j + 1) c w dp) (h3 : op j = 29 ∨ op j = 30) (h4 : arg j = c) : SC op arg a c (jmpD (op j) v w) dp := by
  have a1 := h1.1
  have a2 := h2.1
  refine ⟨by omega, fun k k1 k2 => ?_, fun env s hs => ?_⟩
  · by_cases e : k < j
    · obtain ⟨p, q⟩ := h1.2.1 k k1 e
      exact ⟨p, fun z => by have := q z; omega⟩
    · by_cases e2 : k = j
      · subst e2; exact ⟨Or.inr ⟨by omega, by omega⟩, fun z => by omega⟩
      · exact h2.2.1 k (by omega) k2
  · obtain ⟨n1, s1⟩ := h1.run (c := c) (by omega) env s (by omega)
    cases hv : v env with
    | none => obtain ⟨f, hf⟩ := n1 hv; exact ⟨f, by rw [hf]; simp [jmpD, hv]⟩
    | some x =>
      have hst : sC op arg env j (x :: s) = if x = (if op j = 29 then 0 else 1) then some (some (arg j, x :: s)) else some (some (j + 1, s)) := by unfold sC sS; rw [if_neg (by omega), if_neg (by omega), if_neg (by omega), if_neg (by omega)]
      by_cases e : x = (if op j = 29 then 0 else 1)
      · rw [if_pos e, h4] at hst
        have hstep : eC op arg env c 2 j (x :: s) = some (some (x :: s)) := by
          rw [eC_s, if_neg (by omega), hst]; exact eC_at
        obtain ⟨g, hg⟩ := s1 x hv 2 _ hstep
        refine ⟨g, ?_⟩
        have e2 : jmpD (op j) v w env = some x := by unfold jmpD; rw [hv]; exact if_pos e
        rw [hg, e2]; rfl
      · rw [if_neg e] at hst
        obtain ⟨f, hf⟩ := h2.2.2 env s (by omega)
        have hstep : eC op arg env c (f + 1) j (x :: s) = some ((w env).map (fun x => x :: s)) := by
          rw [eC_s, if_neg (by omega), hst]; exact hf
        obtain ⟨g, hg⟩ := s1 x hv _ _ hstep
        refine ⟨g, ?_⟩
        have e2 : jmpD (op j) v w env = w env := by unfold jmpD; rw [hv]; exact if_neg e
        rw [hg, e2]

theorem SC.mono {op arg : Nat → Nat} {a b : Nat} {v : Den} {dp dp2 : Nat} (h : SC op arg a b v dp) (hd : dp ≤ dp2) : SC op arg a b v dp2 := ⟨h.1, h.2.1, fun env s hs => h.2.2 env s (by omega)⟩
theorem SC.ev {op arg : Nat → Nat} {a b : Nat} {v : Den} {dp : Nat} (h : SC op arg a b v dp) (hd : dp ≤ 64) (env : Nat → Int64) : ∃ f, eC op arg env b f a [] = some ((v env).map (fun x => [x])) := h.2.2 env [] (by show 0 + dp ≤ 64; omega)
/-- the class's steps as the model's -/
def cop (st wi : Nat → Nat) (k : Nat) : Nat := if st k = 0 then 0 else if st k = 1 then wi k + 1 else if st k = 2 then 28 else if st k = 3 then 29 else if st k = 4 then 30 else if st k = 43 then 20 else if st k = 45 then 21 else if st k = 42 then 22 else if st k = 47 then 23 else if st k = 37 then 24 else if st k = 60 then 25 else if st k = 62 then 26 else 27
def carg (st wi : Nat → Nat) (k : Nat) : Nat := if st k = 1 then 0 else wi k
/-- a step that may be -/
def vst (st wi : Nat → Nat) (k : Nat) : Prop := (st k = 0 ∨ st k = 1 ∧ wi k < 7 ∨ st k = 2 ∨ st k = 3 ∨ st k = 4 ∨ st k = 43 ∨ st k = 45 ∨ st k = 42 ∨ st k = 47 ∨ st k = 37 ∨ st k = 60 ∨ st k = 62 ∨ st k = 61) ∧ wi k < 2147483648
set_option maxHeartbeats 200000 in
theorem r5_22_push0 {l : Launch} {K : cK} {d : Nat} {I : wI} {L : wL} {R : wR} {dy : cH} (n w : Nat) (hn : I 22 2 = nI n) (h64 : n < 64) (hw : w < 2147483648) (hd : 0 ≤ d) : CV l K m5_push d [.ref 22, .int (nI 0), .int (nI w)] (hp I L R dy) (hp (uI I 22 2 (nI (n + 1))) (uL L 24 n (lN w)) R dy) := by
  refine CC.of ok5_push (Nat.le_of_ble_eq_true rfl) ?_
  refine g_iload_n d5_push_0 rfl ?_
  refine g_iconstv (nI 1) d5_push_1 rfl ?_
  refine g_ic_ne (0) (1) 9 (by decide) (by decide) d5_push_2 rfl (fun _ => ?_) (fun c2 => absurd c2 (by decide))
  refine g_iconstv (nI 0) d5_push_9 rfl ?_
  refine g_istore_n d5_push_10 (by decide) ?_
  refine g_aload_n d5_push_11 rfl ?_
  refine g_get fl5_56 d5_push_12 f_22_2 ?_
  refine g_topI (nI (n)) (hn) ?_
  refine g_bipushv (nI 64) d5_push_15 rfl ?_
  refine g_ic_ge ((n : Nat) : Int) (64) 34 (nI_ti (by omega)) (by decide) d5_push_17 rfl (fun c17 => absurd c17 (by omega)) (fun _ => ?_)
  refine g_iload_n d5_push_20 rfl ?_
  refine g_iz_eq (0) 40 (by decide) d5_push_21 rfl (fun _ => ?_) (fun c21 => absurd c21 (by decide))
  refine g_aload_n d5_push_40 rfl ?_
  refine g_get fl5_13 d5_push_41 f_22_1 ?_
  refine g_aload_n d5_push_44 rfl ?_
  refine g_get fl5_56 d5_push_45 f_22_2 ?_
  refine g_topI (nI (n)) (hn) ?_
  refine g_iload_n d5_push_48 rfl ?_
  refine g_iz_eq (0) 62 (by decide) d5_push_49 rfl (fun _ => ?_) (fun c49 => absurd c49 (by decide))
  refine g_iload_n d5_push_62 rfl ?_
  refine g_i2lN (by omega) d5_push_63 ?_
  refine g_lastN (n) _ d5_push_64 a_24 (rfl) (by omega) (by decide) t_24 ?_
  refine g_aload_n d5_push_65 rfl ?_
  refine g_dup d5_push_66 rfl ?_
  refine g_get fl5_56 d5_push_67 f_22_2 ?_
  refine g_topI (nI (n)) (hn) ?_
  refine g_iconstv (nI 1) d5_push_70 rfl ?_
  refine g_iaddN d5_push_71 ?_
  refine g_putIh _ fl5_56 d5_push_72 f_22_2 s_22_2 ?_
  exact g_vret rfl d5_push_75 (⟨rfl, rfl⟩)
set_option maxHeartbeats 200000 in
theorem r5_22_push1 {l : Launch} {K : cK} {d : Nat} {I : wI} {L : wL} {R : wR} {dy : cH} (n w : Nat) (hn : I 22 2 = nI n) (h64 : n < 64) (hw : w < 7) (hd : 0 ≤ d) : CV l K m5_push d [.ref 22, .int (nI 1), .int (nI w)] (hp I L R dy) (hp (uI I 22 2 (nI (n + 1))) (uL L 24 n (I 23 w).toInt64) R dy) := by
  refine CC.of ok5_push (Nat.le_of_ble_eq_true rfl) ?_
  refine g_iload_n d5_push_0 rfl ?_
  refine g_iconstv (nI 1) d5_push_1 rfl ?_
  refine g_ic_ne (1) (1) 9 (by decide) (by decide) d5_push_2 rfl (fun c2 => absurd c2 (by decide)) (fun _ => ?_)
  refine g_iconstv (nI 1) d5_push_5 rfl ?_
  refine g_goto 10 d5_push_6 rfl ?_
  refine g_istore_n d5_push_10 (by decide) ?_
  refine g_aload_n d5_push_11 rfl ?_
  refine g_get fl5_56 d5_push_12 f_22_2 ?_
  refine g_topI (nI (n)) (hn) ?_
  refine g_bipushv (nI 64) d5_push_15 rfl ?_
  refine g_ic_ge ((n : Nat) : Int) (64) 34 (nI_ti (by omega)) (by decide) d5_push_17 rfl (fun c17 => absurd c17 (by omega)) (fun _ => ?_)
  refine g_iload_n d5_push_20 rfl ?_
  refine g_iz_eq (1) 40 (by decide) d5_push_21 rfl (fun c21 => absurd c21 (by decide)) (fun _ => ?_)
  refine g_iload_n d5_push_24 rfl ?_
  refine g_iz_lt ((w : Nat) : Int) 34 (nI_ti (by omega)) d5_push_25 rfl (fun c25 => absurd c25 (by omega)) (fun _ => ?_)
  refine g_iload_n d5_push_28 rfl ?_
  refine g_bipushv (nI 7) d5_push_29 rfl ?_
  refine g_ic_lt ((w : Nat) : Int) (7) 40 (nI_ti (by omega)) (by decide) d5_push_31 rfl (fun _ => ?_) (fun c31 => absurd c31 (by omega))
  refine g_aload_n d5_push_40 rfl ?_
  refine g_get fl5_13 d5_push_41 f_22_1 ?_
  refine g_aload_n d5_push_44 rfl ?_
  refine g_get fl5_56 d5_push_45 f_22_2 ?_
  refine g_topI (nI (n)) (hn) ?_
  refine g_iload_n d5_push_48 rfl ?_
  refine g_iz_eq (1) 62 (by decide) d5_push_49 rfl (fun c49 => absurd c49 (by decide)) (fun _ => ?_)
  refine g_aload_n d5_push_52 rfl ?_
  refine g_get fl5_9 d5_push_53 f_22_0 ?_
  refine g_iload_n d5_push_56 rfl ?_
  refine g_ialdN (w) d5_push_57 a_23 (rfl) (by omega) (by decide) ?_
  refine g_i2l d5_push_58 ?_
  refine g_goto 64 d5_push_59 rfl ?_
  refine g_lastN (n) _ d5_push_64 a_24 (rfl) (by omega) (by decide) t_24 ?_
  refine g_aload_n d5_push_65 rfl ?_
  refine g_dup d5_push_66 rfl ?_
  refine g_get fl5_56 d5_push_67 f_22_2 ?_
  refine g_topI (nI (n)) (hn) ?_
  refine g_iconstv (nI 1) d5_push_70 rfl ?_
  refine g_iaddN d5_push_71 ?_
  refine g_putIh _ fl5_56 d5_push_72 f_22_2 s_22_2 ?_
  exact g_vret rfl d5_push_75 (⟨rfl, rfl⟩)
set_option maxHeartbeats 400000 in
theorem r5_22_jt {l : Launch} {K : cK} {d : Nat} {I : wI} {L : wL} {R : wR} {dy : cH} {Q : Option Value → cH → Prop} (m : Nat) (hm : I 22 2 = nI m) (h1 : 1 ≤ m) (h64 : m < 64) (c : Int64) (kk : Q none (hp (uI I 22 3 (if -1000000000 ≤ c.toInt ∧ c.toInt ≤ 1000000000 then 0 else 1)) (uL L 24 (m - 1) c) R dy)) : GL l K m5_join d 0 0 237 [(0, .ref 22), (6, .long c)] [] (hp I L R dy) Q := by
  by_cases hc : -1000000000 ≤ c.toInt ∧ c.toInt ≤ 1000000000
  · rw [if_pos hc] at kk
    refine g_aload_n d5_join_237 rfl ?_
    refine g_lload d5_join_238 rfl ?_
    refine g_ldc2 d5_join_240 kl5_73 ?_
    refine g_lx_gt c.toInt (1000000000) 256 (rfl) (by decide) d5_join_243 d5_join_244 rfl (fun c243 => absurd c243 (by omega)) (fun _ => ?_)
    refine g_lload d5_join_247 rfl ?_
    refine g_ldc2 d5_join_249 kl5_75 ?_
    refine g_lx_ge c.toInt (-1000000000) 260 (rfl) (by decide) d5_join_252 d5_join_253 rfl (fun _ => ?_) (fun c252 => absurd c252 (by omega))
    refine g_iconstv (nI 0) d5_join_260 rfl ?_
    refine g_putZh _ fl5_36 d5_join_261 f_22_3 (by decide) s_22_3 ?_
    refine g_aload_n d5_join_264 rfl ?_
    refine g_get fl5_13 d5_join_265 f_22_1 ?_
    refine g_aload_n d5_join_268 rfl ?_
    refine g_get fl5_56 d5_join_269 f_22_2 ?_
    refine g_topI (nI (m)) (hm) ?_
    refine g_iconstv (nI 1) d5_join_272 rfl ?_
    refine g_isubN (h1) d5_join_273 ?_
    refine g_lload d5_join_274 rfl ?_
    refine g_lastN ((m - 1)) _ d5_join_276 a_24 (rfl) (by omega) (by decide) t_24 ?_
    exact g_vret rfl d5_join_277 (kk)
  · rw [if_neg hc] at kk
    by_cases hc2 : 1000000000 < c.toInt
    · skip
      refine g_aload_n d5_join_237 rfl ?_
      refine g_lload d5_join_238 rfl ?_
      refine g_ldc2 d5_join_240 kl5_73 ?_
      refine g_lx_gt c.toInt (1000000000) 256 (rfl) (by decide) d5_join_243 d5_join_244 rfl (fun _ => ?_) (fun c243 => absurd c243 (by omega))
      refine g_iconstv (nI 1) d5_join_256 rfl ?_
      refine g_goto 261 d5_join_257 rfl ?_
      refine g_putZh _ fl5_36 d5_join_261 f_22_3 (by decide) s_22_3 ?_
      refine g_aload_n d5_join_264 rfl ?_
      refine g_get fl5_13 d5_join_265 f_22_1 ?_
      refine g_aload_n d5_join_268 rfl ?_
      refine g_get fl5_56 d5_join_269 f_22_2 ?_
      refine g_topI (nI (m)) (hm) ?_
      refine g_iconstv (nI 1) d5_join_272 rfl ?_
      refine g_isubN (h1) d5_join_273 ?_
      refine g_lload d5_join_274 rfl ?_
      refine g_lastN ((m - 1)) _ d5_join_276 a_24 (rfl) (by omega) (by decide) t_24 ?_
      exact g_vret rfl d5_join_277 (kk)
    · skip
      refine g_aload_n d5_join_237 rfl ?_
      refine g_lload d5_join_238 rfl ?_
      refine g_ldc2 d5_join_240 kl5_73 ?_
      refine g_lx_gt c.toInt (1000000000) 256 (rfl) (by decide) d5_join_243 d5_join_244 rfl (fun c243 => absurd c243 (by omega)) (fun _ => ?_)
      refine g_lload d5_join_247 rfl ?_
      refine g_ldc2 d5_join_249 kl5_75 ?_
      refine g_lx_ge c.toInt (-1000000000) 260 (rfl) (by decide) d5_join_252 d5_join_253 rfl (fun c252 => absurd c252 (by omega)) (fun _ => ?_)
      refine g_iconstv (nI 1) d5_join_256 rfl ?_
      refine g_goto 261 d5_join_257 rfl ?_
      refine g_putZh _ fl5_36 d5_join_261 f_22_3 (by decide) s_22_3 ?_
      refine g_aload_n d5_join_264 rfl ?_
      refine g_get fl5_13 d5_join_265 f_22_1 ?_
      refine g_aload_n d5_join_268 rfl ?_
      refine g_get fl5_56 d5_join_269 f_22_2 ?_
      refine g_topI (nI (m)) (hm) ?_
      refine g_iconstv (nI 1) d5_join_272 rfl ?_
      refine g_isubN (h1) d5_join_273 ?_
      refine g_lload d5_join_274 rfl ?_
      refine g_lastN ((m - 1)) _ d5_join_276 a_24 (rfl) (by omega) (by decide) t_24 ?_
      exact g_vret rfl d5_join_277 (kk)
set_option maxHeartbeats 400000 in
theorem r5_22_j20 {l : Launch} {K : cK} {d : Nat} {I : wI} {L : wL} {R : wR} {dy : cH} (n : Nat) (hn : I 22 2 = nI n) (h2 : 2 ≤ n) (h64 : n ≤ 64) (a b : Int64) (ha : L 24 (n - 1 - 1) = a) (hb : L 24 (n - 1) = b) (hd : 0 ≤ d) : CV l K m5_join d [.ref 22, .int (nI 43)] (hp I L R dy) (hp (uI (uI I 22 2 (nI (n - 1))) 22 3 (if -1000000000 ≤ (ar0 20 a b).toInt ∧ (ar0 20 a b).toInt ≤ 1000000000 then 0 else 1)) (uL L 24 (n - 1 - 1) (ar0 20 a b)) R dy) := by
  refine CC.of ok5_join (Nat.le_of_ble_eq_true rfl) ?_
  refine g_aload_n d5_join_0 rfl ?_
  refine g_get fl5_56 d5_join_1 f_22_2 ?_
  refine g_topI (nI (n)) (hn) ?_
  refine g_iconstv (nI 2) d5_join_4 rfl ?_
  refine g_ic_ge ((n : Nat) : Int) (2) 14 (nI_ti (by omega)) (by decide) d5_join_5 rfl (fun _ => ?_) (fun c5 => absurd c5 (by omega))
  refine g_aload_n d5_join_14 rfl ?_
  refine g_dup d5_join_15 rfl ?_
  refine g_get fl5_56 d5_join_16 f_22_2 ?_
  refine g_topI (nI (n)) (hn) ?_
  refine g_iconstv (nI 1) d5_join_19 rfl ?_
  refine g_isubN (by omega) d5_join_20 ?_
  refine g_putIh _ fl5_56 d5_join_21 f_22_2 s_22_2 ?_
  refine g_aload_n d5_join_24 rfl ?_
  refine g_get fl5_13 d5_join_25 f_22_1 ?_
  refine g_aload_n d5_join_28 rfl ?_
  refine g_get fl5_56 d5_join_29 f_22_2 ?_
  refine g_topI (nI ((n - 1))) (uI_ss) ?_
  refine g_iconstv (nI 1) d5_join_32 rfl ?_
  refine g_isubN (by omega) d5_join_33 ?_
  refine g_laldN (((n - 1) - 1)) d5_join_34 a_24 (rfl) (by omega) (by decide) ?_
  refine g_topL (a) (ha) ?_
  refine g_lstore_n d5_join_35 (by decide) ?_
  refine g_aload_n d5_join_36 rfl ?_
  refine g_get fl5_13 d5_join_37 f_22_1 ?_
  refine g_aload_n d5_join_40 rfl ?_
  refine g_get fl5_56 d5_join_41 f_22_2 ?_
  refine g_topI (nI ((n - 1))) (uI_ss) ?_
  refine g_laldN ((n - 1)) d5_join_44 a_24 (rfl) (by omega) (by decide) ?_
  refine g_topL (b) (hb) ?_
  refine g_lstore d5_join_45 (by decide) ?_
  refine g_lload d5_join_47 rfl ?_
  refine g_lconstv (0) d5_join_49 rfl ?_
  refine g_lx_ne _ (0) 72 (rfl) (by decide) d5_join_50 d5_join_51 rfl (fun c50 => ?_) (fun c50 => ?_)
  · refine g_lconstv (0) d5_join_72 rfl ?_
    refine g_lstore d5_join_73 (by decide) ?_
    refine g_iload_n d5_join_75 rfl ?_
    refine g_lookup 144 d5_join_76 (by decide) rfl rfl ?_
    refine g_lload_n d5_join_144 rfl ?_
    refine g_lload d5_join_145 rfl ?_
    refine g_ladd d5_join_147 ?_
    refine g_lstore d5_join_148 (by decide) ?_
    refine g_goto 237 d5_join_150 rfl ?_
    refine g_lo [(0, .ref 22), (6, .long (a + b))] ⟨rfl, rfl, trivial⟩ ?_
    have hc : ar0 20 a b = a + b := rfl
    refine r5_22_jt (I := (uI I 22 2 (nI (n - 1)))) (n - 1) uI_ss (by omega) (by omega) _ ?_
    rw [← hc]
    exact ⟨rfl, rfl⟩
  · refine g_iload_n d5_join_54 rfl ?_
    refine g_bipushv (nI 47) d5_join_55 rfl ?_
    refine g_ic_eq (43) (47) 66 (by decide) (by decide) d5_join_57 rfl (fun c57 => absurd c57 (by decide)) (fun _ => ?_)
    refine g_iload_n d5_join_60 rfl ?_
    refine g_bipushv (nI 37) d5_join_61 rfl ?_
    refine g_ic_ne (43) (37) 72 (by decide) (by decide) d5_join_63 rfl (fun _ => ?_) (fun c63 => absurd c63 (by decide))
    refine g_lconstv (0) d5_join_72 rfl ?_
    refine g_lstore d5_join_73 (by decide) ?_
    refine g_iload_n d5_join_75 rfl ?_
    refine g_lookup 144 d5_join_76 (by decide) rfl rfl ?_
    refine g_lload_n d5_join_144 rfl ?_
    refine g_lload d5_join_145 rfl ?_
    refine g_ladd d5_join_147 ?_
    refine g_lstore d5_join_148 (by decide) ?_
    refine g_goto 237 d5_join_150 rfl ?_
    refine g_lo [(0, .ref 22), (6, .long (a + b))] ⟨rfl, rfl, trivial⟩ ?_
    have hc : ar0 20 a b = a + b := rfl
    refine r5_22_jt (I := (uI I 22 2 (nI (n - 1)))) (n - 1) uI_ss (by omega) (by omega) _ ?_
    rw [← hc]
    exact ⟨rfl, rfl⟩
set_option maxHeartbeats 400000 in
theorem r5_22_j21 {l : Launch} {K : cK} {d : Nat} {I : wI} {L : wL} {R : wR} {dy : cH} (n : Nat) (hn : I 22 2 = nI n) (h2 : 2 ≤ n) (h64 : n ≤ 64) (a b : Int64) (ha : L 24 (n - 1 - 1) = a) (hb : L 24 (n - 1) = b) (hd : 0 ≤ d) : CV l K m5_join d [.ref 22, .int (nI 45)] (hp I L R dy) (hp (uI (uI I 22 2 (nI (n - 1))) 22 3 (if -1000000000 ≤ (ar0 21 a b).toInt ∧ (ar0 21 a b).toInt ≤ 1000000000 then 0 else 1)) (uL L 24 (n - 1 - 1) (ar0 21 a b)) R dy) := by
  refine CC.of ok5_join (Nat.le_of_ble_eq_true rfl) ?_
  refine g_aload_n d5_join_0 rfl ?_
  refine g_get fl5_56 d5_join_1 f_22_2 ?_
  refine g_topI (nI (n)) (hn) ?_
  refine g_iconstv (nI 2) d5_join_4 rfl ?_
  refine g_ic_ge ((n : Nat) : Int) (2) 14 (nI_ti (by omega)) (by decide) d5_join_5 rfl (fun _ => ?_) (fun c5 => absurd c5 (by omega))
  refine g_aload_n d5_join_14 rfl ?_
  refine g_dup d5_join_15 rfl ?_
  refine g_get fl5_56 d5_join_16 f_22_2 ?_
  refine g_topI (nI (n)) (hn) ?_
  refine g_iconstv (nI 1) d5_join_19 rfl ?_
  refine g_isubN (by omega) d5_join_20 ?_
  refine g_putIh _ fl5_56 d5_join_21 f_22_2 s_22_2 ?_
  refine g_aload_n d5_join_24 rfl ?_
  refine g_get fl5_13 d5_join_25 f_22_1 ?_
  refine g_aload_n d5_join_28 rfl ?_
  refine g_get fl5_56 d5_join_29 f_22_2 ?_
  refine g_topI (nI ((n - 1))) (uI_ss) ?_
  refine g_iconstv (nI 1) d5_join_32 rfl ?_
  refine g_isubN (by omega) d5_join_33 ?_
  refine g_laldN (((n - 1) - 1)) d5_join_34 a_24 (rfl) (by omega) (by decide) ?_
  refine g_topL (a) (ha) ?_
  refine g_lstore_n d5_join_35 (by decide) ?_
  refine g_aload_n d5_join_36 rfl ?_
  refine g_get fl5_13 d5_join_37 f_22_1 ?_
  refine g_aload_n d5_join_40 rfl ?_
  refine g_get fl5_56 d5_join_41 f_22_2 ?_
  refine g_topI (nI ((n - 1))) (uI_ss) ?_
  refine g_laldN ((n - 1)) d5_join_44 a_24 (rfl) (by omega) (by decide) ?_
  refine g_topL (b) (hb) ?_
  refine g_lstore d5_join_45 (by decide) ?_
  refine g_lload d5_join_47 rfl ?_
  refine g_lconstv (0) d5_join_49 rfl ?_
  refine g_lx_ne _ (0) 72 (rfl) (by decide) d5_join_50 d5_join_51 rfl (fun c50 => ?_) (fun c50 => ?_)
  · refine g_lconstv (0) d5_join_72 rfl ?_
    refine g_lstore d5_join_73 (by decide) ?_
    refine g_iload_n d5_join_75 rfl ?_
    refine g_lookup 153 d5_join_76 (by decide) rfl rfl ?_
    refine g_lload_n d5_join_153 rfl ?_
    refine g_lload d5_join_154 rfl ?_
    refine g_lsub d5_join_156 ?_
    refine g_lstore d5_join_157 (by decide) ?_
    refine g_goto 237 d5_join_159 rfl ?_
    refine g_lo [(0, .ref 22), (6, .long (a - b))] ⟨rfl, rfl, trivial⟩ ?_
    have hc : ar0 21 a b = a - b := rfl
    refine r5_22_jt (I := (uI I 22 2 (nI (n - 1)))) (n - 1) uI_ss (by omega) (by omega) _ ?_
    rw [← hc]
    exact ⟨rfl, rfl⟩
  · refine g_iload_n d5_join_54 rfl ?_
    refine g_bipushv (nI 47) d5_join_55 rfl ?_
    refine g_ic_eq (45) (47) 66 (by decide) (by decide) d5_join_57 rfl (fun c57 => absurd c57 (by decide)) (fun _ => ?_)
    refine g_iload_n d5_join_60 rfl ?_
    refine g_bipushv (nI 37) d5_join_61 rfl ?_
    refine g_ic_ne (45) (37) 72 (by decide) (by decide) d5_join_63 rfl (fun _ => ?_) (fun c63 => absurd c63 (by decide))
    refine g_lconstv (0) d5_join_72 rfl ?_
    refine g_lstore d5_join_73 (by decide) ?_
    refine g_iload_n d5_join_75 rfl ?_
    refine g_lookup 153 d5_join_76 (by decide) rfl rfl ?_
    refine g_lload_n d5_join_153 rfl ?_
    refine g_lload d5_join_154 rfl ?_
    refine g_lsub d5_join_156 ?_
    refine g_lstore d5_join_157 (by decide) ?_
    refine g_goto 237 d5_join_159 rfl ?_
    refine g_lo [(0, .ref 22), (6, .long (a - b))] ⟨rfl, rfl, trivial⟩ ?_
    have hc : ar0 21 a b = a - b := rfl
    refine r5_22_jt (I := (uI I 22 2 (nI (n - 1)))) (n - 1) uI_ss (by omega) (by omega) _ ?_
    rw [← hc]
    exact ⟨rfl, rfl⟩
set_option maxHeartbeats 400000 in
theorem r5_22_j22 {l : Launch} {K : cK} {d : Nat} {I : wI} {L : wL} {R : wR} {dy : cH} (n : Nat) (hn : I 22 2 = nI n) (h2 : 2 ≤ n) (h64 : n ≤ 64) (a b : Int64) (ha : L 24 (n - 1 - 1) = a) (hb : L 24 (n - 1) = b) (hd : 0 ≤ d) : CV l K m5_join d [.ref 22, .int (nI 42)] (hp I L R dy) (hp (uI (uI I 22 2 (nI (n - 1))) 22 3 (if -1000000000 ≤ (ar0 22 a b).toInt ∧ (ar0 22 a b).toInt ≤ 1000000000 then 0 else 1)) (uL L 24 (n - 1 - 1) (ar0 22 a b)) R dy) := by
  refine CC.of ok5_join (Nat.le_of_ble_eq_true rfl) ?_
  refine g_aload_n d5_join_0 rfl ?_
  refine g_get fl5_56 d5_join_1 f_22_2 ?_
  refine g_topI (nI (n)) (hn) ?_
  refine g_iconstv (nI 2) d5_join_4 rfl ?_
  refine g_ic_ge ((n : Nat) : Int) (2) 14 (nI_ti (by omega)) (by decide) d5_join_5 rfl (fun _ => ?_) (fun c5 => absurd c5 (by omega))
  refine g_aload_n d5_join_14 rfl ?_
  refine g_dup d5_join_15 rfl ?_
  refine g_get fl5_56 d5_join_16 f_22_2 ?_
  refine g_topI (nI (n)) (hn) ?_
  refine g_iconstv (nI 1) d5_join_19 rfl ?_
  refine g_isubN (by omega) d5_join_20 ?_
  refine g_putIh _ fl5_56 d5_join_21 f_22_2 s_22_2 ?_
  refine g_aload_n d5_join_24 rfl ?_
  refine g_get fl5_13 d5_join_25 f_22_1 ?_
  refine g_aload_n d5_join_28 rfl ?_
  refine g_get fl5_56 d5_join_29 f_22_2 ?_
  refine g_topI (nI ((n - 1))) (uI_ss) ?_
  refine g_iconstv (nI 1) d5_join_32 rfl ?_
  refine g_isubN (by omega) d5_join_33 ?_
  refine g_laldN (((n - 1) - 1)) d5_join_34 a_24 (rfl) (by omega) (by decide) ?_
  refine g_topL (a) (ha) ?_
  refine g_lstore_n d5_join_35 (by decide) ?_
  refine g_aload_n d5_join_36 rfl ?_
  refine g_get fl5_13 d5_join_37 f_22_1 ?_
  refine g_aload_n d5_join_40 rfl ?_
  refine g_get fl5_56 d5_join_41 f_22_2 ?_
  refine g_topI (nI ((n - 1))) (uI_ss) ?_
  refine g_laldN ((n - 1)) d5_join_44 a_24 (rfl) (by omega) (by decide) ?_
  refine g_topL (b) (hb) ?_
  refine g_lstore d5_join_45 (by decide) ?_
  refine g_lload d5_join_47 rfl ?_
  refine g_lconstv (0) d5_join_49 rfl ?_
  refine g_lx_ne _ (0) 72 (rfl) (by decide) d5_join_50 d5_join_51 rfl (fun c50 => ?_) (fun c50 => ?_)
  · refine g_lconstv (0) d5_join_72 rfl ?_
    refine g_lstore d5_join_73 (by decide) ?_
    refine g_iload_n d5_join_75 rfl ?_
    refine g_lookup 162 d5_join_76 (by decide) rfl rfl ?_
    refine g_lload_n d5_join_162 rfl ?_
    refine g_lload d5_join_163 rfl ?_
    refine g_lmul d5_join_165 ?_
    refine g_lstore d5_join_166 (by decide) ?_
    refine g_goto 237 d5_join_168 rfl ?_
    refine g_lo [(0, .ref 22), (6, .long (a * b))] ⟨rfl, rfl, trivial⟩ ?_
    have hc : ar0 22 a b = a * b := rfl
    refine r5_22_jt (I := (uI I 22 2 (nI (n - 1)))) (n - 1) uI_ss (by omega) (by omega) _ ?_
    rw [← hc]
    exact ⟨rfl, rfl⟩
  · refine g_iload_n d5_join_54 rfl ?_
    refine g_bipushv (nI 47) d5_join_55 rfl ?_
    refine g_ic_eq (42) (47) 66 (by decide) (by decide) d5_join_57 rfl (fun c57 => absurd c57 (by decide)) (fun _ => ?_)
    refine g_iload_n d5_join_60 rfl ?_
    refine g_bipushv (nI 37) d5_join_61 rfl ?_
    refine g_ic_ne (42) (37) 72 (by decide) (by decide) d5_join_63 rfl (fun _ => ?_) (fun c63 => absurd c63 (by decide))
    refine g_lconstv (0) d5_join_72 rfl ?_
    refine g_lstore d5_join_73 (by decide) ?_
    refine g_iload_n d5_join_75 rfl ?_
    refine g_lookup 162 d5_join_76 (by decide) rfl rfl ?_
    refine g_lload_n d5_join_162 rfl ?_
    refine g_lload d5_join_163 rfl ?_
    refine g_lmul d5_join_165 ?_
    refine g_lstore d5_join_166 (by decide) ?_
    refine g_goto 237 d5_join_168 rfl ?_
    refine g_lo [(0, .ref 22), (6, .long (a * b))] ⟨rfl, rfl, trivial⟩ ?_
    have hc : ar0 22 a b = a * b := rfl
    refine r5_22_jt (I := (uI I 22 2 (nI (n - 1)))) (n - 1) uI_ss (by omega) (by omega) _ ?_
    rw [← hc]
    exact ⟨rfl, rfl⟩
set_option maxHeartbeats 400000 in
theorem r5_22_j23 {l : Launch} {K : cK} {d : Nat} {I : wI} {L : wL} {R : wR} {dy : cH} (n : Nat) (hn : I 22 2 = nI n) (h2 : 2 ≤ n) (h64 : n ≤ 64) (a b : Int64) (ha : L 24 (n - 1 - 1) = a) (hb : L 24 (n - 1) = b) (hb0 : ¬ b = 0) (hd : 0 ≤ d) : CV l K m5_join d [.ref 22, .int (nI 47)] (hp I L R dy) (hp (uI (uI I 22 2 (nI (n - 1))) 22 3 (if -1000000000 ≤ (ar0 23 a b).toInt ∧ (ar0 23 a b).toInt ≤ 1000000000 then 0 else 1)) (uL L 24 (n - 1 - 1) (ar0 23 a b)) R dy) := by
  refine CC.of ok5_join (Nat.le_of_ble_eq_true rfl) ?_
  refine g_aload_n d5_join_0 rfl ?_
  refine g_get fl5_56 d5_join_1 f_22_2 ?_
  refine g_topI (nI (n)) (hn) ?_
  refine g_iconstv (nI 2) d5_join_4 rfl ?_
  refine g_ic_ge ((n : Nat) : Int) (2) 14 (nI_ti (by omega)) (by decide) d5_join_5 rfl (fun _ => ?_) (fun c5 => absurd c5 (by omega))
  refine g_aload_n d5_join_14 rfl ?_
  refine g_dup d5_join_15 rfl ?_
  refine g_get fl5_56 d5_join_16 f_22_2 ?_
  refine g_topI (nI (n)) (hn) ?_
  refine g_iconstv (nI 1) d5_join_19 rfl ?_
  refine g_isubN (by omega) d5_join_20 ?_
  refine g_putIh _ fl5_56 d5_join_21 f_22_2 s_22_2 ?_
  refine g_aload_n d5_join_24 rfl ?_
  refine g_get fl5_13 d5_join_25 f_22_1 ?_
  refine g_aload_n d5_join_28 rfl ?_
  refine g_get fl5_56 d5_join_29 f_22_2 ?_
  refine g_topI (nI ((n - 1))) (uI_ss) ?_
  refine g_iconstv (nI 1) d5_join_32 rfl ?_
  refine g_isubN (by omega) d5_join_33 ?_
  refine g_laldN (((n - 1) - 1)) d5_join_34 a_24 (rfl) (by omega) (by decide) ?_
  refine g_topL (a) (ha) ?_
  refine g_lstore_n d5_join_35 (by decide) ?_
  refine g_aload_n d5_join_36 rfl ?_
  refine g_get fl5_13 d5_join_37 f_22_1 ?_
  refine g_aload_n d5_join_40 rfl ?_
  refine g_get fl5_56 d5_join_41 f_22_2 ?_
  refine g_topI (nI ((n - 1))) (uI_ss) ?_
  refine g_laldN ((n - 1)) d5_join_44 a_24 (rfl) (by omega) (by decide) ?_
  refine g_topL (b) (hb) ?_
  refine g_lstore d5_join_45 (by decide) ?_
  refine g_lload d5_join_47 rfl ?_
  refine g_lconstv (0) d5_join_49 rfl ?_
  refine g_lx_ne _ (0) 72 (rfl) (by decide) d5_join_50 d5_join_51 rfl (fun _ => ?_) (fun c50 => absurd c50 (fun z => hb0 (by rw [l_eq]; exact z)))
  refine g_lconstv (0) d5_join_72 rfl ?_
  refine g_lstore d5_join_73 (by decide) ?_
  refine g_iload_n d5_join_75 rfl ?_
  refine g_lookup 171 d5_join_76 (by decide) rfl rfl ?_
  refine g_lload_n d5_join_171 rfl ?_
  refine g_lload d5_join_172 rfl ?_
  refine g_ldiv d5_join_174 (hb0) ?_
  refine g_lstore d5_join_175 (by decide) ?_
  refine g_goto 237 d5_join_177 rfl ?_
  refine g_lo [(0, .ref 22), (6, .long (a / b))] ⟨rfl, rfl, trivial⟩ ?_
  have hc : ar0 23 a b = a / b := if_neg hb0
  refine r5_22_jt (I := (uI I 22 2 (nI (n - 1)))) (n - 1) uI_ss (by omega) (by omega) _ ?_
  rw [← hc]
  exact ⟨rfl, rfl⟩
set_option maxHeartbeats 200000 in
theorem r5_22_jz23 {l : Launch} {K : cK} {d : Nat} {I : wI} {L : wL} {R : wR} {dy : cH} (n : Nat) (hn : I 22 2 = nI n) (h2 : 2 ≤ n) (h64 : n ≤ 64) (a b : Int64) (ha : L 24 (n - 1 - 1) = a) (hb : L 24 (n - 1) = b) (hb0 : b = 0) (hd : 0 ≤ d) : CV l K m5_join d [.ref 22, .int (nI 47)] (hp I L R dy) (hp (uI (uI I 22 2 (nI (n - 1))) 22 3 1) L R dy) := by
  refine CC.of ok5_join (Nat.le_of_ble_eq_true rfl) ?_
  refine g_aload_n d5_join_0 rfl ?_
  refine g_get fl5_56 d5_join_1 f_22_2 ?_
  refine g_topI (nI (n)) (hn) ?_
  refine g_iconstv (nI 2) d5_join_4 rfl ?_
  refine g_ic_ge ((n : Nat) : Int) (2) 14 (nI_ti (by omega)) (by decide) d5_join_5 rfl (fun _ => ?_) (fun c5 => absurd c5 (by omega))
  refine g_aload_n d5_join_14 rfl ?_
  refine g_dup d5_join_15 rfl ?_
  refine g_get fl5_56 d5_join_16 f_22_2 ?_
  refine g_topI (nI (n)) (hn) ?_
  refine g_iconstv (nI 1) d5_join_19 rfl ?_
  refine g_isubN (by omega) d5_join_20 ?_
  refine g_putIh _ fl5_56 d5_join_21 f_22_2 s_22_2 ?_
  refine g_aload_n d5_join_24 rfl ?_
  refine g_get fl5_13 d5_join_25 f_22_1 ?_
  refine g_aload_n d5_join_28 rfl ?_
  refine g_get fl5_56 d5_join_29 f_22_2 ?_
  refine g_topI (nI ((n - 1))) (uI_ss) ?_
  refine g_iconstv (nI 1) d5_join_32 rfl ?_
  refine g_isubN (by omega) d5_join_33 ?_
  refine g_laldN (((n - 1) - 1)) d5_join_34 a_24 (rfl) (by omega) (by decide) ?_
  refine g_topL (a) (ha) ?_
  refine g_lstore_n d5_join_35 (by decide) ?_
  refine g_aload_n d5_join_36 rfl ?_
  refine g_get fl5_13 d5_join_37 f_22_1 ?_
  refine g_aload_n d5_join_40 rfl ?_
  refine g_get fl5_56 d5_join_41 f_22_2 ?_
  refine g_topI (nI ((n - 1))) (uI_ss) ?_
  refine g_laldN ((n - 1)) d5_join_44 a_24 (rfl) (by omega) (by decide) ?_
  refine g_topL (b) (hb) ?_
  refine g_lstore d5_join_45 (by decide) ?_
  refine g_lload d5_join_47 rfl ?_
  refine g_lconstv (0) d5_join_49 rfl ?_
  refine g_lx_ne _ (0) 72 (rfl) (by decide) d5_join_50 d5_join_51 rfl (fun c50 => absurd c50 (fun z => z (by rw [hb0]; rfl))) (fun _ => ?_)
  refine g_iload_n d5_join_54 rfl ?_
  refine g_bipushv (nI 47) d5_join_55 rfl ?_
  refine g_ic_eq (47) (47) 66 (by decide) (by decide) d5_join_57 rfl (fun _ => ?_) (fun c57 => absurd c57 (by decide))
  refine g_aload_n d5_join_66 rfl ?_
  refine g_iconstv (nI 1) d5_join_67 rfl ?_
  refine g_putZh _ fl5_36 d5_join_68 f_22_3 (by decide) s_22_3 ?_
  exact g_vret rfl d5_join_71 (⟨rfl, rfl⟩)
set_option maxHeartbeats 400000 in
theorem r5_22_j24 {l : Launch} {K : cK} {d : Nat} {I : wI} {L : wL} {R : wR} {dy : cH} (n : Nat) (hn : I 22 2 = nI n) (h2 : 2 ≤ n) (h64 : n ≤ 64) (a b : Int64) (ha : L 24 (n - 1 - 1) = a) (hb : L 24 (n - 1) = b) (hb0 : ¬ b = 0) (hd : 0 ≤ d) : CV l K m5_join d [.ref 22, .int (nI 37)] (hp I L R dy) (hp (uI (uI I 22 2 (nI (n - 1))) 22 3 (if -1000000000 ≤ (ar0 24 a b).toInt ∧ (ar0 24 a b).toInt ≤ 1000000000 then 0 else 1)) (uL L 24 (n - 1 - 1) (ar0 24 a b)) R dy) := by
  refine CC.of ok5_join (Nat.le_of_ble_eq_true rfl) ?_
  refine g_aload_n d5_join_0 rfl ?_
  refine g_get fl5_56 d5_join_1 f_22_2 ?_
  refine g_topI (nI (n)) (hn) ?_
  refine g_iconstv (nI 2) d5_join_4 rfl ?_
  refine g_ic_ge ((n : Nat) : Int) (2) 14 (nI_ti (by omega)) (by decide) d5_join_5 rfl (fun _ => ?_) (fun c5 => absurd c5 (by omega))
  refine g_aload_n d5_join_14 rfl ?_
  refine g_dup d5_join_15 rfl ?_
  refine g_get fl5_56 d5_join_16 f_22_2 ?_
  refine g_topI (nI (n)) (hn) ?_
  refine g_iconstv (nI 1) d5_join_19 rfl ?_
  refine g_isubN (by omega) d5_join_20 ?_
  refine g_putIh _ fl5_56 d5_join_21 f_22_2 s_22_2 ?_
  refine g_aload_n d5_join_24 rfl ?_
  refine g_get fl5_13 d5_join_25 f_22_1 ?_
  refine g_aload_n d5_join_28 rfl ?_
  refine g_get fl5_56 d5_join_29 f_22_2 ?_
  refine g_topI (nI ((n - 1))) (uI_ss) ?_
  refine g_iconstv (nI 1) d5_join_32 rfl ?_
  refine g_isubN (by omega) d5_join_33 ?_
  refine g_laldN (((n - 1) - 1)) d5_join_34 a_24 (rfl) (by omega) (by decide) ?_
  refine g_topL (a) (ha) ?_
  refine g_lstore_n d5_join_35 (by decide) ?_
  refine g_aload_n d5_join_36 rfl ?_
  refine g_get fl5_13 d5_join_37 f_22_1 ?_
  refine g_aload_n d5_join_40 rfl ?_
  refine g_get fl5_56 d5_join_41 f_22_2 ?_
  refine g_topI (nI ((n - 1))) (uI_ss) ?_
  refine g_laldN ((n - 1)) d5_join_44 a_24 (rfl) (by omega) (by decide) ?_
  refine g_topL (b) (hb) ?_
  refine g_lstore d5_join_45 (by decide) ?_
  refine g_lload d5_join_47 rfl ?_
  refine g_lconstv (0) d5_join_49 rfl ?_
  refine g_lx_ne _ (0) 72 (rfl) (by decide) d5_join_50 d5_join_51 rfl (fun _ => ?_) (fun c50 => absurd c50 (fun z => hb0 (by rw [l_eq]; exact z)))
  refine g_lconstv (0) d5_join_72 rfl ?_
  refine g_lstore d5_join_73 (by decide) ?_
  refine g_iload_n d5_join_75 rfl ?_
  refine g_lookup 180 d5_join_76 (by decide) rfl rfl ?_
  refine g_lload_n d5_join_180 rfl ?_
  refine g_lload d5_join_181 rfl ?_
  refine g_lrem d5_join_183 (hb0) ?_
  refine g_lstore d5_join_184 (by decide) ?_
  refine g_goto 237 d5_join_186 rfl ?_
  refine g_lo [(0, .ref 22), (6, .long (a - a / b * b))] ⟨rfl, rfl, trivial⟩ ?_
  have hc : ar0 24 a b = a - a / b * b := if_neg hb0
  refine r5_22_jt (I := (uI I 22 2 (nI (n - 1)))) (n - 1) uI_ss (by omega) (by omega) _ ?_
  rw [← hc]
  exact ⟨rfl, rfl⟩
set_option maxHeartbeats 200000 in
theorem r5_22_jz24 {l : Launch} {K : cK} {d : Nat} {I : wI} {L : wL} {R : wR} {dy : cH} (n : Nat) (hn : I 22 2 = nI n) (h2 : 2 ≤ n) (h64 : n ≤ 64) (a b : Int64) (ha : L 24 (n - 1 - 1) = a) (hb : L 24 (n - 1) = b) (hb0 : b = 0) (hd : 0 ≤ d) : CV l K m5_join d [.ref 22, .int (nI 37)] (hp I L R dy) (hp (uI (uI I 22 2 (nI (n - 1))) 22 3 1) L R dy) := by
  refine CC.of ok5_join (Nat.le_of_ble_eq_true rfl) ?_
  refine g_aload_n d5_join_0 rfl ?_
  refine g_get fl5_56 d5_join_1 f_22_2 ?_
  refine g_topI (nI (n)) (hn) ?_
  refine g_iconstv (nI 2) d5_join_4 rfl ?_
  refine g_ic_ge ((n : Nat) : Int) (2) 14 (nI_ti (by omega)) (by decide) d5_join_5 rfl (fun _ => ?_) (fun c5 => absurd c5 (by omega))
  refine g_aload_n d5_join_14 rfl ?_
  refine g_dup d5_join_15 rfl ?_
  refine g_get fl5_56 d5_join_16 f_22_2 ?_
  refine g_topI (nI (n)) (hn) ?_
  refine g_iconstv (nI 1) d5_join_19 rfl ?_
  refine g_isubN (by omega) d5_join_20 ?_
  refine g_putIh _ fl5_56 d5_join_21 f_22_2 s_22_2 ?_
  refine g_aload_n d5_join_24 rfl ?_
  refine g_get fl5_13 d5_join_25 f_22_1 ?_
  refine g_aload_n d5_join_28 rfl ?_
  refine g_get fl5_56 d5_join_29 f_22_2 ?_
  refine g_topI (nI ((n - 1))) (uI_ss) ?_
  refine g_iconstv (nI 1) d5_join_32 rfl ?_
  refine g_isubN (by omega) d5_join_33 ?_
  refine g_laldN (((n - 1) - 1)) d5_join_34 a_24 (rfl) (by omega) (by decide) ?_
  refine g_topL (a) (ha) ?_
  refine g_lstore_n d5_join_35 (by decide) ?_
  refine g_aload_n d5_join_36 rfl ?_
  refine g_get fl5_13 d5_join_37 f_22_1 ?_
  refine g_aload_n d5_join_40 rfl ?_
  refine g_get fl5_56 d5_join_41 f_22_2 ?_
  refine g_topI (nI ((n - 1))) (uI_ss) ?_
  refine g_laldN ((n - 1)) d5_join_44 a_24 (rfl) (by omega) (by decide) ?_
  refine g_topL (b) (hb) ?_
  refine g_lstore d5_join_45 (by decide) ?_
  refine g_lload d5_join_47 rfl ?_
  refine g_lconstv (0) d5_join_49 rfl ?_
  refine g_lx_ne _ (0) 72 (rfl) (by decide) d5_join_50 d5_join_51 rfl (fun c50 => absurd c50 (fun z => z (by rw [hb0]; rfl))) (fun _ => ?_)
  refine g_iload_n d5_join_54 rfl ?_
  refine g_bipushv (nI 47) d5_join_55 rfl ?_
  refine g_ic_eq (37) (47) 66 (by decide) (by decide) d5_join_57 rfl (fun c57 => absurd c57 (by decide)) (fun _ => ?_)
  refine g_iload_n d5_join_60 rfl ?_
  refine g_bipushv (nI 37) d5_join_61 rfl ?_
  refine g_ic_ne (37) (37) 72 (by decide) (by decide) d5_join_63 rfl (fun c63 => absurd c63 (by decide)) (fun _ => ?_)
  refine g_aload_n d5_join_66 rfl ?_
  refine g_iconstv (nI 1) d5_join_67 rfl ?_
  refine g_putZh _ fl5_36 d5_join_68 f_22_3 (by decide) s_22_3 ?_
  exact g_vret rfl d5_join_71 (⟨rfl, rfl⟩)
set_option maxHeartbeats 400000 in
theorem r5_22_j25 {l : Launch} {K : cK} {d : Nat} {I : wI} {L : wL} {R : wR} {dy : cH} (n : Nat) (hn : I 22 2 = nI n) (h2 : 2 ≤ n) (h64 : n ≤ 64) (a b : Int64) (ha : L 24 (n - 1 - 1) = a) (hb : L 24 (n - 1) = b) (hd : 0 ≤ d) : CV l K m5_join d [.ref 22, .int (nI 60)] (hp I L R dy) (hp (uI (uI I 22 2 (nI (n - 1))) 22 3 (if -1000000000 ≤ (ar0 25 a b).toInt ∧ (ar0 25 a b).toInt ≤ 1000000000 then 0 else 1)) (uL L 24 (n - 1 - 1) (ar0 25 a b)) R dy) := by
  refine CC.of ok5_join (Nat.le_of_ble_eq_true rfl) ?_
  by_cases hcc : a < b
  · skip
    refine g_aload_n d5_join_0 rfl ?_
    refine g_get fl5_56 d5_join_1 f_22_2 ?_
    refine g_topI (nI (n)) (hn) ?_
    refine g_iconstv (nI 2) d5_join_4 rfl ?_
    refine g_ic_ge ((n : Nat) : Int) (2) 14 (nI_ti (by omega)) (by decide) d5_join_5 rfl (fun _ => ?_) (fun c5 => absurd c5 (by omega))
    refine g_aload_n d5_join_14 rfl ?_
    refine g_dup d5_join_15 rfl ?_
    refine g_get fl5_56 d5_join_16 f_22_2 ?_
    refine g_topI (nI (n)) (hn) ?_
    refine g_iconstv (nI 1) d5_join_19 rfl ?_
    refine g_isubN (by omega) d5_join_20 ?_
    refine g_putIh _ fl5_56 d5_join_21 f_22_2 s_22_2 ?_
    refine g_aload_n d5_join_24 rfl ?_
    refine g_get fl5_13 d5_join_25 f_22_1 ?_
    refine g_aload_n d5_join_28 rfl ?_
    refine g_get fl5_56 d5_join_29 f_22_2 ?_
    refine g_topI (nI ((n - 1))) (uI_ss) ?_
    refine g_iconstv (nI 1) d5_join_32 rfl ?_
    refine g_isubN (by omega) d5_join_33 ?_
    refine g_laldN (((n - 1) - 1)) d5_join_34 a_24 (rfl) (by omega) (by decide) ?_
    refine g_topL (a) (ha) ?_
    refine g_lstore_n d5_join_35 (by decide) ?_
    refine g_aload_n d5_join_36 rfl ?_
    refine g_get fl5_13 d5_join_37 f_22_1 ?_
    refine g_aload_n d5_join_40 rfl ?_
    refine g_get fl5_56 d5_join_41 f_22_2 ?_
    refine g_topI (nI ((n - 1))) (uI_ss) ?_
    refine g_laldN ((n - 1)) d5_join_44 a_24 (rfl) (by omega) (by decide) ?_
    refine g_topL (b) (hb) ?_
    refine g_lstore d5_join_45 (by decide) ?_
    refine g_lload d5_join_47 rfl ?_
    refine g_lconstv (0) d5_join_49 rfl ?_
    refine g_lx_ne _ (0) 72 (rfl) (by decide) d5_join_50 d5_join_51 rfl (fun c50 => ?_) (fun c50 => ?_)
    · refine g_lconstv (0) d5_join_72 rfl ?_
      refine g_lstore d5_join_73 (by decide) ?_
      refine g_iload_n d5_join_75 rfl ?_
      refine g_lookup 189 d5_join_76 (by decide) rfl rfl ?_
      refine g_lload_n d5_join_189 rfl ?_
      refine g_lload d5_join_190 rfl ?_
      refine g_lx_ge _ _ 200 (rfl) (rfl) d5_join_192 d5_join_193 rfl (fun c192 => absurd c192 (by first | (rw [l_lt] at hcc; omega) | (rw [l_eq] at hcc; omega))) (fun _ => ?_)
      refine g_lconstv (1) d5_join_196 rfl ?_
      refine g_goto 201 d5_join_197 rfl ?_
      refine g_lstore d5_join_201 (by decide) ?_
      refine g_goto 237 d5_join_203 rfl ?_
      refine g_lo [(0, .ref 22), (6, .long (1))] ⟨rfl, rfl, trivial⟩ ?_
      have hc : ar0 25 a b = 1 := if_pos hcc
      refine r5_22_jt (I := (uI I 22 2 (nI (n - 1)))) (n - 1) uI_ss (by omega) (by omega) _ ?_
      rw [← hc]
      exact ⟨rfl, rfl⟩
    · refine g_iload_n d5_join_54 rfl ?_
      refine g_bipushv (nI 47) d5_join_55 rfl ?_
      refine g_ic_eq (60) (47) 66 (by decide) (by decide) d5_join_57 rfl (fun c57 => absurd c57 (by decide)) (fun _ => ?_)
      refine g_iload_n d5_join_60 rfl ?_
      refine g_bipushv (nI 37) d5_join_61 rfl ?_
      refine g_ic_ne (60) (37) 72 (by decide) (by decide) d5_join_63 rfl (fun _ => ?_) (fun c63 => absurd c63 (by decide))
      refine g_lconstv (0) d5_join_72 rfl ?_
      refine g_lstore d5_join_73 (by decide) ?_
      refine g_iload_n d5_join_75 rfl ?_
      refine g_lookup 189 d5_join_76 (by decide) rfl rfl ?_
      refine g_lload_n d5_join_189 rfl ?_
      refine g_lload d5_join_190 rfl ?_
      refine g_lx_ge _ _ 200 (rfl) (rfl) d5_join_192 d5_join_193 rfl (fun c192 => absurd c192 (by first | (rw [l_lt] at hcc; omega) | (rw [l_eq] at hcc; omega))) (fun _ => ?_)
      refine g_lconstv (1) d5_join_196 rfl ?_
      refine g_goto 201 d5_join_197 rfl ?_
      refine g_lstore d5_join_201 (by decide) ?_
      refine g_goto 237 d5_join_203 rfl ?_
      refine g_lo [(0, .ref 22), (6, .long (1))] ⟨rfl, rfl, trivial⟩ ?_
      have hc : ar0 25 a b = 1 := if_pos hcc
      refine r5_22_jt (I := (uI I 22 2 (nI (n - 1)))) (n - 1) uI_ss (by omega) (by omega) _ ?_
      rw [← hc]
      exact ⟨rfl, rfl⟩
  · skip
    refine g_aload_n d5_join_0 rfl ?_
    refine g_get fl5_56 d5_join_1 f_22_2 ?_
    refine g_topI (nI (n)) (hn) ?_
    refine g_iconstv (nI 2) d5_join_4 rfl ?_
    refine g_ic_ge ((n : Nat) : Int) (2) 14 (nI_ti (by omega)) (by decide) d5_join_5 rfl (fun _ => ?_) (fun c5 => absurd c5 (by omega))
    refine g_aload_n d5_join_14 rfl ?_
    refine g_dup d5_join_15 rfl ?_
    refine g_get fl5_56 d5_join_16 f_22_2 ?_
    refine g_topI (nI (n)) (hn) ?_
    refine g_iconstv (nI 1) d5_join_19 rfl ?_
    refine g_isubN (by omega) d5_join_20 ?_
    refine g_putIh _ fl5_56 d5_join_21 f_22_2 s_22_2 ?_
    refine g_aload_n d5_join_24 rfl ?_
    refine g_get fl5_13 d5_join_25 f_22_1 ?_
    refine g_aload_n d5_join_28 rfl ?_
    refine g_get fl5_56 d5_join_29 f_22_2 ?_
    refine g_topI (nI ((n - 1))) (uI_ss) ?_
    refine g_iconstv (nI 1) d5_join_32 rfl ?_
    refine g_isubN (by omega) d5_join_33 ?_
    refine g_laldN (((n - 1) - 1)) d5_join_34 a_24 (rfl) (by omega) (by decide) ?_
    refine g_topL (a) (ha) ?_
    refine g_lstore_n d5_join_35 (by decide) ?_
    refine g_aload_n d5_join_36 rfl ?_
    refine g_get fl5_13 d5_join_37 f_22_1 ?_
    refine g_aload_n d5_join_40 rfl ?_
    refine g_get fl5_56 d5_join_41 f_22_2 ?_
    refine g_topI (nI ((n - 1))) (uI_ss) ?_
    refine g_laldN ((n - 1)) d5_join_44 a_24 (rfl) (by omega) (by decide) ?_
    refine g_topL (b) (hb) ?_
    refine g_lstore d5_join_45 (by decide) ?_
    refine g_lload d5_join_47 rfl ?_
    refine g_lconstv (0) d5_join_49 rfl ?_
    refine g_lx_ne _ (0) 72 (rfl) (by decide) d5_join_50 d5_join_51 rfl (fun c50 => ?_) (fun c50 => ?_)
    · refine g_lconstv (0) d5_join_72 rfl ?_
      refine g_lstore d5_join_73 (by decide) ?_
      refine g_iload_n d5_join_75 rfl ?_
      refine g_lookup 189 d5_join_76 (by decide) rfl rfl ?_
      refine g_lload_n d5_join_189 rfl ?_
      refine g_lload d5_join_190 rfl ?_
      refine g_lx_ge _ _ 200 (rfl) (rfl) d5_join_192 d5_join_193 rfl (fun _ => ?_) (fun c192 => absurd c192 (by first | (rw [l_lt] at hcc; omega) | (rw [l_eq] at hcc; omega)))
      refine g_lconstv (0) d5_join_200 rfl ?_
      refine g_lstore d5_join_201 (by decide) ?_
      refine g_goto 237 d5_join_203 rfl ?_
      refine g_lo [(0, .ref 22), (6, .long (0))] ⟨rfl, rfl, trivial⟩ ?_
      have hc : ar0 25 a b = 0 := if_neg hcc
      refine r5_22_jt (I := (uI I 22 2 (nI (n - 1)))) (n - 1) uI_ss (by omega) (by omega) _ ?_
      rw [← hc]
      exact ⟨rfl, rfl⟩
    · refine g_iload_n d5_join_54 rfl ?_
      refine g_bipushv (nI 47) d5_join_55 rfl ?_
      refine g_ic_eq (60) (47) 66 (by decide) (by decide) d5_join_57 rfl (fun c57 => absurd c57 (by decide)) (fun _ => ?_)
      refine g_iload_n d5_join_60 rfl ?_
      refine g_bipushv (nI 37) d5_join_61 rfl ?_
      refine g_ic_ne (60) (37) 72 (by decide) (by decide) d5_join_63 rfl (fun _ => ?_) (fun c63 => absurd c63 (by decide))
      refine g_lconstv (0) d5_join_72 rfl ?_
      refine g_lstore d5_join_73 (by decide) ?_
      refine g_iload_n d5_join_75 rfl ?_
      refine g_lookup 189 d5_join_76 (by decide) rfl rfl ?_
      refine g_lload_n d5_join_189 rfl ?_
      refine g_lload d5_join_190 rfl ?_
      refine g_lx_ge _ _ 200 (rfl) (rfl) d5_join_192 d5_join_193 rfl (fun _ => ?_) (fun c192 => absurd c192 (by first | (rw [l_lt] at hcc; omega) | (rw [l_eq] at hcc; omega)))
      refine g_lconstv (0) d5_join_200 rfl ?_
      refine g_lstore d5_join_201 (by decide) ?_
      refine g_goto 237 d5_join_203 rfl ?_
      refine g_lo [(0, .ref 22), (6, .long (0))] ⟨rfl, rfl, trivial⟩ ?_
      have hc : ar0 25 a b = 0 := if_neg hcc
      refine r5_22_jt (I := (uI I 22 2 (nI (n - 1)))) (n - 1) uI_ss (by omega) (by omega) _ ?_
      rw [← hc]
      exact ⟨rfl, rfl⟩
set_option maxHeartbeats 400000 in
theorem r5_22_j26 {l : Launch} {K : cK} {d : Nat} {I : wI} {L : wL} {R : wR} {dy : cH} (n : Nat) (hn : I 22 2 = nI n) (h2 : 2 ≤ n) (h64 : n ≤ 64) (a b : Int64) (ha : L 24 (n - 1 - 1) = a) (hb : L 24 (n - 1) = b) (hd : 0 ≤ d) : CV l K m5_join d [.ref 22, .int (nI 62)] (hp I L R dy) (hp (uI (uI I 22 2 (nI (n - 1))) 22 3 (if -1000000000 ≤ (ar0 26 a b).toInt ∧ (ar0 26 a b).toInt ≤ 1000000000 then 0 else 1)) (uL L 24 (n - 1 - 1) (ar0 26 a b)) R dy) := by
  refine CC.of ok5_join (Nat.le_of_ble_eq_true rfl) ?_
  by_cases hcc : b < a
  · skip
    refine g_aload_n d5_join_0 rfl ?_
    refine g_get fl5_56 d5_join_1 f_22_2 ?_
    refine g_topI (nI (n)) (hn) ?_
    refine g_iconstv (nI 2) d5_join_4 rfl ?_
    refine g_ic_ge ((n : Nat) : Int) (2) 14 (nI_ti (by omega)) (by decide) d5_join_5 rfl (fun _ => ?_) (fun c5 => absurd c5 (by omega))
    refine g_aload_n d5_join_14 rfl ?_
    refine g_dup d5_join_15 rfl ?_
    refine g_get fl5_56 d5_join_16 f_22_2 ?_
    refine g_topI (nI (n)) (hn) ?_
    refine g_iconstv (nI 1) d5_join_19 rfl ?_
    refine g_isubN (by omega) d5_join_20 ?_
    refine g_putIh _ fl5_56 d5_join_21 f_22_2 s_22_2 ?_
    refine g_aload_n d5_join_24 rfl ?_
    refine g_get fl5_13 d5_join_25 f_22_1 ?_
    refine g_aload_n d5_join_28 rfl ?_
    refine g_get fl5_56 d5_join_29 f_22_2 ?_
    refine g_topI (nI ((n - 1))) (uI_ss) ?_
    refine g_iconstv (nI 1) d5_join_32 rfl ?_
    refine g_isubN (by omega) d5_join_33 ?_
    refine g_laldN (((n - 1) - 1)) d5_join_34 a_24 (rfl) (by omega) (by decide) ?_
    refine g_topL (a) (ha) ?_
    refine g_lstore_n d5_join_35 (by decide) ?_
    refine g_aload_n d5_join_36 rfl ?_
    refine g_get fl5_13 d5_join_37 f_22_1 ?_
    refine g_aload_n d5_join_40 rfl ?_
    refine g_get fl5_56 d5_join_41 f_22_2 ?_
    refine g_topI (nI ((n - 1))) (uI_ss) ?_
    refine g_laldN ((n - 1)) d5_join_44 a_24 (rfl) (by omega) (by decide) ?_
    refine g_topL (b) (hb) ?_
    refine g_lstore d5_join_45 (by decide) ?_
    refine g_lload d5_join_47 rfl ?_
    refine g_lconstv (0) d5_join_49 rfl ?_
    refine g_lx_ne _ (0) 72 (rfl) (by decide) d5_join_50 d5_join_51 rfl (fun c50 => ?_) (fun c50 => ?_)
    · refine g_lconstv (0) d5_join_72 rfl ?_
      refine g_lstore d5_join_73 (by decide) ?_
      refine g_iload_n d5_join_75 rfl ?_
      refine g_lookup 206 d5_join_76 (by decide) rfl rfl ?_
      refine g_lload_n d5_join_206 rfl ?_
      refine g_lload d5_join_207 rfl ?_
      refine g_lx_le _ _ 217 (rfl) (rfl) d5_join_209 d5_join_210 rfl (fun c209 => absurd c209 (by first | (rw [l_lt] at hcc; omega) | (rw [l_eq] at hcc; omega))) (fun _ => ?_)
      refine g_lconstv (1) d5_join_213 rfl ?_
      refine g_goto 218 d5_join_214 rfl ?_
      refine g_lstore d5_join_218 (by decide) ?_
      refine g_goto 237 d5_join_220 rfl ?_
      refine g_lo [(0, .ref 22), (6, .long (1))] ⟨rfl, rfl, trivial⟩ ?_
      have hc : ar0 26 a b = 1 := if_pos hcc
      refine r5_22_jt (I := (uI I 22 2 (nI (n - 1)))) (n - 1) uI_ss (by omega) (by omega) _ ?_
      rw [← hc]
      exact ⟨rfl, rfl⟩
    · refine g_iload_n d5_join_54 rfl ?_
      refine g_bipushv (nI 47) d5_join_55 rfl ?_
      refine g_ic_eq (62) (47) 66 (by decide) (by decide) d5_join_57 rfl (fun c57 => absurd c57 (by decide)) (fun _ => ?_)
      refine g_iload_n d5_join_60 rfl ?_
      refine g_bipushv (nI 37) d5_join_61 rfl ?_
      refine g_ic_ne (62) (37) 72 (by decide) (by decide) d5_join_63 rfl (fun _ => ?_) (fun c63 => absurd c63 (by decide))
      refine g_lconstv (0) d5_join_72 rfl ?_
      refine g_lstore d5_join_73 (by decide) ?_
      refine g_iload_n d5_join_75 rfl ?_
      refine g_lookup 206 d5_join_76 (by decide) rfl rfl ?_
      refine g_lload_n d5_join_206 rfl ?_
      refine g_lload d5_join_207 rfl ?_
      refine g_lx_le _ _ 217 (rfl) (rfl) d5_join_209 d5_join_210 rfl (fun c209 => absurd c209 (by first | (rw [l_lt] at hcc; omega) | (rw [l_eq] at hcc; omega))) (fun _ => ?_)
      refine g_lconstv (1) d5_join_213 rfl ?_
      refine g_goto 218 d5_join_214 rfl ?_
      refine g_lstore d5_join_218 (by decide) ?_
      refine g_goto 237 d5_join_220 rfl ?_
      refine g_lo [(0, .ref 22), (6, .long (1))] ⟨rfl, rfl, trivial⟩ ?_
      have hc : ar0 26 a b = 1 := if_pos hcc
      refine r5_22_jt (I := (uI I 22 2 (nI (n - 1)))) (n - 1) uI_ss (by omega) (by omega) _ ?_
      rw [← hc]
      exact ⟨rfl, rfl⟩
  · skip
    refine g_aload_n d5_join_0 rfl ?_
    refine g_get fl5_56 d5_join_1 f_22_2 ?_
    refine g_topI (nI (n)) (hn) ?_
    refine g_iconstv (nI 2) d5_join_4 rfl ?_
    refine g_ic_ge ((n : Nat) : Int) (2) 14 (nI_ti (by omega)) (by decide) d5_join_5 rfl (fun _ => ?_) (fun c5 => absurd c5 (by omega))
    refine g_aload_n d5_join_14 rfl ?_
    refine g_dup d5_join_15 rfl ?_
    refine g_get fl5_56 d5_join_16 f_22_2 ?_
    refine g_topI (nI (n)) (hn) ?_
    refine g_iconstv (nI 1) d5_join_19 rfl ?_
    refine g_isubN (by omega) d5_join_20 ?_
    refine g_putIh _ fl5_56 d5_join_21 f_22_2 s_22_2 ?_
    refine g_aload_n d5_join_24 rfl ?_
    refine g_get fl5_13 d5_join_25 f_22_1 ?_
    refine g_aload_n d5_join_28 rfl ?_
    refine g_get fl5_56 d5_join_29 f_22_2 ?_
    refine g_topI (nI ((n - 1))) (uI_ss) ?_
    refine g_iconstv (nI 1) d5_join_32 rfl ?_
    refine g_isubN (by omega) d5_join_33 ?_
    refine g_laldN (((n - 1) - 1)) d5_join_34 a_24 (rfl) (by omega) (by decide) ?_
    refine g_topL (a) (ha) ?_
    refine g_lstore_n d5_join_35 (by decide) ?_
    refine g_aload_n d5_join_36 rfl ?_
    refine g_get fl5_13 d5_join_37 f_22_1 ?_
    refine g_aload_n d5_join_40 rfl ?_
    refine g_get fl5_56 d5_join_41 f_22_2 ?_
    refine g_topI (nI ((n - 1))) (uI_ss) ?_
    refine g_laldN ((n - 1)) d5_join_44 a_24 (rfl) (by omega) (by decide) ?_
    refine g_topL (b) (hb) ?_
    refine g_lstore d5_join_45 (by decide) ?_
    refine g_lload d5_join_47 rfl ?_
    refine g_lconstv (0) d5_join_49 rfl ?_
    refine g_lx_ne _ (0) 72 (rfl) (by decide) d5_join_50 d5_join_51 rfl (fun c50 => ?_) (fun c50 => ?_)
    · refine g_lconstv (0) d5_join_72 rfl ?_
      refine g_lstore d5_join_73 (by decide) ?_
      refine g_iload_n d5_join_75 rfl ?_
      refine g_lookup 206 d5_join_76 (by decide) rfl rfl ?_
      refine g_lload_n d5_join_206 rfl ?_
      refine g_lload d5_join_207 rfl ?_
      refine g_lx_le _ _ 217 (rfl) (rfl) d5_join_209 d5_join_210 rfl (fun _ => ?_) (fun c209 => absurd c209 (by first | (rw [l_lt] at hcc; omega) | (rw [l_eq] at hcc; omega)))
      refine g_lconstv (0) d5_join_217 rfl ?_
      refine g_lstore d5_join_218 (by decide) ?_
      refine g_goto 237 d5_join_220 rfl ?_
      refine g_lo [(0, .ref 22), (6, .long (0))] ⟨rfl, rfl, trivial⟩ ?_
      have hc : ar0 26 a b = 0 := if_neg hcc
      refine r5_22_jt (I := (uI I 22 2 (nI (n - 1)))) (n - 1) uI_ss (by omega) (by omega) _ ?_
      rw [← hc]
      exact ⟨rfl, rfl⟩
    · refine g_iload_n d5_join_54 rfl ?_
      refine g_bipushv (nI 47) d5_join_55 rfl ?_
      refine g_ic_eq (62) (47) 66 (by decide) (by decide) d5_join_57 rfl (fun c57 => absurd c57 (by decide)) (fun _ => ?_)
      refine g_iload_n d5_join_60 rfl ?_
      refine g_bipushv (nI 37) d5_join_61 rfl ?_
      refine g_ic_ne (62) (37) 72 (by decide) (by decide) d5_join_63 rfl (fun _ => ?_) (fun c63 => absurd c63 (by decide))
      refine g_lconstv (0) d5_join_72 rfl ?_
      refine g_lstore d5_join_73 (by decide) ?_
      refine g_iload_n d5_join_75 rfl ?_
      refine g_lookup 206 d5_join_76 (by decide) rfl rfl ?_
      refine g_lload_n d5_join_206 rfl ?_
      refine g_lload d5_join_207 rfl ?_
      refine g_lx_le _ _ 217 (rfl) (rfl) d5_join_209 d5_join_210 rfl (fun _ => ?_) (fun c209 => absurd c209 (by first | (rw [l_lt] at hcc; omega) | (rw [l_eq] at hcc; omega)))
      refine g_lconstv (0) d5_join_217 rfl ?_
      refine g_lstore d5_join_218 (by decide) ?_
      refine g_goto 237 d5_join_220 rfl ?_
      refine g_lo [(0, .ref 22), (6, .long (0))] ⟨rfl, rfl, trivial⟩ ?_
      have hc : ar0 26 a b = 0 := if_neg hcc
      refine r5_22_jt (I := (uI I 22 2 (nI (n - 1)))) (n - 1) uI_ss (by omega) (by omega) _ ?_
      rw [← hc]
      exact ⟨rfl, rfl⟩
set_option maxHeartbeats 400000 in
theorem r5_22_j27 {l : Launch} {K : cK} {d : Nat} {I : wI} {L : wL} {R : wR} {dy : cH} (n : Nat) (hn : I 22 2 = nI n) (h2 : 2 ≤ n) (h64 : n ≤ 64) (a b : Int64) (ha : L 24 (n - 1 - 1) = a) (hb : L 24 (n - 1) = b) (hd : 0 ≤ d) : CV l K m5_join d [.ref 22, .int (nI 61)] (hp I L R dy) (hp (uI (uI I 22 2 (nI (n - 1))) 22 3 (if -1000000000 ≤ (ar0 27 a b).toInt ∧ (ar0 27 a b).toInt ≤ 1000000000 then 0 else 1)) (uL L 24 (n - 1 - 1) (ar0 27 a b)) R dy) := by
  refine CC.of ok5_join (Nat.le_of_ble_eq_true rfl) ?_
  by_cases hcc : a = b
  · skip
    refine g_aload_n d5_join_0 rfl ?_
    refine g_get fl5_56 d5_join_1 f_22_2 ?_
    refine g_topI (nI (n)) (hn) ?_
    refine g_iconstv (nI 2) d5_join_4 rfl ?_
    refine g_ic_ge ((n : Nat) : Int) (2) 14 (nI_ti (by omega)) (by decide) d5_join_5 rfl (fun _ => ?_) (fun c5 => absurd c5 (by omega))
    refine g_aload_n d5_join_14 rfl ?_
    refine g_dup d5_join_15 rfl ?_
    refine g_get fl5_56 d5_join_16 f_22_2 ?_
    refine g_topI (nI (n)) (hn) ?_
    refine g_iconstv (nI 1) d5_join_19 rfl ?_
    refine g_isubN (by omega) d5_join_20 ?_
    refine g_putIh _ fl5_56 d5_join_21 f_22_2 s_22_2 ?_
    refine g_aload_n d5_join_24 rfl ?_
    refine g_get fl5_13 d5_join_25 f_22_1 ?_
    refine g_aload_n d5_join_28 rfl ?_
    refine g_get fl5_56 d5_join_29 f_22_2 ?_
    refine g_topI (nI ((n - 1))) (uI_ss) ?_
    refine g_iconstv (nI 1) d5_join_32 rfl ?_
    refine g_isubN (by omega) d5_join_33 ?_
    refine g_laldN (((n - 1) - 1)) d5_join_34 a_24 (rfl) (by omega) (by decide) ?_
    refine g_topL (a) (ha) ?_
    refine g_lstore_n d5_join_35 (by decide) ?_
    refine g_aload_n d5_join_36 rfl ?_
    refine g_get fl5_13 d5_join_37 f_22_1 ?_
    refine g_aload_n d5_join_40 rfl ?_
    refine g_get fl5_56 d5_join_41 f_22_2 ?_
    refine g_topI (nI ((n - 1))) (uI_ss) ?_
    refine g_laldN ((n - 1)) d5_join_44 a_24 (rfl) (by omega) (by decide) ?_
    refine g_topL (b) (hb) ?_
    refine g_lstore d5_join_45 (by decide) ?_
    refine g_lload d5_join_47 rfl ?_
    refine g_lconstv (0) d5_join_49 rfl ?_
    refine g_lx_ne _ (0) 72 (rfl) (by decide) d5_join_50 d5_join_51 rfl (fun c50 => ?_) (fun c50 => ?_)
    · refine g_lconstv (0) d5_join_72 rfl ?_
      refine g_lstore d5_join_73 (by decide) ?_
      refine g_iload_n d5_join_75 rfl ?_
      refine g_lookup 223 d5_join_76 (by decide) rfl rfl ?_
      refine g_lload_n d5_join_223 rfl ?_
      refine g_lload d5_join_224 rfl ?_
      refine g_lx_ne _ _ 234 (rfl) (rfl) d5_join_226 d5_join_227 rfl (fun c226 => absurd c226 (by first | (rw [l_lt] at hcc; omega) | (rw [l_eq] at hcc; omega))) (fun _ => ?_)
      refine g_lconstv (1) d5_join_230 rfl ?_
      refine g_goto 235 d5_join_231 rfl ?_
      refine g_lstore d5_join_235 (by decide) ?_
      refine g_lo [(0, .ref 22), (6, .long (1))] ⟨rfl, rfl, trivial⟩ ?_
      have hc : ar0 27 a b = 1 := if_pos hcc
      refine r5_22_jt (I := (uI I 22 2 (nI (n - 1)))) (n - 1) uI_ss (by omega) (by omega) _ ?_
      rw [← hc]
      exact ⟨rfl, rfl⟩
    · refine g_iload_n d5_join_54 rfl ?_
      refine g_bipushv (nI 47) d5_join_55 rfl ?_
      refine g_ic_eq (61) (47) 66 (by decide) (by decide) d5_join_57 rfl (fun c57 => absurd c57 (by decide)) (fun _ => ?_)
      refine g_iload_n d5_join_60 rfl ?_
      refine g_bipushv (nI 37) d5_join_61 rfl ?_
      refine g_ic_ne (61) (37) 72 (by decide) (by decide) d5_join_63 rfl (fun _ => ?_) (fun c63 => absurd c63 (by decide))
      refine g_lconstv (0) d5_join_72 rfl ?_
      refine g_lstore d5_join_73 (by decide) ?_
      refine g_iload_n d5_join_75 rfl ?_
      refine g_lookup 223 d5_join_76 (by decide) rfl rfl ?_
      refine g_lload_n d5_join_223 rfl ?_
      refine g_lload d5_join_224 rfl ?_
      refine g_lx_ne _ _ 234 (rfl) (rfl) d5_join_226 d5_join_227 rfl (fun c226 => absurd c226 (by first | (rw [l_lt] at hcc; omega) | (rw [l_eq] at hcc; omega))) (fun _ => ?_)
      refine g_lconstv (1) d5_join_230 rfl ?_
      refine g_goto 235 d5_join_231 rfl ?_
      refine g_lstore d5_join_235 (by decide) ?_
      refine g_lo [(0, .ref 22), (6, .long (1))] ⟨rfl, rfl, trivial⟩ ?_
      have hc : ar0 27 a b = 1 := if_pos hcc
      refine r5_22_jt (I := (uI I 22 2 (nI (n - 1)))) (n - 1) uI_ss (by omega) (by omega) _ ?_
      rw [← hc]
      exact ⟨rfl, rfl⟩
  · skip
    refine g_aload_n d5_join_0 rfl ?_
    refine g_get fl5_56 d5_join_1 f_22_2 ?_
    refine g_topI (nI (n)) (hn) ?_
    refine g_iconstv (nI 2) d5_join_4 rfl ?_
    refine g_ic_ge ((n : Nat) : Int) (2) 14 (nI_ti (by omega)) (by decide) d5_join_5 rfl (fun _ => ?_) (fun c5 => absurd c5 (by omega))
    refine g_aload_n d5_join_14 rfl ?_
    refine g_dup d5_join_15 rfl ?_
    refine g_get fl5_56 d5_join_16 f_22_2 ?_
    refine g_topI (nI (n)) (hn) ?_
    refine g_iconstv (nI 1) d5_join_19 rfl ?_
    refine g_isubN (by omega) d5_join_20 ?_
    refine g_putIh _ fl5_56 d5_join_21 f_22_2 s_22_2 ?_
    refine g_aload_n d5_join_24 rfl ?_
    refine g_get fl5_13 d5_join_25 f_22_1 ?_
    refine g_aload_n d5_join_28 rfl ?_
    refine g_get fl5_56 d5_join_29 f_22_2 ?_
    refine g_topI (nI ((n - 1))) (uI_ss) ?_
    refine g_iconstv (nI 1) d5_join_32 rfl ?_
    refine g_isubN (by omega) d5_join_33 ?_
    refine g_laldN (((n - 1) - 1)) d5_join_34 a_24 (rfl) (by omega) (by decide) ?_
    refine g_topL (a) (ha) ?_
    refine g_lstore_n d5_join_35 (by decide) ?_
    refine g_aload_n d5_join_36 rfl ?_
    refine g_get fl5_13 d5_join_37 f_22_1 ?_
    refine g_aload_n d5_join_40 rfl ?_
    refine g_get fl5_56 d5_join_41 f_22_2 ?_
    refine g_topI (nI ((n - 1))) (uI_ss) ?_
    refine g_laldN ((n - 1)) d5_join_44 a_24 (rfl) (by omega) (by decide) ?_
    refine g_topL (b) (hb) ?_
    refine g_lstore d5_join_45 (by decide) ?_
    refine g_lload d5_join_47 rfl ?_
    refine g_lconstv (0) d5_join_49 rfl ?_
    refine g_lx_ne _ (0) 72 (rfl) (by decide) d5_join_50 d5_join_51 rfl (fun c50 => ?_) (fun c50 => ?_)
    · refine g_lconstv (0) d5_join_72 rfl ?_
      refine g_lstore d5_join_73 (by decide) ?_
      refine g_iload_n d5_join_75 rfl ?_
      refine g_lookup 223 d5_join_76 (by decide) rfl rfl ?_
      refine g_lload_n d5_join_223 rfl ?_
      refine g_lload d5_join_224 rfl ?_
      refine g_lx_ne _ _ 234 (rfl) (rfl) d5_join_226 d5_join_227 rfl (fun _ => ?_) (fun c226 => absurd c226 (by first | (rw [l_lt] at hcc; omega) | (rw [l_eq] at hcc; omega)))
      refine g_lconstv (0) d5_join_234 rfl ?_
      refine g_lstore d5_join_235 (by decide) ?_
      refine g_lo [(0, .ref 22), (6, .long (0))] ⟨rfl, rfl, trivial⟩ ?_
      have hc : ar0 27 a b = 0 := if_neg hcc
      refine r5_22_jt (I := (uI I 22 2 (nI (n - 1)))) (n - 1) uI_ss (by omega) (by omega) _ ?_
      rw [← hc]
      exact ⟨rfl, rfl⟩
    · refine g_iload_n d5_join_54 rfl ?_
      refine g_bipushv (nI 47) d5_join_55 rfl ?_
      refine g_ic_eq (61) (47) 66 (by decide) (by decide) d5_join_57 rfl (fun c57 => absurd c57 (by decide)) (fun _ => ?_)
      refine g_iload_n d5_join_60 rfl ?_
      refine g_bipushv (nI 37) d5_join_61 rfl ?_
      refine g_ic_ne (61) (37) 72 (by decide) (by decide) d5_join_63 rfl (fun _ => ?_) (fun c63 => absurd c63 (by decide))
      refine g_lconstv (0) d5_join_72 rfl ?_
      refine g_lstore d5_join_73 (by decide) ?_
      refine g_iload_n d5_join_75 rfl ?_
      refine g_lookup 223 d5_join_76 (by decide) rfl rfl ?_
      refine g_lload_n d5_join_223 rfl ?_
      refine g_lload d5_join_224 rfl ?_
      refine g_lx_ne _ _ 234 (rfl) (rfl) d5_join_226 d5_join_227 rfl (fun _ => ?_) (fun c226 => absurd c226 (by first | (rw [l_lt] at hcc; omega) | (rw [l_eq] at hcc; omega)))
      refine g_lconstv (0) d5_join_234 rfl ?_
      refine g_lstore d5_join_235 (by decide) ?_
      refine g_lo [(0, .ref 22), (6, .long (0))] ⟨rfl, rfl, trivial⟩ ?_
      have hc : ar0 27 a b = 0 := if_neg hcc
      refine r5_22_jt (I := (uI I 22 2 (nI (n - 1)))) (n - 1) uI_ss (by omega) (by omega) _ ?_
      rw [← hc]
      exact ⟨rfl, rfl⟩
set_option maxHeartbeats 200000 in
theorem r5_30_push0 {l : Launch} {K : cK} {d : Nat} {I : wI} {L : wL} {R : wR} {dy : cH} (n w : Nat) (hn : I 30 2 = nI n) (h64 : n < 64) (hw : w < 2147483648) (hd : 0 ≤ d) : CV l K m5_push d [.ref 30, .int (nI 0), .int (nI w)] (hp I L R dy) (hp (uI I 30 2 (nI (n + 1))) (uL L 32 n (lN w)) R dy) := by
  refine CC.of ok5_push (Nat.le_of_ble_eq_true rfl) ?_
  refine g_iload_n d5_push_0 rfl ?_
  refine g_iconstv (nI 1) d5_push_1 rfl ?_
  refine g_ic_ne (0) (1) 9 (by decide) (by decide) d5_push_2 rfl (fun _ => ?_) (fun c2 => absurd c2 (by decide))
  refine g_iconstv (nI 0) d5_push_9 rfl ?_
  refine g_istore_n d5_push_10 (by decide) ?_
  refine g_aload_n d5_push_11 rfl ?_
  refine g_get fl5_56 d5_push_12 f_30_2 ?_
  refine g_topI (nI (n)) (hn) ?_
  refine g_bipushv (nI 64) d5_push_15 rfl ?_
  refine g_ic_ge ((n : Nat) : Int) (64) 34 (nI_ti (by omega)) (by decide) d5_push_17 rfl (fun c17 => absurd c17 (by omega)) (fun _ => ?_)
  refine g_iload_n d5_push_20 rfl ?_
  refine g_iz_eq (0) 40 (by decide) d5_push_21 rfl (fun _ => ?_) (fun c21 => absurd c21 (by decide))
  refine g_aload_n d5_push_40 rfl ?_
  refine g_get fl5_13 d5_push_41 f_30_1 ?_
  refine g_aload_n d5_push_44 rfl ?_
  refine g_get fl5_56 d5_push_45 f_30_2 ?_
  refine g_topI (nI (n)) (hn) ?_
  refine g_iload_n d5_push_48 rfl ?_
  refine g_iz_eq (0) 62 (by decide) d5_push_49 rfl (fun _ => ?_) (fun c49 => absurd c49 (by decide))
  refine g_iload_n d5_push_62 rfl ?_
  refine g_i2lN (by omega) d5_push_63 ?_
  refine g_lastN (n) _ d5_push_64 a_32 (rfl) (by omega) (by decide) t_32 ?_
  refine g_aload_n d5_push_65 rfl ?_
  refine g_dup d5_push_66 rfl ?_
  refine g_get fl5_56 d5_push_67 f_30_2 ?_
  refine g_topI (nI (n)) (hn) ?_
  refine g_iconstv (nI 1) d5_push_70 rfl ?_
  refine g_iaddN d5_push_71 ?_
  refine g_putIh _ fl5_56 d5_push_72 f_30_2 s_30_2 ?_
  exact g_vret rfl d5_push_75 (⟨rfl, rfl⟩)
set_option maxHeartbeats 200000 in
theorem r5_30_push1 {l : Launch} {K : cK} {d : Nat} {I : wI} {L : wL} {R : wR} {dy : cH} (n w : Nat) (hn : I 30 2 = nI n) (h64 : n < 64) (hw : w < 7) (hd : 0 ≤ d) : CV l K m5_push d [.ref 30, .int (nI 1), .int (nI w)] (hp I L R dy) (hp (uI I 30 2 (nI (n + 1))) (uL L 32 n (I 31 w).toInt64) R dy) := by
  refine CC.of ok5_push (Nat.le_of_ble_eq_true rfl) ?_
  refine g_iload_n d5_push_0 rfl ?_
  refine g_iconstv (nI 1) d5_push_1 rfl ?_
  refine g_ic_ne (1) (1) 9 (by decide) (by decide) d5_push_2 rfl (fun c2 => absurd c2 (by decide)) (fun _ => ?_)
  refine g_iconstv (nI 1) d5_push_5 rfl ?_
  refine g_goto 10 d5_push_6 rfl ?_
  refine g_istore_n d5_push_10 (by decide) ?_
  refine g_aload_n d5_push_11 rfl ?_
  refine g_get fl5_56 d5_push_12 f_30_2 ?_
  refine g_topI (nI (n)) (hn) ?_
  refine g_bipushv (nI 64) d5_push_15 rfl ?_
  refine g_ic_ge ((n : Nat) : Int) (64) 34 (nI_ti (by omega)) (by decide) d5_push_17 rfl (fun c17 => absurd c17 (by omega)) (fun _ => ?_)
  refine g_iload_n d5_push_20 rfl ?_
  refine g_iz_eq (1) 40 (by decide) d5_push_21 rfl (fun c21 => absurd c21 (by decide)) (fun _ => ?_)
  refine g_iload_n d5_push_24 rfl ?_
  refine g_iz_lt ((w : Nat) : Int) 34 (nI_ti (by omega)) d5_push_25 rfl (fun c25 => absurd c25 (by omega)) (fun _ => ?_)
  refine g_iload_n d5_push_28 rfl ?_
  refine g_bipushv (nI 7) d5_push_29 rfl ?_
  refine g_ic_lt ((w : Nat) : Int) (7) 40 (nI_ti (by omega)) (by decide) d5_push_31 rfl (fun _ => ?_) (fun c31 => absurd c31 (by omega))
  refine g_aload_n d5_push_40 rfl ?_
  refine g_get fl5_13 d5_push_41 f_30_1 ?_
  refine g_aload_n d5_push_44 rfl ?_
  refine g_get fl5_56 d5_push_45 f_30_2 ?_
  refine g_topI (nI (n)) (hn) ?_
  refine g_iload_n d5_push_48 rfl ?_
  refine g_iz_eq (1) 62 (by decide) d5_push_49 rfl (fun c49 => absurd c49 (by decide)) (fun _ => ?_)
  refine g_aload_n d5_push_52 rfl ?_
  refine g_get fl5_9 d5_push_53 f_30_0 ?_
  refine g_iload_n d5_push_56 rfl ?_
  refine g_ialdN (w) d5_push_57 a_31 (rfl) (by omega) (by decide) ?_
  refine g_i2l d5_push_58 ?_
  refine g_goto 64 d5_push_59 rfl ?_
  refine g_lastN (n) _ d5_push_64 a_32 (rfl) (by omega) (by decide) t_32 ?_
  refine g_aload_n d5_push_65 rfl ?_
  refine g_dup d5_push_66 rfl ?_
  refine g_get fl5_56 d5_push_67 f_30_2 ?_
  refine g_topI (nI (n)) (hn) ?_
  refine g_iconstv (nI 1) d5_push_70 rfl ?_
  refine g_iaddN d5_push_71 ?_
  refine g_putIh _ fl5_56 d5_push_72 f_30_2 s_30_2 ?_
  exact g_vret rfl d5_push_75 (⟨rfl, rfl⟩)
set_option maxHeartbeats 400000 in
theorem r5_30_jt {l : Launch} {K : cK} {d : Nat} {I : wI} {L : wL} {R : wR} {dy : cH} {Q : Option Value → cH → Prop} (m : Nat) (hm : I 30 2 = nI m) (h1 : 1 ≤ m) (h64 : m < 64) (c : Int64) (kk : Q none (hp (uI I 30 3 (if -1000000000 ≤ c.toInt ∧ c.toInt ≤ 1000000000 then 0 else 1)) (uL L 32 (m - 1) c) R dy)) : GL l K m5_join d 0 0 237 [(0, .ref 30), (6, .long c)] [] (hp I L R dy) Q := by
  by_cases hc : -1000000000 ≤ c.toInt ∧ c.toInt ≤ 1000000000
  · rw [if_pos hc] at kk
    refine g_aload_n d5_join_237 rfl ?_
    refine g_lload d5_join_238 rfl ?_
    refine g_ldc2 d5_join_240 kl5_73 ?_
    refine g_lx_gt c.toInt (1000000000) 256 (rfl) (by decide) d5_join_243 d5_join_244 rfl (fun c243 => absurd c243 (by omega)) (fun _ => ?_)
    refine g_lload d5_join_247 rfl ?_
    refine g_ldc2 d5_join_249 kl5_75 ?_
    refine g_lx_ge c.toInt (-1000000000) 260 (rfl) (by decide) d5_join_252 d5_join_253 rfl (fun _ => ?_) (fun c252 => absurd c252 (by omega))
    refine g_iconstv (nI 0) d5_join_260 rfl ?_
    refine g_putZh _ fl5_36 d5_join_261 f_30_3 (by decide) s_30_3 ?_
    refine g_aload_n d5_join_264 rfl ?_
    refine g_get fl5_13 d5_join_265 f_30_1 ?_
    refine g_aload_n d5_join_268 rfl ?_
    refine g_get fl5_56 d5_join_269 f_30_2 ?_
    refine g_topI (nI (m)) (hm) ?_
    refine g_iconstv (nI 1) d5_join_272 rfl ?_
    refine g_isubN (h1) d5_join_273 ?_
    refine g_lload d5_join_274 rfl ?_
    refine g_lastN ((m - 1)) _ d5_join_276 a_32 (rfl) (by omega) (by decide) t_32 ?_
    exact g_vret rfl d5_join_277 (kk)
  · rw [if_neg hc] at kk
    by_cases hc2 : 1000000000 < c.toInt
    · skip
      refine g_aload_n d5_join_237 rfl ?_
      refine g_lload d5_join_238 rfl ?_
      refine g_ldc2 d5_join_240 kl5_73 ?_
      refine g_lx_gt c.toInt (1000000000) 256 (rfl) (by decide) d5_join_243 d5_join_244 rfl (fun _ => ?_) (fun c243 => absurd c243 (by omega))
      refine g_iconstv (nI 1) d5_join_256 rfl ?_
      refine g_goto 261 d5_join_257 rfl ?_
      refine g_putZh _ fl5_36 d5_join_261 f_30_3 (by decide) s_30_3 ?_
      refine g_aload_n d5_join_264 rfl ?_
      refine g_get fl5_13 d5_join_265 f_30_1 ?_
      refine g_aload_n d5_join_268 rfl ?_
      refine g_get fl5_56 d5_join_269 f_30_2 ?_
      refine g_topI (nI (m)) (hm) ?_
      refine g_iconstv (nI 1) d5_join_272 rfl ?_
      refine g_isubN (h1) d5_join_273 ?_
      refine g_lload d5_join_274 rfl ?_
      refine g_lastN ((m - 1)) _ d5_join_276 a_32 (rfl) (by omega) (by decide) t_32 ?_
      exact g_vret rfl d5_join_277 (kk)
    · skip
      refine g_aload_n d5_join_237 rfl ?_
      refine g_lload d5_join_238 rfl ?_
      refine g_ldc2 d5_join_240 kl5_73 ?_
      refine g_lx_gt c.toInt (1000000000) 256 (rfl) (by decide) d5_join_243 d5_join_244 rfl (fun c243 => absurd c243 (by omega)) (fun _ => ?_)
      refine g_lload d5_join_247 rfl ?_
      refine g_ldc2 d5_join_249 kl5_75 ?_
      refine g_lx_ge c.toInt (-1000000000) 260 (rfl) (by decide) d5_join_252 d5_join_253 rfl (fun c252 => absurd c252 (by omega)) (fun _ => ?_)
      refine g_iconstv (nI 1) d5_join_256 rfl ?_
      refine g_goto 261 d5_join_257 rfl ?_
      refine g_putZh _ fl5_36 d5_join_261 f_30_3 (by decide) s_30_3 ?_
      refine g_aload_n d5_join_264 rfl ?_
      refine g_get fl5_13 d5_join_265 f_30_1 ?_
      refine g_aload_n d5_join_268 rfl ?_
      refine g_get fl5_56 d5_join_269 f_30_2 ?_
      refine g_topI (nI (m)) (hm) ?_
      refine g_iconstv (nI 1) d5_join_272 rfl ?_
      refine g_isubN (h1) d5_join_273 ?_
      refine g_lload d5_join_274 rfl ?_
      refine g_lastN ((m - 1)) _ d5_join_276 a_32 (rfl) (by omega) (by decide) t_32 ?_
      exact g_vret rfl d5_join_277 (kk)
set_option maxHeartbeats 400000 in
theorem r5_30_j20 {l : Launch} {K : cK} {d : Nat} {I : wI} {L : wL} {R : wR} {dy : cH} (n : Nat) (hn : I 30 2 = nI n) (h2 : 2 ≤ n) (h64 : n ≤ 64) (a b : Int64) (ha : L 32 (n - 1 - 1) = a) (hb : L 32 (n - 1) = b) (hd : 0 ≤ d) : CV l K m5_join d [.ref 30, .int (nI 43)] (hp I L R dy) (hp (uI (uI I 30 2 (nI (n - 1))) 30 3 (if -1000000000 ≤ (ar0 20 a b).toInt ∧ (ar0 20 a b).toInt ≤ 1000000000 then 0 else 1)) (uL L 32 (n - 1 - 1) (ar0 20 a b)) R dy) := by
  refine CC.of ok5_join (Nat.le_of_ble_eq_true rfl) ?_
  refine g_aload_n d5_join_0 rfl ?_
  refine g_get fl5_56 d5_join_1 f_30_2 ?_
  refine g_topI (nI (n)) (hn) ?_
  refine g_iconstv (nI 2) d5_join_4 rfl ?_
  refine g_ic_ge ((n : Nat) : Int) (2) 14 (nI_ti (by omega)) (by decide) d5_join_5 rfl (fun _ => ?_) (fun c5 => absurd c5 (by omega))
  refine g_aload_n d5_join_14 rfl ?_
  refine g_dup d5_join_15 rfl ?_
  refine g_get fl5_56 d5_join_16 f_30_2 ?_
  refine g_topI (nI (n)) (hn) ?_
  refine g_iconstv (nI 1) d5_join_19 rfl ?_
  refine g_isubN (by omega) d5_join_20 ?_
  refine g_putIh _ fl5_56 d5_join_21 f_30_2 s_30_2 ?_
  refine g_aload_n d5_join_24 rfl ?_
  refine g_get fl5_13 d5_join_25 f_30_1 ?_
  refine g_aload_n d5_join_28 rfl ?_
  refine g_get fl5_56 d5_join_29 f_30_2 ?_
  refine g_topI (nI ((n - 1))) (uI_ss) ?_
  refine g_iconstv (nI 1) d5_join_32 rfl ?_
  refine g_isubN (by omega) d5_join_33 ?_
  refine g_laldN (((n - 1) - 1)) d5_join_34 a_32 (rfl) (by omega) (by decide) ?_
  refine g_topL (a) (ha) ?_
  refine g_lstore_n d5_join_35 (by decide) ?_
  refine g_aload_n d5_join_36 rfl ?_
  refine g_get fl5_13 d5_join_37 f_30_1 ?_
  refine g_aload_n d5_join_40 rfl ?_
  refine g_get fl5_56 d5_join_41 f_30_2 ?_
  refine g_topI (nI ((n - 1))) (uI_ss) ?_
  refine g_laldN ((n - 1)) d5_join_44 a_32 (rfl) (by omega) (by decide) ?_
  refine g_topL (b) (hb) ?_
  refine g_lstore d5_join_45 (by decide) ?_
  refine g_lload d5_join_47 rfl ?_
  refine g_lconstv (0) d5_join_49 rfl ?_
  refine g_lx_ne _ (0) 72 (rfl) (by decide) d5_join_50 d5_join_51 rfl (fun c50 => ?_) (fun c50 => ?_)
  · refine g_lconstv (0) d5_join_72 rfl ?_
    refine g_lstore d5_join_73 (by decide) ?_
    refine g_iload_n d5_join_75 rfl ?_
    refine g_lookup 144 d5_join_76 (by decide) rfl rfl ?_
    refine g_lload_n d5_join_144 rfl ?_
    refine g_lload d5_join_145 rfl ?_
    refine g_ladd d5_join_147 ?_
    refine g_lstore d5_join_148 (by decide) ?_
    refine g_goto 237 d5_join_150 rfl ?_
    refine g_lo [(0, .ref 30), (6, .long (a + b))] ⟨rfl, rfl, trivial⟩ ?_
    have hc : ar0 20 a b = a + b := rfl
    refine r5_30_jt (I := (uI I 30 2 (nI (n - 1)))) (n - 1) uI_ss (by omega) (by omega) _ ?_
    rw [← hc]
    exact ⟨rfl, rfl⟩
  · refine g_iload_n d5_join_54 rfl ?_
    refine g_bipushv (nI 47) d5_join_55 rfl ?_
    refine g_ic_eq (43) (47) 66 (by decide) (by decide) d5_join_57 rfl (fun c57 => absurd c57 (by decide)) (fun _ => ?_)
    refine g_iload_n d5_join_60 rfl ?_
    refine g_bipushv (nI 37) d5_join_61 rfl ?_
    refine g_ic_ne (43) (37) 72 (by decide) (by decide) d5_join_63 rfl (fun _ => ?_) (fun c63 => absurd c63 (by decide))
    refine g_lconstv (0) d5_join_72 rfl ?_
    refine g_lstore d5_join_73 (by decide) ?_
    refine g_iload_n d5_join_75 rfl ?_
    refine g_lookup 144 d5_join_76 (by decide) rfl rfl ?_
    refine g_lload_n d5_join_144 rfl ?_
    refine g_lload d5_join_145 rfl ?_
    refine g_ladd d5_join_147 ?_
    refine g_lstore d5_join_148 (by decide) ?_
    refine g_goto 237 d5_join_150 rfl ?_
    refine g_lo [(0, .ref 30), (6, .long (a + b))] ⟨rfl, rfl, trivial⟩ ?_
    have hc : ar0 20 a b = a + b := rfl
    refine r5_30_jt (I := (uI I 30 2 (nI (n - 1)))) (n - 1) uI_ss (by omega) (by omega) _ ?_
    rw [← hc]
    exact ⟨rfl, rfl⟩
set_option maxHeartbeats 400000 in
theorem r5_30_j21 {l : Launch} {K : cK} {d : Nat} {I : wI} {L : wL} {R : wR} {dy : cH} (n : Nat) (hn : I 30 2 = nI n) (h2 : 2 ≤ n) (h64 : n ≤ 64) (a b : Int64) (ha : L 32 (n - 1 - 1) = a) (hb : L 32 (n - 1) = b) (hd : 0 ≤ d) : CV l K m5_join d [.ref 30, .int (nI 45)] (hp I L R dy) (hp (uI (uI I 30 2 (nI (n - 1))) 30 3 (if -1000000000 ≤ (ar0 21 a b).toInt ∧ (ar0 21 a b).toInt ≤ 1000000000 then 0 else 1)) (uL L 32 (n - 1 - 1) (ar0 21 a b)) R dy) := by
  refine CC.of ok5_join (Nat.le_of_ble_eq_true rfl) ?_
  refine g_aload_n d5_join_0 rfl ?_
  refine g_get fl5_56 d5_join_1 f_30_2 ?_
  refine g_topI (nI (n)) (hn) ?_
  refine g_iconstv (nI 2) d5_join_4 rfl ?_
  refine g_ic_ge ((n : Nat) : Int) (2) 14 (nI_ti (by omega)) (by decide) d5_join_5 rfl (fun _ => ?_) (fun c5 => absurd c5 (by omega))
  refine g_aload_n d5_join_14 rfl ?_
  refine g_dup d5_join_15 rfl ?_
  refine g_get fl5_56 d5_join_16 f_30_2 ?_
  refine g_topI (nI (n)) (hn) ?_
  refine g_iconstv (nI 1) d5_join_19 rfl ?_
  refine g_isubN (by omega) d5_join_20 ?_
  refine g_putIh _ fl5_56 d5_join_21 f_30_2 s_30_2 ?_
  refine g_aload_n d5_join_24 rfl ?_
  refine g_get fl5_13 d5_join_25 f_30_1 ?_
  refine g_aload_n d5_join_28 rfl ?_
  refine g_get fl5_56 d5_join_29 f_30_2 ?_
  refine g_topI (nI ((n - 1))) (uI_ss) ?_
  refine g_iconstv (nI 1) d5_join_32 rfl ?_
  refine g_isubN (by omega) d5_join_33 ?_
  refine g_laldN (((n - 1) - 1)) d5_join_34 a_32 (rfl) (by omega) (by decide) ?_
  refine g_topL (a) (ha) ?_
  refine g_lstore_n d5_join_35 (by decide) ?_
  refine g_aload_n d5_join_36 rfl ?_
  refine g_get fl5_13 d5_join_37 f_30_1 ?_
  refine g_aload_n d5_join_40 rfl ?_
  refine g_get fl5_56 d5_join_41 f_30_2 ?_
  refine g_topI (nI ((n - 1))) (uI_ss) ?_
  refine g_laldN ((n - 1)) d5_join_44 a_32 (rfl) (by omega) (by decide) ?_
  refine g_topL (b) (hb) ?_
  refine g_lstore d5_join_45 (by decide) ?_
  refine g_lload d5_join_47 rfl ?_
  refine g_lconstv (0) d5_join_49 rfl ?_
  refine g_lx_ne _ (0) 72 (rfl) (by decide) d5_join_50 d5_join_51 rfl (fun c50 => ?_) (fun c50 => ?_)
  · refine g_lconstv (0) d5_join_72 rfl ?_
    refine g_lstore d5_join_73 (by decide) ?_
    refine g_iload_n d5_join_75 rfl ?_
    refine g_lookup 153 d5_join_76 (by decide) rfl rfl ?_
    refine g_lload_n d5_join_153 rfl ?_
    refine g_lload d5_join_154 rfl ?_
    refine g_lsub d5_join_156 ?_
    refine g_lstore d5_join_157 (by decide) ?_
    refine g_goto 237 d5_join_159 rfl ?_
    refine g_lo [(0, .ref 30), (6, .long (a - b))] ⟨rfl, rfl, trivial⟩ ?_
    have hc : ar0 21 a b = a - b := rfl
    refine r5_30_jt (I := (uI I 30 2 (nI (n - 1)))) (n - 1) uI_ss (by omega) (by omega) _ ?_
    rw [← hc]
    exact ⟨rfl, rfl⟩
  · refine g_iload_n d5_join_54 rfl ?_
    refine g_bipushv (nI 47) d5_join_55 rfl ?_
    refine g_ic_eq (45) (47) 66 (by decide) (by decide) d5_join_57 rfl (fun c57 => absurd c57 (by decide)) (fun _ => ?_)
    refine g_iload_n d5_join_60 rfl ?_
    refine g_bipushv (nI 37) d5_join_61 rfl ?_
    refine g_ic_ne (45) (37) 72 (by decide) (by decide) d5_join_63 rfl (fun _ => ?_) (fun c63 => absurd c63 (by decide))
    refine g_lconstv (0) d5_join_72 rfl ?_
    refine g_lstore d5_join_73 (by decide) ?_
    refine g_iload_n d5_join_75 rfl ?_
    refine g_lookup 153 d5_join_76 (by decide) rfl rfl ?_
    refine g_lload_n d5_join_153 rfl ?_
    refine g_lload d5_join_154 rfl ?_
    refine g_lsub d5_join_156 ?_
    refine g_lstore d5_join_157 (by decide) ?_
    refine g_goto 237 d5_join_159 rfl ?_
    refine g_lo [(0, .ref 30), (6, .long (a - b))] ⟨rfl, rfl, trivial⟩ ?_
    have hc : ar0 21 a b = a - b := rfl
    refine r5_30_jt (I := (uI I 30 2 (nI (n - 1)))) (n - 1) uI_ss (by omega) (by omega) _ ?_
    rw [← hc]
    exact ⟨rfl, rfl⟩
set_option maxHeartbeats 400000 in
theorem r5_30_j22 {l : Launch} {K : cK} {d : Nat} {I : wI} {L : wL} {R : wR} {dy : cH} (n : Nat) (hn : I 30 2 = nI n) (h2 : 2 ≤ n) (h64 : n ≤ 64) (a b : Int64) (ha : L 32 (n - 1 - 1) = a) (hb : L 32 (n - 1) = b) (hd : 0 ≤ d) : CV l K m5_join d [.ref 30, .int (nI 42)] (hp I L R dy) (hp (uI (uI I 30 2 (nI (n - 1))) 30 3 (if -1000000000 ≤ (ar0 22 a b).toInt ∧ (ar0 22 a b).toInt ≤ 1000000000 then 0 else 1)) (uL L 32 (n - 1 - 1) (ar0 22 a b)) R dy) := by
  refine CC.of ok5_join (Nat.le_of_ble_eq_true rfl) ?_
  refine g_aload_n d5_join_0 rfl ?_
  refine g_get fl5_56 d5_join_1 f_30_2 ?_
  refine g_topI (nI (n)) (hn) ?_
  refine g_iconstv (nI 2) d5_join_4 rfl ?_
  refine g_ic_ge ((n : Nat) : Int) (2) 14 (nI_ti (by omega)) (by decide) d5_join_5 rfl (fun _ => ?_) (fun c5 => absurd c5 (by omega))
  refine g_aload_n d5_join_14 rfl ?_
  refine g_dup d5_join_15 rfl ?_
  refine g_get fl5_56 d5_join_16 f_30_2 ?_
  refine g_topI (nI (n)) (hn) ?_
  refine g_iconstv (nI 1) d5_join_19 rfl ?_
  refine g_isubN (by omega) d5_join_20 ?_
  refine g_putIh _ fl5_56 d5_join_21 f_30_2 s_30_2 ?_
  refine g_aload_n d5_join_24 rfl ?_
  refine g_get fl5_13 d5_join_25 f_30_1 ?_
  refine g_aload_n d5_join_28 rfl ?_
  refine g_get fl5_56 d5_join_29 f_30_2 ?_
  refine g_topI (nI ((n - 1))) (uI_ss) ?_
  refine g_iconstv (nI 1) d5_join_32 rfl ?_
  refine g_isubN (by omega) d5_join_33 ?_
  refine g_laldN (((n - 1) - 1)) d5_join_34 a_32 (rfl) (by omega) (by decide) ?_
  refine g_topL (a) (ha) ?_
  refine g_lstore_n d5_join_35 (by decide) ?_
  refine g_aload_n d5_join_36 rfl ?_
  refine g_get fl5_13 d5_join_37 f_30_1 ?_
  refine g_aload_n d5_join_40 rfl ?_
  refine g_get fl5_56 d5_join_41 f_30_2 ?_
  refine g_topI (nI ((n - 1))) (uI_ss) ?_
  refine g_laldN ((n - 1)) d5_join_44 a_32 (rfl) (by omega) (by decide) ?_
  refine g_topL (b) (hb) ?_
  refine g_lstore d5_join_45 (by decide) ?_
  refine g_lload d5_join_47 rfl ?_
  refine g_lconstv (0) d5_join_49 rfl ?_
  refine g_lx_ne _ (0) 72 (rfl) (by decide) d5_join_50 d5_join_51 rfl (fun c50 => ?_) (fun c50 => ?_)
  · refine g_lconstv (0) d5_join_72 rfl ?_
    refine g_lstore d5_join_73 (by decide) ?_
    refine g_iload_n d5_join_75 rfl ?_
    refine g_lookup 162 d5_join_76 (by decide) rfl rfl ?_
    refine g_lload_n d5_join_162 rfl ?_
    refine g_lload d5_join_163 rfl ?_
    refine g_lmul d5_join_165 ?_
    refine g_lstore d5_join_166 (by decide) ?_
    refine g_goto 237 d5_join_168 rfl ?_
    refine g_lo [(0, .ref 30), (6, .long (a * b))] ⟨rfl, rfl, trivial⟩ ?_
    have hc : ar0 22 a b = a * b := rfl
    refine r5_30_jt (I := (uI I 30 2 (nI (n - 1)))) (n - 1) uI_ss (by omega) (by omega) _ ?_
    rw [← hc]
    exact ⟨rfl, rfl⟩
  · refine g_iload_n d5_join_54 rfl ?_
    refine g_bipushv (nI 47) d5_join_55 rfl ?_
    refine g_ic_eq (42) (47) 66 (by decide) (by decide) d5_join_57 rfl (fun c57 => absurd c57 (by decide)) (fun _ => ?_)
    refine g_iload_n d5_join_60 rfl ?_
    refine g_bipushv (nI 37) d5_join_61 rfl ?_
    refine g_ic_ne (42) (37) 72 (by decide) (by decide) d5_join_63 rfl (fun _ => ?_) (fun c63 => absurd c63 (by decide))
    refine g_lconstv (0) d5_join_72 rfl ?_
    refine g_lstore d5_join_73 (by decide) ?_
    refine g_iload_n d5_join_75 rfl ?_
    refine g_lookup 162 d5_join_76 (by decide) rfl rfl ?_
    refine g_lload_n d5_join_162 rfl ?_
    refine g_lload d5_join_163 rfl ?_
    refine g_lmul d5_join_165 ?_
    refine g_lstore d5_join_166 (by decide) ?_
    refine g_goto 237 d5_join_168 rfl ?_
    refine g_lo [(0, .ref 30), (6, .long (a * b))] ⟨rfl, rfl, trivial⟩ ?_
    have hc : ar0 22 a b = a * b := rfl
    refine r5_30_jt (I := (uI I 30 2 (nI (n - 1)))) (n - 1) uI_ss (by omega) (by omega) _ ?_
    rw [← hc]
    exact ⟨rfl, rfl⟩
set_option maxHeartbeats 400000 in
theorem r5_30_j23 {l : Launch} {K : cK} {d : Nat} {I : wI} {L : wL} {R : wR} {dy : cH} (n : Nat) (hn : I 30 2 = nI n) (h2 : 2 ≤ n) (h64 : n ≤ 64) (a b : Int64) (ha : L 32 (n - 1 - 1) = a) (hb : L 32 (n - 1) = b) (hb0 : ¬ b = 0) (hd : 0 ≤ d) : CV l K m5_join d [.ref 30, .int (nI 47)] (hp I L R dy) (hp (uI (uI I 30 2 (nI (n - 1))) 30 3 (if -1000000000 ≤ (ar0 23 a b).toInt ∧ (ar0 23 a b).toInt ≤ 1000000000 then 0 else 1)) (uL L 32 (n - 1 - 1) (ar0 23 a b)) R dy) := by
  refine CC.of ok5_join (Nat.le_of_ble_eq_true rfl) ?_
  refine g_aload_n d5_join_0 rfl ?_
  refine g_get fl5_56 d5_join_1 f_30_2 ?_
  refine g_topI (nI (n)) (hn) ?_
  refine g_iconstv (nI 2) d5_join_4 rfl ?_
  refine g_ic_ge ((n : Nat) : Int) (2) 14 (nI_ti (by omega)) (by decide) d5_join_5 rfl (fun _ => ?_) (fun c5 => absurd c5 (by omega))
  refine g_aload_n d5_join_14 rfl ?_
  refine g_dup d5_join_15 rfl ?_
  refine g_get fl5_56 d5_join_16 f_30_2 ?_
  refine g_topI (nI (n)) (hn) ?_
  refine g_iconstv (nI 1) d5_join_19 rfl ?_
  refine g_isubN (by omega) d5_join_20 ?_
  refine g_putIh _ fl5_56 d5_join_21 f_30_2 s_30_2 ?_
  refine g_aload_n d5_join_24 rfl ?_
  refine g_get fl5_13 d5_join_25 f_30_1 ?_
  refine g_aload_n d5_join_28 rfl ?_
  refine g_get fl5_56 d5_join_29 f_30_2 ?_
  refine g_topI (nI ((n - 1))) (uI_ss) ?_
  refine g_iconstv (nI 1) d5_join_32 rfl ?_
  refine g_isubN (by omega) d5_join_33 ?_
  refine g_laldN (((n - 1) - 1)) d5_join_34 a_32 (rfl) (by omega) (by decide) ?_
  refine g_topL (a) (ha) ?_
  refine g_lstore_n d5_join_35 (by decide) ?_
  refine g_aload_n d5_join_36 rfl ?_
  refine g_get fl5_13 d5_join_37 f_30_1 ?_
  refine g_aload_n d5_join_40 rfl ?_
  refine g_get fl5_56 d5_join_41 f_30_2 ?_
  refine g_topI (nI ((n - 1))) (uI_ss) ?_
  refine g_laldN ((n - 1)) d5_join_44 a_32 (rfl) (by omega) (by decide) ?_
  refine g_topL (b) (hb) ?_
  refine g_lstore d5_join_45 (by decide) ?_
  refine g_lload d5_join_47 rfl ?_
  refine g_lconstv (0) d5_join_49 rfl ?_
  refine g_lx_ne _ (0) 72 (rfl) (by decide) d5_join_50 d5_join_51 rfl (fun _ => ?_) (fun c50 => absurd c50 (fun z => hb0 (by rw [l_eq]; exact z)))
  refine g_lconstv (0) d5_join_72 rfl ?_
  refine g_lstore d5_join_73 (by decide) ?_
  refine g_iload_n d5_join_75 rfl ?_
  refine g_lookup 171 d5_join_76 (by decide) rfl rfl ?_
  refine g_lload_n d5_join_171 rfl ?_
  refine g_lload d5_join_172 rfl ?_
  refine g_ldiv d5_join_174 (hb0) ?_
  refine g_lstore d5_join_175 (by decide) ?_
  refine g_goto 237 d5_join_177 rfl ?_
  refine g_lo [(0, .ref 30), (6, .long (a / b))] ⟨rfl, rfl, trivial⟩ ?_
  have hc : ar0 23 a b = a / b := if_neg hb0
  refine r5_30_jt (I := (uI I 30 2 (nI (n - 1)))) (n - 1) uI_ss (by omega) (by omega) _ ?_
  rw [← hc]
  exact ⟨rfl, rfl⟩
set_option maxHeartbeats 200000 in
theorem r5_30_jz23 {l : Launch} {K : cK} {d : Nat} {I : wI} {L : wL} {R : wR} {dy : cH} (n : Nat) (hn : I 30 2 = nI n) (h2 : 2 ≤ n) (h64 : n ≤ 64) (a b : Int64) (ha : L 32 (n - 1 - 1) = a) (hb : L 32 (n - 1) = b) (hb0 : b = 0) (hd : 0 ≤ d) : CV l K m5_join d [.ref 30, .int (nI 47)] (hp I L R dy) (hp (uI (uI I 30 2 (nI (n - 1))) 30 3 1) L R dy) := by
  refine CC.of ok5_join (Nat.le_of_ble_eq_true rfl) ?_
  refine g_aload_n d5_join_0 rfl ?_
  refine g_get fl5_56 d5_join_1 f_30_2 ?_
  refine g_topI (nI (n)) (hn) ?_
  refine g_iconstv (nI 2) d5_join_4 rfl ?_
  refine g_ic_ge ((n : Nat) : Int) (2) 14 (nI_ti (by omega)) (by decide) d5_join_5 rfl (fun _ => ?_) (fun c5 => absurd c5 (by omega))
  refine g_aload_n d5_join_14 rfl ?_
  refine g_dup d5_join_15 rfl ?_
  refine g_get fl5_56 d5_join_16 f_30_2 ?_
  refine g_topI (nI (n)) (hn) ?_
  refine g_iconstv (nI 1) d5_join_19 rfl ?_
  refine g_isubN (by omega) d5_join_20 ?_
  refine g_putIh _ fl5_56 d5_join_21 f_30_2 s_30_2 ?_
  refine g_aload_n d5_join_24 rfl ?_
  refine g_get fl5_13 d5_join_25 f_30_1 ?_
  refine g_aload_n d5_join_28 rfl ?_
  refine g_get fl5_56 d5_join_29 f_30_2 ?_
  refine g_topI (nI ((n - 1))) (uI_ss) ?_
  refine g_iconstv (nI 1) d5_join_32 rfl ?_
  refine g_isubN (by omega) d5_join_33 ?_
  refine g_laldN (((n - 1) - 1)) d5_join_34 a_32 (rfl) (by omega) (by decide) ?_
  refine g_topL (a) (ha) ?_
  refine g_lstore_n d5_join_35 (by decide) ?_
  refine g_aload_n d5_join_36 rfl ?_
  refine g_get fl5_13 d5_join_37 f_30_1 ?_
  refine g_aload_n d5_join_40 rfl ?_
  refine g_get fl5_56 d5_join_41 f_30_2 ?_
  refine g_topI (nI ((n - 1))) (uI_ss) ?_
  refine g_laldN ((n - 1)) d5_join_44 a_32 (rfl) (by omega) (by decide) ?_
  refine g_topL (b) (hb) ?_
  refine g_lstore d5_join_45 (by decide) ?_
  refine g_lload d5_join_47 rfl ?_
  refine g_lconstv (0) d5_join_49 rfl ?_
  refine g_lx_ne _ (0) 72 (rfl) (by decide) d5_join_50 d5_join_51 rfl (fun c50 => absurd c50 (fun z => z (by rw [hb0]; rfl))) (fun _ => ?_)
  refine g_iload_n d5_join_54 rfl ?_
  refine g_bipushv (nI 47) d5_join_55 rfl ?_
  refine g_ic_eq (47) (47) 66 (by decide) (by decide) d5_join_57 rfl (fun _ => ?_) (fun c57 => absurd c57 (by decide))
  refine g_aload_n d5_join_66 rfl ?_
  refine g_iconstv (nI 1) d5_join_67 rfl ?_
  refine g_putZh _ fl5_36 d5_join_68 f_30_3 (by decide) s_30_3 ?_
  exact g_vret rfl d5_join_71 (⟨rfl, rfl⟩)
set_option maxHeartbeats 400000 in
theorem r5_30_j24 {l : Launch} {K : cK} {d : Nat} {I : wI} {L : wL} {R : wR} {dy : cH} (n : Nat) (hn : I 30 2 = nI n) (h2 : 2 ≤ n) (h64 : n ≤ 64) (a b : Int64) (ha : L 32 (n - 1 - 1) = a) (hb : L 32 (n - 1) = b) (hb0 : ¬ b = 0) (hd : 0 ≤ d) : CV l K m5_join d [.ref 30, .int (nI 37)] (hp I L R dy) (hp (uI (uI I 30 2 (nI (n - 1))) 30 3 (if -1000000000 ≤ (ar0 24 a b).toInt ∧ (ar0 24 a b).toInt ≤ 1000000000 then 0 else 1)) (uL L 32 (n - 1 - 1) (ar0 24 a b)) R dy) := by
  refine CC.of ok5_join (Nat.le_of_ble_eq_true rfl) ?_
  refine g_aload_n d5_join_0 rfl ?_
  refine g_get fl5_56 d5_join_1 f_30_2 ?_
  refine g_topI (nI (n)) (hn) ?_
  refine g_iconstv (nI 2) d5_join_4 rfl ?_
  refine g_ic_ge ((n : Nat) : Int) (2) 14 (nI_ti (by omega)) (by decide) d5_join_5 rfl (fun _ => ?_) (fun c5 => absurd c5 (by omega))
  refine g_aload_n d5_join_14 rfl ?_
  refine g_dup d5_join_15 rfl ?_
  refine g_get fl5_56 d5_join_16 f_30_2 ?_
  refine g_topI (nI (n)) (hn) ?_
  refine g_iconstv (nI 1) d5_join_19 rfl ?_
  refine g_isubN (by omega) d5_join_20 ?_
  refine g_putIh _ fl5_56 d5_join_21 f_30_2 s_30_2 ?_
  refine g_aload_n d5_join_24 rfl ?_
  refine g_get fl5_13 d5_join_25 f_30_1 ?_
  refine g_aload_n d5_join_28 rfl ?_
  refine g_get fl5_56 d5_join_29 f_30_2 ?_
  refine g_topI (nI ((n - 1))) (uI_ss) ?_
  refine g_iconstv (nI 1) d5_join_32 rfl ?_
  refine g_isubN (by omega) d5_join_33 ?_
  refine g_laldN (((n - 1) - 1)) d5_join_34 a_32 (rfl) (by omega) (by decide) ?_
  refine g_topL (a) (ha) ?_
  refine g_lstore_n d5_join_35 (by decide) ?_
  refine g_aload_n d5_join_36 rfl ?_
  refine g_get fl5_13 d5_join_37 f_30_1 ?_
  refine g_aload_n d5_join_40 rfl ?_
  refine g_get fl5_56 d5_join_41 f_30_2 ?_
  refine g_topI (nI ((n - 1))) (uI_ss) ?_
  refine g_laldN ((n - 1)) d5_join_44 a_32 (rfl) (by omega) (by decide) ?_
  refine g_topL (b) (hb) ?_
  refine g_lstore d5_join_45 (by decide) ?_
  refine g_lload d5_join_47 rfl ?_
  refine g_lconstv (0) d5_join_49 rfl ?_
  refine g_lx_ne _ (0) 72 (rfl) (by decide) d5_join_50 d5_join_51 rfl (fun _ => ?_) (fun c50 => absurd c50 (fun z => hb0 (by rw [l_eq]; exact z)))
  refine g_lconstv (0) d5_join_72 rfl ?_
  refine g_lstore d5_join_73 (by decide) ?_
  refine g_iload_n d5_join_75 rfl ?_
  refine g_lookup 180 d5_join_76 (by decide) rfl rfl ?_
  refine g_lload_n d5_join_180 rfl ?_
  refine g_lload d5_join_181 rfl ?_
  refine g_lrem d5_join_183 (hb0) ?_
  refine g_lstore d5_join_184 (by decide) ?_
  refine g_goto 237 d5_join_186 rfl ?_
  refine g_lo [(0, .ref 30), (6, .long (a - a / b * b))] ⟨rfl, rfl, trivial⟩ ?_
  have hc : ar0 24 a b = a - a / b * b := if_neg hb0
  refine r5_30_jt (I := (uI I 30 2 (nI (n - 1)))) (n - 1) uI_ss (by omega) (by omega) _ ?_
  rw [← hc]
  exact ⟨rfl, rfl⟩
set_option maxHeartbeats 200000 in
theorem r5_30_jz24 {l : Launch} {K : cK} {d : Nat} {I : wI} {L : wL} {R : wR} {dy : cH} (n : Nat) (hn : I 30 2 = nI n) (h2 : 2 ≤ n) (h64 : n ≤ 64) (a b : Int64) (ha : L 32 (n - 1 - 1) = a) (hb : L 32 (n - 1) = b) (hb0 : b = 0) (hd : 0 ≤ d) : CV l K m5_join d [.ref 30, .int (nI 37)] (hp I L R dy) (hp (uI (uI I 30 2 (nI (n - 1))) 30 3 1) L R dy) := by
  refine CC.of ok5_join (Nat.le_of_ble_eq_true rfl) ?_
  refine g_aload_n d5_join_0 rfl ?_
  refine g_get fl5_56 d5_join_1 f_30_2 ?_
  refine g_topI (nI (n)) (hn) ?_
  refine g_iconstv (nI 2) d5_join_4 rfl ?_
  refine g_ic_ge ((n : Nat) : Int) (2) 14 (nI_ti (by omega)) (by decide) d5_join_5 rfl (fun _ => ?_) (fun c5 => absurd c5 (by omega))
  refine g_aload_n d5_join_14 rfl ?_
  refine g_dup d5_join_15 rfl ?_
  refine g_get fl5_56 d5_join_16 f_30_2 ?_
  refine g_topI (nI (n)) (hn) ?_
  refine g_iconstv (nI 1) d5_join_19 rfl ?_
  refine g_isubN (by omega) d5_join_20 ?_
  refine g_putIh _ fl5_56 d5_join_21 f_30_2 s_30_2 ?_
  refine g_aload_n d5_join_24 rfl ?_
  refine g_get fl5_13 d5_join_25 f_30_1 ?_
  refine g_aload_n d5_join_28 rfl ?_
  refine g_get fl5_56 d5_join_29 f_30_2 ?_
  refine g_topI (nI ((n - 1))) (uI_ss) ?_
  refine g_iconstv (nI 1) d5_join_32 rfl ?_
  refine g_isubN (by omega) d5_join_33 ?_
  refine g_laldN (((n - 1) - 1)) d5_join_34 a_32 (rfl) (by omega) (by decide) ?_
  refine g_topL (a) (ha) ?_
  refine g_lstore_n d5_join_35 (by decide) ?_
  refine g_aload_n d5_join_36 rfl ?_
  refine g_get fl5_13 d5_join_37 f_30_1 ?_
  refine g_aload_n d5_join_40 rfl ?_
  refine g_get fl5_56 d5_join_41 f_30_2 ?_
  refine g_topI (nI ((n - 1))) (uI_ss) ?_
  refine g_laldN ((n - 1)) d5_join_44 a_32 (rfl) (by omega) (by decide) ?_
  refine g_topL (b) (hb) ?_
  refine g_lstore d5_join_45 (by decide) ?_
  refine g_lload d5_join_47 rfl ?_
  refine g_lconstv (0) d5_join_49 rfl ?_
  refine g_lx_ne _ (0) 72 (rfl) (by decide) d5_join_50 d5_join_51 rfl (fun c50 => absurd c50 (fun z => z (by rw [hb0]; rfl))) (fun _ => ?_)
  refine g_iload_n d5_join_54 rfl ?_
  refine g_bipushv (nI 47) d5_join_55 rfl ?_
  refine g_ic_eq (37) (47) 66 (by decide) (by decide) d5_join_57 rfl (fun c57 => absurd c57 (by decide)) (fun _ => ?_)
  refine g_iload_n d5_join_60 rfl ?_
  refine g_bipushv (nI 37) d5_join_61 rfl ?_
  refine g_ic_ne (37) (37) 72 (by decide) (by decide) d5_join_63 rfl (fun c63 => absurd c63 (by decide)) (fun _ => ?_)
  refine g_aload_n d5_join_66 rfl ?_
  refine g_iconstv (nI 1) d5_join_67 rfl ?_
  refine g_putZh _ fl5_36 d5_join_68 f_30_3 (by decide) s_30_3 ?_
  exact g_vret rfl d5_join_71 (⟨rfl, rfl⟩)
set_option maxHeartbeats 400000 in
theorem r5_30_j25 {l : Launch} {K : cK} {d : Nat} {I : wI} {L : wL} {R : wR} {dy : cH} (n : Nat) (hn : I 30 2 = nI n) (h2 : 2 ≤ n) (h64 : n ≤ 64) (a b : Int64) (ha : L 32 (n - 1 - 1) = a) (hb : L 32 (n - 1) = b) (hd : 0 ≤ d) : CV l K m5_join d [.ref 30, .int (nI 60)] (hp I L R dy) (hp (uI (uI I 30 2 (nI (n - 1))) 30 3 (if -1000000000 ≤ (ar0 25 a b).toInt ∧ (ar0 25 a b).toInt ≤ 1000000000 then 0 else 1)) (uL L 32 (n - 1 - 1) (ar0 25 a b)) R dy) := by
  refine CC.of ok5_join (Nat.le_of_ble_eq_true rfl) ?_
  by_cases hcc : a < b
  · skip
    refine g_aload_n d5_join_0 rfl ?_
    refine g_get fl5_56 d5_join_1 f_30_2 ?_
    refine g_topI (nI (n)) (hn) ?_
    refine g_iconstv (nI 2) d5_join_4 rfl ?_
    refine g_ic_ge ((n : Nat) : Int) (2) 14 (nI_ti (by omega)) (by decide) d5_join_5 rfl (fun _ => ?_) (fun c5 => absurd c5 (by omega))
    refine g_aload_n d5_join_14 rfl ?_
    refine g_dup d5_join_15 rfl ?_
    refine g_get fl5_56 d5_join_16 f_30_2 ?_
    refine g_topI (nI (n)) (hn) ?_
    refine g_iconstv (nI 1) d5_join_19 rfl ?_
    refine g_isubN (by omega) d5_join_20 ?_
    refine g_putIh _ fl5_56 d5_join_21 f_30_2 s_30_2 ?_
    refine g_aload_n d5_join_24 rfl ?_
    refine g_get fl5_13 d5_join_25 f_30_1 ?_
    refine g_aload_n d5_join_28 rfl ?_
    refine g_get fl5_56 d5_join_29 f_30_2 ?_
    refine g_topI (nI ((n - 1))) (uI_ss) ?_
    refine g_iconstv (nI 1) d5_join_32 rfl ?_
    refine g_isubN (by omega) d5_join_33 ?_
    refine g_laldN (((n - 1) - 1)) d5_join_34 a_32 (rfl) (by omega) (by decide) ?_
    refine g_topL (a) (ha) ?_
    refine g_lstore_n d5_join_35 (by decide) ?_
    refine g_aload_n d5_join_36 rfl ?_
    refine g_get fl5_13 d5_join_37 f_30_1 ?_
    refine g_aload_n d5_join_40 rfl ?_
    refine g_get fl5_56 d5_join_41 f_30_2 ?_
    refine g_topI (nI ((n - 1))) (uI_ss) ?_
    refine g_laldN ((n - 1)) d5_join_44 a_32 (rfl) (by omega) (by decide) ?_
    refine g_topL (b) (hb) ?_
    refine g_lstore d5_join_45 (by decide) ?_
    refine g_lload d5_join_47 rfl ?_
    refine g_lconstv (0) d5_join_49 rfl ?_
    refine g_lx_ne _ (0) 72 (rfl) (by decide) d5_join_50 d5_join_51 rfl (fun c50 => ?_) (fun c50 => ?_)
    · refine g_lconstv (0) d5_join_72 rfl ?_
      refine g_lstore d5_join_73 (by decide) ?_
      refine g_iload_n d5_join_75 rfl ?_
      refine g_lookup 189 d5_join_76 (by decide) rfl rfl ?_
      refine g_lload_n d5_join_189 rfl ?_
      refine g_lload d5_join_190 rfl ?_
      refine g_lx_ge _ _ 200 (rfl) (rfl) d5_join_192 d5_join_193 rfl (fun c192 => absurd c192 (by first | (rw [l_lt] at hcc; omega) | (rw [l_eq] at hcc; omega))) (fun _ => ?_)
      refine g_lconstv (1) d5_join_196 rfl ?_
      refine g_goto 201 d5_join_197 rfl ?_
      refine g_lstore d5_join_201 (by decide) ?_
      refine g_goto 237 d5_join_203 rfl ?_
      refine g_lo [(0, .ref 30), (6, .long (1))] ⟨rfl, rfl, trivial⟩ ?_
      have hc : ar0 25 a b = 1 := if_pos hcc
      refine r5_30_jt (I := (uI I 30 2 (nI (n - 1)))) (n - 1) uI_ss (by omega) (by omega) _ ?_
      rw [← hc]
      exact ⟨rfl, rfl⟩
    · refine g_iload_n d5_join_54 rfl ?_
      refine g_bipushv (nI 47) d5_join_55 rfl ?_
      refine g_ic_eq (60) (47) 66 (by decide) (by decide) d5_join_57 rfl (fun c57 => absurd c57 (by decide)) (fun _ => ?_)
      refine g_iload_n d5_join_60 rfl ?_
      refine g_bipushv (nI 37) d5_join_61 rfl ?_
      refine g_ic_ne (60) (37) 72 (by decide) (by decide) d5_join_63 rfl (fun _ => ?_) (fun c63 => absurd c63 (by decide))
      refine g_lconstv (0) d5_join_72 rfl ?_
      refine g_lstore d5_join_73 (by decide) ?_
      refine g_iload_n d5_join_75 rfl ?_
      refine g_lookup 189 d5_join_76 (by decide) rfl rfl ?_
      refine g_lload_n d5_join_189 rfl ?_
      refine g_lload d5_join_190 rfl ?_
      refine g_lx_ge _ _ 200 (rfl) (rfl) d5_join_192 d5_join_193 rfl (fun c192 => absurd c192 (by first | (rw [l_lt] at hcc; omega) | (rw [l_eq] at hcc; omega))) (fun _ => ?_)
      refine g_lconstv (1) d5_join_196 rfl ?_
      refine g_goto 201 d5_join_197 rfl ?_
      refine g_lstore d5_join_201 (by decide) ?_
      refine g_goto 237 d5_join_203 rfl ?_
      refine g_lo [(0, .ref 30), (6, .long (1))] ⟨rfl, rfl, trivial⟩ ?_
      have hc : ar0 25 a b = 1 := if_pos hcc
      refine r5_30_jt (I := (uI I 30 2 (nI (n - 1)))) (n - 1) uI_ss (by omega) (by omega) _ ?_
      rw [← hc]
      exact ⟨rfl, rfl⟩
  · skip
    refine g_aload_n d5_join_0 rfl ?_
    refine g_get fl5_56 d5_join_1 f_30_2 ?_
    refine g_topI (nI (n)) (hn) ?_
    refine g_iconstv (nI 2) d5_join_4 rfl ?_
    refine g_ic_ge ((n : Nat) : Int) (2) 14 (nI_ti (by omega)) (by decide) d5_join_5 rfl (fun _ => ?_) (fun c5 => absurd c5 (by omega))
    refine g_aload_n d5_join_14 rfl ?_
    refine g_dup d5_join_15 rfl ?_
    refine g_get fl5_56 d5_join_16 f_30_2 ?_
    refine g_topI (nI (n)) (hn) ?_
    refine g_iconstv (nI 1) d5_join_19 rfl ?_
    refine g_isubN (by omega) d5_join_20 ?_
    refine g_putIh _ fl5_56 d5_join_21 f_30_2 s_30_2 ?_
    refine g_aload_n d5_join_24 rfl ?_
    refine g_get fl5_13 d5_join_25 f_30_1 ?_
    refine g_aload_n d5_join_28 rfl ?_
    refine g_get fl5_56 d5_join_29 f_30_2 ?_
    refine g_topI (nI ((n - 1))) (uI_ss) ?_
    refine g_iconstv (nI 1) d5_join_32 rfl ?_
    refine g_isubN (by omega) d5_join_33 ?_
    refine g_laldN (((n - 1) - 1)) d5_join_34 a_32 (rfl) (by omega) (by decide) ?_
    refine g_topL (a) (ha) ?_
    refine g_lstore_n d5_join_35 (by decide) ?_
    refine g_aload_n d5_join_36 rfl ?_
    refine g_get fl5_13 d5_join_37 f_30_1 ?_
    refine g_aload_n d5_join_40 rfl ?_
    refine g_get fl5_56 d5_join_41 f_30_2 ?_
    refine g_topI (nI ((n - 1))) (uI_ss) ?_
    refine g_laldN ((n - 1)) d5_join_44 a_32 (rfl) (by omega) (by decide) ?_
    refine g_topL (b) (hb) ?_
    refine g_lstore d5_join_45 (by decide) ?_
    refine g_lload d5_join_47 rfl ?_
    refine g_lconstv (0) d5_join_49 rfl ?_
    refine g_lx_ne _ (0) 72 (rfl) (by decide) d5_join_50 d5_join_51 rfl (fun c50 => ?_) (fun c50 => ?_)
    · refine g_lconstv (0) d5_join_72 rfl ?_
      refine g_lstore d5_join_73 (by decide) ?_
      refine g_iload_n d5_join_75 rfl ?_
      refine g_lookup 189 d5_join_76 (by decide) rfl rfl ?_
      refine g_lload_n d5_join_189 rfl ?_
      refine g_lload d5_join_190 rfl ?_
      refine g_lx_ge _ _ 200 (rfl) (rfl) d5_join_192 d5_join_193 rfl (fun _ => ?_) (fun c192 => absurd c192 (by first | (rw [l_lt] at hcc; omega) | (rw [l_eq] at hcc; omega)))
      refine g_lconstv (0) d5_join_200 rfl ?_
      refine g_lstore d5_join_201 (by decide) ?_
      refine g_goto 237 d5_join_203 rfl ?_
      refine g_lo [(0, .ref 30), (6, .long (0))] ⟨rfl, rfl, trivial⟩ ?_
      have hc : ar0 25 a b = 0 := if_neg hcc
      refine r5_30_jt (I := (uI I 30 2 (nI (n - 1)))) (n - 1) uI_ss (by omega) (by omega) _ ?_
      rw [← hc]
      exact ⟨rfl, rfl⟩
    · refine g_iload_n d5_join_54 rfl ?_
      refine g_bipushv (nI 47) d5_join_55 rfl ?_
      refine g_ic_eq (60) (47) 66 (by decide) (by decide) d5_join_57 rfl (fun c57 => absurd c57 (by decide)) (fun _ => ?_)
      refine g_iload_n d5_join_60 rfl ?_
      refine g_bipushv (nI 37) d5_join_61 rfl ?_
      refine g_ic_ne (60) (37) 72 (by decide) (by decide) d5_join_63 rfl (fun _ => ?_) (fun c63 => absurd c63 (by decide))
      refine g_lconstv (0) d5_join_72 rfl ?_
      refine g_lstore d5_join_73 (by decide) ?_
      refine g_iload_n d5_join_75 rfl ?_
      refine g_lookup 189 d5_join_76 (by decide) rfl rfl ?_
      refine g_lload_n d5_join_189 rfl ?_
      refine g_lload d5_join_190 rfl ?_
      refine g_lx_ge _ _ 200 (rfl) (rfl) d5_join_192 d5_join_193 rfl (fun _ => ?_) (fun c192 => absurd c192 (by first | (rw [l_lt] at hcc; omega) | (rw [l_eq] at hcc; omega)))
      refine g_lconstv (0) d5_join_200 rfl ?_
      refine g_lstore d5_join_201 (by decide) ?_
      refine g_goto 237 d5_join_203 rfl ?_
      refine g_lo [(0, .ref 30), (6, .long (0))] ⟨rfl, rfl, trivial⟩ ?_
      have hc : ar0 25 a b = 0 := if_neg hcc
      refine r5_30_jt (I := (uI I 30 2 (nI (n - 1)))) (n - 1) uI_ss (by omega) (by omega) _ ?_
      rw [← hc]
      exact ⟨rfl, rfl⟩
set_option maxHeartbeats 400000 in
theorem r5_30_j26 {l : Launch} {K : cK} {d : Nat} {I : wI} {L : wL} {R : wR} {dy : cH} (n : Nat) (hn : I 30 2 = nI n) (h2 : 2 ≤ n) (h64 : n ≤ 64) (a b : Int64) (ha : L 32 (n - 1 - 1) = a) (hb : L 32 (n - 1) = b) (hd : 0 ≤ d) : CV l K m5_join d [.ref 30, .int (nI 62)] (hp I L R dy) (hp (uI (uI I 30 2 (nI (n - 1))) 30 3 (if -1000000000 ≤ (ar0 26 a b).toInt ∧ (ar0 26 a b).toInt ≤ 1000000000 then 0 else 1)) (uL L 32 (n - 1 - 1) (ar0 26 a b)) R dy) := by
  refine CC.of ok5_join (Nat.le_of_ble_eq_true rfl) ?_
  by_cases hcc : b < a
  · skip
    refine g_aload_n d5_join_0 rfl ?_
    refine g_get fl5_56 d5_join_1 f_30_2 ?_
    refine g_topI (nI (n)) (hn) ?_
    refine g_iconstv (nI 2) d5_join_4 rfl ?_
    refine g_ic_ge ((n : Nat) : Int) (2) 14 (nI_ti (by omega)) (by decide) d5_join_5 rfl (fun _ => ?_) (fun c5 => absurd c5 (by omega))
    refine g_aload_n d5_join_14 rfl ?_
    refine g_dup d5_join_15 rfl ?_
    refine g_get fl5_56 d5_join_16 f_30_2 ?_
    refine g_topI (nI (n)) (hn) ?_
    refine g_iconstv (nI 1) d5_join_19 rfl ?_
    refine g_isubN (by omega) d5_join_20 ?_
    refine g_putIh _ fl5_56 d5_join_21 f_30_2 s_30_2 ?_
    refine g_aload_n d5_join_24 rfl ?_
    refine g_get fl5_13 d5_join_25 f_30_1 ?_
    refine g_aload_n d5_join_28 rfl ?_
    refine g_get fl5_56 d5_join_29 f_30_2 ?_
    refine g_topI (nI ((n - 1))) (uI_ss) ?_
    refine g_iconstv (nI 1) d5_join_32 rfl ?_
    refine g_isubN (by omega) d5_join_33 ?_
    refine g_laldN (((n - 1) - 1)) d5_join_34 a_32 (rfl) (by omega) (by decide) ?_
    refine g_topL (a) (ha) ?_
    refine g_lstore_n d5_join_35 (by decide) ?_
    refine g_aload_n d5_join_36 rfl ?_
    refine g_get fl5_13 d5_join_37 f_30_1 ?_
    refine g_aload_n d5_join_40 rfl ?_
    refine g_get fl5_56 d5_join_41 f_30_2 ?_
    refine g_topI (nI ((n - 1))) (uI_ss) ?_
    refine g_laldN ((n - 1)) d5_join_44 a_32 (rfl) (by omega) (by decide) ?_
    refine g_topL (b) (hb) ?_
    refine g_lstore d5_join_45 (by decide) ?_
    refine g_lload d5_join_47 rfl ?_
    refine g_lconstv (0) d5_join_49 rfl ?_
    refine g_lx_ne _ (0) 72 (rfl) (by decide) d5_join_50 d5_join_51 rfl (fun c50 => ?_) (fun c50 => ?_)
    · refine g_lconstv (0) d5_join_72 rfl ?_
      refine g_lstore d5_join_73 (by decide) ?_
      refine g_iload_n d5_join_75 rfl ?_
      refine g_lookup 206 d5_join_76 (by decide) rfl rfl ?_
      refine g_lload_n d5_join_206 rfl ?_
      refine g_lload d5_join_207 rfl ?_
      refine g_lx_le _ _ 217 (rfl) (rfl) d5_join_209 d5_join_210 rfl (fun c209 => absurd c209 (by first | (rw [l_lt] at hcc; omega) | (rw [l_eq] at hcc; omega))) (fun _ => ?_)
      refine g_lconstv (1) d5_join_213 rfl ?_
      refine g_goto 218 d5_join_214 rfl ?_
      refine g_lstore d5_join_218 (by decide) ?_
      refine g_goto 237 d5_join_220 rfl ?_
      refine g_lo [(0, .ref 30), (6, .long (1))] ⟨rfl, rfl, trivial⟩ ?_
      have hc : ar0 26 a b = 1 := if_pos hcc
      refine r5_30_jt (I := (uI I 30 2 (nI (n - 1)))) (n - 1) uI_ss (by omega) (by omega) _ ?_
      rw [← hc]
      exact ⟨rfl, rfl⟩
    · refine g_iload_n d5_join_54 rfl ?_
      refine g_bipushv (nI 47) d5_join_55 rfl ?_
      refine g_ic_eq (62) (47) 66 (by decide) (by decide) d5_join_57 rfl (fun c57 => absurd c57 (by decide)) (fun _ => ?_)
      refine g_iload_n d5_join_60 rfl ?_
      refine g_bipushv (nI 37) d5_join_61 rfl ?_
      refine g_ic_ne (62) (37) 72 (by decide) (by decide) d5_join_63 rfl (fun _ => ?_) (fun c63 => absurd c63 (by decide))
      refine g_lconstv (0) d5_join_72 rfl ?_
      refine g_lstore d5_join_73 (by decide) ?_
      refine g_iload_n d5_join_75 rfl ?_
      refine g_lookup 206 d5_join_76 (by decide) rfl rfl ?_
      refine g_lload_n d5_join_206 rfl ?_
      refine g_lload d5_join_207 rfl ?_
      refine g_lx_le _ _ 217 (rfl) (rfl) d5_join_209 d5_join_210 rfl (fun c209 => absurd c209 (by first | (rw [l_lt] at hcc; omega) | (rw [l_eq] at hcc; omega))) (fun _ => ?_)
      refine g_lconstv (1) d5_join_213 rfl ?_
      refine g_goto 218 d5_join_214 rfl ?_
      refine g_lstore d5_join_218 (by decide) ?_
      refine g_goto 237 d5_join_220 rfl ?_
      refine g_lo [(0, .ref 30), (6, .long (1))] ⟨rfl, rfl, trivial⟩ ?_
      have hc : ar0 26 a b = 1 := if_pos hcc
      refine r5_30_jt (I := (uI I 30 2 (nI (n - 1)))) (n - 1) uI_ss (by omega) (by omega) _ ?_
      rw [← hc]
      exact ⟨rfl, rfl⟩
  · skip
    refine g_aload_n d5_join_0 rfl ?_
    refine g_get fl5_56 d5_join_1 f_30_2 ?_
    refine g_topI (nI (n)) (hn) ?_
    refine g_iconstv (nI 2) d5_join_4 rfl ?_
    refine g_ic_ge ((n : Nat) : Int) (2) 14 (nI_ti (by omega)) (by decide) d5_join_5 rfl (fun _ => ?_) (fun c5 => absurd c5 (by omega))
    refine g_aload_n d5_join_14 rfl ?_
    refine g_dup d5_join_15 rfl ?_
    refine g_get fl5_56 d5_join_16 f_30_2 ?_
    refine g_topI (nI (n)) (hn) ?_
    refine g_iconstv (nI 1) d5_join_19 rfl ?_
    refine g_isubN (by omega) d5_join_20 ?_
    refine g_putIh _ fl5_56 d5_join_21 f_30_2 s_30_2 ?_
    refine g_aload_n d5_join_24 rfl ?_
    refine g_get fl5_13 d5_join_25 f_30_1 ?_
    refine g_aload_n d5_join_28 rfl ?_
    refine g_get fl5_56 d5_join_29 f_30_2 ?_
    refine g_topI (nI ((n - 1))) (uI_ss) ?_
    refine g_iconstv (nI 1) d5_join_32 rfl ?_
    refine g_isubN (by omega) d5_join_33 ?_
    refine g_laldN (((n - 1) - 1)) d5_join_34 a_32 (rfl) (by omega) (by decide) ?_
    refine g_topL (a) (ha) ?_
    refine g_lstore_n d5_join_35 (by decide) ?_
    refine g_aload_n d5_join_36 rfl ?_
    refine g_get fl5_13 d5_join_37 f_30_1 ?_
    refine g_aload_n d5_join_40 rfl ?_
    refine g_get fl5_56 d5_join_41 f_30_2 ?_
    refine g_topI (nI ((n - 1))) (uI_ss) ?_
    refine g_laldN ((n - 1)) d5_join_44 a_32 (rfl) (by omega) (by decide) ?_
    refine g_topL (b) (hb) ?_
    refine g_lstore d5_join_45 (by decide) ?_
    refine g_lload d5_join_47 rfl ?_
    refine g_lconstv (0) d5_join_49 rfl ?_
    refine g_lx_ne _ (0) 72 (rfl) (by decide) d5_join_50 d5_join_51 rfl (fun c50 => ?_) (fun c50 => ?_)
    · refine g_lconstv (0) d5_join_72 rfl ?_
      refine g_lstore d5_join_73 (by decide) ?_
      refine g_iload_n d5_join_75 rfl ?_
      refine g_lookup 206 d5_join_76 (by decide) rfl rfl ?_
      refine g_lload_n d5_join_206 rfl ?_
      refine g_lload d5_join_207 rfl ?_
      refine g_lx_le _ _ 217 (rfl) (rfl) d5_join_209 d5_join_210 rfl (fun _ => ?_) (fun c209 => absurd c209 (by first | (rw [l_lt] at hcc; omega) | (rw [l_eq] at hcc; omega)))
      refine g_lconstv (0) d5_join_217 rfl ?_
      refine g_lstore d5_join_218 (by decide) ?_
      refine g_goto 237 d5_join_220 rfl ?_
      refine g_lo [(0, .ref 30), (6, .long (0))] ⟨rfl, rfl, trivial⟩ ?_
      have hc : ar0 26 a b = 0 := if_neg hcc
      refine r5_30_jt (I := (uI I 30 2 (nI (n - 1)))) (n - 1) uI_ss (by omega) (by omega) _ ?_
      rw [← hc]
      exact ⟨rfl, rfl⟩
    · refine g_iload_n d5_join_54 rfl ?_
      refine g_bipushv (nI 47) d5_join_55 rfl ?_
      refine g_ic_eq (62) (47) 66 (by decide) (by decide) d5_join_57 rfl (fun c57 => absurd c57 (by decide)) (fun _ => ?_)
      refine g_iload_n d5_join_60 rfl ?_
      refine g_bipushv (nI 37) d5_join_61 rfl ?_
      refine g_ic_ne (62) (37) 72 (by decide) (by decide) d5_join_63 rfl (fun _ => ?_) (fun c63 => absurd c63 (by decide))
      refine g_lconstv (0) d5_join_72 rfl ?_
      refine g_lstore d5_join_73 (by decide) ?_
      refine g_iload_n d5_join_75 rfl ?_
      refine g_lookup 206 d5_join_76 (by decide) rfl rfl ?_
      refine g_lload_n d5_join_206 rfl ?_
      refine g_lload d5_join_207 rfl ?_
      refine g_lx_le _ _ 217 (rfl) (rfl) d5_join_209 d5_join_210 rfl (fun _ => ?_) (fun c209 => absurd c209 (by first | (rw [l_lt] at hcc; omega) | (rw [l_eq] at hcc; omega)))
      refine g_lconstv (0) d5_join_217 rfl ?_
      refine g_lstore d5_join_218 (by decide) ?_
      refine g_goto 237 d5_join_220 rfl ?_
      refine g_lo [(0, .ref 30), (6, .long (0))] ⟨rfl, rfl, trivial⟩ ?_
      have hc : ar0 26 a b = 0 := if_neg hcc
      refine r5_30_jt (I := (uI I 30 2 (nI (n - 1)))) (n - 1) uI_ss (by omega) (by omega) _ ?_
      rw [← hc]
      exact ⟨rfl, rfl⟩
set_option maxHeartbeats 400000 in
theorem r5_30_j27 {l : Launch} {K : cK} {d : Nat} {I : wI} {L : wL} {R : wR} {dy : cH} (n : Nat) (hn : I 30 2 = nI n) (h2 : 2 ≤ n) (h64 : n ≤ 64) (a b : Int64) (ha : L 32 (n - 1 - 1) = a) (hb : L 32 (n - 1) = b) (hd : 0 ≤ d) : CV l K m5_join d [.ref 30, .int (nI 61)] (hp I L R dy) (hp (uI (uI I 30 2 (nI (n - 1))) 30 3 (if -1000000000 ≤ (ar0 27 a b).toInt ∧ (ar0 27 a b).toInt ≤ 1000000000 then 0 else 1)) (uL L 32 (n - 1 - 1) (ar0 27 a b)) R dy) := by
  refine CC.of ok5_join (Nat.le_of_ble_eq_true rfl) ?_
  by_cases hcc : a = b
  · skip
    refine g_aload_n d5_join_0 rfl ?_
    refine g_get fl5_56 d5_join_1 f_30_2 ?_
    refine g_topI (nI (n)) (hn) ?_
    refine g_iconstv (nI 2) d5_join_4 rfl ?_
    refine g_ic_ge ((n : Nat) : Int) (2) 14 (nI_ti (by omega)) (by decide) d5_join_5 rfl (fun _ => ?_) (fun c5 => absurd c5 (by omega))
    refine g_aload_n d5_join_14 rfl ?_
    refine g_dup d5_join_15 rfl ?_
    refine g_get fl5_56 d5_join_16 f_30_2 ?_
    refine g_topI (nI (n)) (hn) ?_
    refine g_iconstv (nI 1) d5_join_19 rfl ?_
    refine g_isubN (by omega) d5_join_20 ?_
    refine g_putIh _ fl5_56 d5_join_21 f_30_2 s_30_2 ?_
    refine g_aload_n d5_join_24 rfl ?_
    refine g_get fl5_13 d5_join_25 f_30_1 ?_
    refine g_aload_n d5_join_28 rfl ?_
    refine g_get fl5_56 d5_join_29 f_30_2 ?_
    refine g_topI (nI ((n - 1))) (uI_ss) ?_
    refine g_iconstv (nI 1) d5_join_32 rfl ?_
    refine g_isubN (by omega) d5_join_33 ?_
    refine g_laldN (((n - 1) - 1)) d5_join_34 a_32 (rfl) (by omega) (by decide) ?_
    refine g_topL (a) (ha) ?_
    refine g_lstore_n d5_join_35 (by decide) ?_
    refine g_aload_n d5_join_36 rfl ?_
    refine g_get fl5_13 d5_join_37 f_30_1 ?_
    refine g_aload_n d5_join_40 rfl ?_
    refine g_get fl5_56 d5_join_41 f_30_2 ?_
    refine g_topI (nI ((n - 1))) (uI_ss) ?_
    refine g_laldN ((n - 1)) d5_join_44 a_32 (rfl) (by omega) (by decide) ?_
    refine g_topL (b) (hb) ?_
    refine g_lstore d5_join_45 (by decide) ?_
    refine g_lload d5_join_47 rfl ?_
    refine g_lconstv (0) d5_join_49 rfl ?_
    refine g_lx_ne _ (0) 72 (rfl) (by decide) d5_join_50 d5_join_51 rfl (fun c50 => ?_) (fun c50 => ?_)
    · refine g_lconstv (0) d5_join_72 rfl ?_
      refine g_lstore d5_join_73 (by decide) ?_
      refine g_iload_n d5_join_75 rfl ?_
      refine g_lookup 223 d5_join_76 (by decide) rfl rfl ?_
      refine g_lload_n d5_join_223 rfl ?_
      refine g_lload d5_join_224 rfl ?_
      refine g_lx_ne _ _ 234 (rfl) (rfl) d5_join_226 d5_join_227 rfl (fun c226 => absurd c226 (by first | (rw [l_lt] at hcc; omega) | (rw [l_eq] at hcc; omega))) (fun _ => ?_)
      refine g_lconstv (1) d5_join_230 rfl ?_
      refine g_goto 235 d5_join_231 rfl ?_
      refine g_lstore d5_join_235 (by decide) ?_
      refine g_lo [(0, .ref 30), (6, .long (1))] ⟨rfl, rfl, trivial⟩ ?_
      have hc : ar0 27 a b = 1 := if_pos hcc
      refine r5_30_jt (I := (uI I 30 2 (nI (n - 1)))) (n - 1) uI_ss (by omega) (by omega) _ ?_
      rw [← hc]
      exact ⟨rfl, rfl⟩
    · refine g_iload_n d5_join_54 rfl ?_
      refine g_bipushv (nI 47) d5_join_55 rfl ?_
      refine g_ic_eq (61) (47) 66 (by decide) (by decide) d5_join_57 rfl (fun c57 => absurd c57 (by decide)) (fun _ => ?_)
      refine g_iload_n d5_join_60 rfl ?_
      refine g_bipushv (nI 37) d5_join_61 rfl ?_
      refine g_ic_ne (61) (37) 72 (by decide) (by decide) d5_join_63 rfl (fun _ => ?_) (fun c63 => absurd c63 (by decide))
      refine g_lconstv (0) d5_join_72 rfl ?_
      refine g_lstore d5_join_73 (by decide) ?_
      refine g_iload_n d5_join_75 rfl ?_
      refine g_lookup 223 d5_join_76 (by decide) rfl rfl ?_
      refine g_lload_n d5_join_223 rfl ?_
      refine g_lload d5_join_224 rfl ?_
      refine g_lx_ne _ _ 234 (rfl) (rfl) d5_join_226 d5_join_227 rfl (fun c226 => absurd c226 (by first | (rw [l_lt] at hcc; omega) | (rw [l_eq] at hcc; omega))) (fun _ => ?_)
      refine g_lconstv (1) d5_join_230 rfl ?_
      refine g_goto 235 d5_join_231 rfl ?_
      refine g_lstore d5_join_235 (by decide) ?_
      refine g_lo [(0, .ref 30), (6, .long (1))] ⟨rfl, rfl, trivial⟩ ?_
      have hc : ar0 27 a b = 1 := if_pos hcc
      refine r5_30_jt (I := (uI I 30 2 (nI (n - 1)))) (n - 1) uI_ss (by omega) (by omega) _ ?_
      rw [← hc]
      exact ⟨rfl, rfl⟩
  · skip
    refine g_aload_n d5_join_0 rfl ?_
    refine g_get fl5_56 d5_join_1 f_30_2 ?_
    refine g_topI (nI (n)) (hn) ?_
    refine g_iconstv (nI 2) d5_join_4 rfl ?_
    refine g_ic_ge ((n : Nat) : Int) (2) 14 (nI_ti (by omega)) (by decide) d5_join_5 rfl (fun _ => ?_) (fun c5 => absurd c5 (by omega))
    refine g_aload_n d5_join_14 rfl ?_
    refine g_dup d5_join_15 rfl ?_
    refine g_get fl5_56 d5_join_16 f_30_2 ?_
    refine g_topI (nI (n)) (hn) ?_
    refine g_iconstv (nI 1) d5_join_19 rfl ?_
    refine g_isubN (by omega) d5_join_20 ?_
    refine g_putIh _ fl5_56 d5_join_21 f_30_2 s_30_2 ?_
    refine g_aload_n d5_join_24 rfl ?_
    refine g_get fl5_13 d5_join_25 f_30_1 ?_
    refine g_aload_n d5_join_28 rfl ?_
    refine g_get fl5_56 d5_join_29 f_30_2 ?_
    refine g_topI (nI ((n - 1))) (uI_ss) ?_
    refine g_iconstv (nI 1) d5_join_32 rfl ?_
    refine g_isubN (by omega) d5_join_33 ?_
    refine g_laldN (((n - 1) - 1)) d5_join_34 a_32 (rfl) (by omega) (by decide) ?_
    refine g_topL (a) (ha) ?_
    refine g_lstore_n d5_join_35 (by decide) ?_
    refine g_aload_n d5_join_36 rfl ?_
    refine g_get fl5_13 d5_join_37 f_30_1 ?_
    refine g_aload_n d5_join_40 rfl ?_
    refine g_get fl5_56 d5_join_41 f_30_2 ?_
    refine g_topI (nI ((n - 1))) (uI_ss) ?_
    refine g_laldN ((n - 1)) d5_join_44 a_32 (rfl) (by omega) (by decide) ?_
    refine g_topL (b) (hb) ?_
    refine g_lstore d5_join_45 (by decide) ?_
    refine g_lload d5_join_47 rfl ?_
    refine g_lconstv (0) d5_join_49 rfl ?_
    refine g_lx_ne _ (0) 72 (rfl) (by decide) d5_join_50 d5_join_51 rfl (fun c50 => ?_) (fun c50 => ?_)
    · refine g_lconstv (0) d5_join_72 rfl ?_
      refine g_lstore d5_join_73 (by decide) ?_
      refine g_iload_n d5_join_75 rfl ?_
      refine g_lookup 223 d5_join_76 (by decide) rfl rfl ?_
      refine g_lload_n d5_join_223 rfl ?_
      refine g_lload d5_join_224 rfl ?_
      refine g_lx_ne _ _ 234 (rfl) (rfl) d5_join_226 d5_join_227 rfl (fun _ => ?_) (fun c226 => absurd c226 (by first | (rw [l_lt] at hcc; omega) | (rw [l_eq] at hcc; omega)))
      refine g_lconstv (0) d5_join_234 rfl ?_
      refine g_lstore d5_join_235 (by decide) ?_
      refine g_lo [(0, .ref 30), (6, .long (0))] ⟨rfl, rfl, trivial⟩ ?_
      have hc : ar0 27 a b = 0 := if_neg hcc
      refine r5_30_jt (I := (uI I 30 2 (nI (n - 1)))) (n - 1) uI_ss (by omega) (by omega) _ ?_
      rw [← hc]
      exact ⟨rfl, rfl⟩
    · refine g_iload_n d5_join_54 rfl ?_
      refine g_bipushv (nI 47) d5_join_55 rfl ?_
      refine g_ic_eq (61) (47) 66 (by decide) (by decide) d5_join_57 rfl (fun c57 => absurd c57 (by decide)) (fun _ => ?_)
      refine g_iload_n d5_join_60 rfl ?_
      refine g_bipushv (nI 37) d5_join_61 rfl ?_
      refine g_ic_ne (61) (37) 72 (by decide) (by decide) d5_join_63 rfl (fun _ => ?_) (fun c63 => absurd c63 (by decide))
      refine g_lconstv (0) d5_join_72 rfl ?_
      refine g_lstore d5_join_73 (by decide) ?_
      refine g_iload_n d5_join_75 rfl ?_
      refine g_lookup 223 d5_join_76 (by decide) rfl rfl ?_
      refine g_lload_n d5_join_223 rfl ?_
      refine g_lload d5_join_224 rfl ?_
      refine g_lx_ne _ _ 234 (rfl) (rfl) d5_join_226 d5_join_227 rfl (fun _ => ?_) (fun c226 => absurd c226 (by first | (rw [l_lt] at hcc; omega) | (rw [l_eq] at hcc; omega)))
      refine g_lconstv (0) d5_join_234 rfl ?_
      refine g_lstore d5_join_235 (by decide) ?_
      refine g_lo [(0, .ref 30), (6, .long (0))] ⟨rfl, rfl, trivial⟩ ?_
      have hc : ar0 27 a b = 0 := if_neg hcc
      refine r5_30_jt (I := (uI I 30 2 (nI (n - 1)))) (n - 1) uI_ss (by omega) (by omega) _ ?_
      rw [← hc]
      exact ⟨rfl, rfl⟩
