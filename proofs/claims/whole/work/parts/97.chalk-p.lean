def mk2 (mv s m : Nat) : Nat := if bt mv s = 1 then 0 else m
/-- no fine from slot s on, by that mark -/
def okF (rd mv lim : Nat) : Nat → Nat → Nat → Prop
  | 0, _, _ => True
  | k + 1, s, m => if bt rd s = 1 then (if mk2 mv s m = 0 then okF rd mv lim k (s + 1) (s + 1) else s + 1 - mk2 mv s m < lim ∧ okF rd mv lim k (s + 1) (mk2 mv s m)) else okF rd mv lim k (s + 1) (mk2 mv s m)
theorem ck_1 (rd mv lim s : Nat) : (ck rd mv lim s).2 ≤ (ck rd mv lim (s + 1)).2 := by
  show _ ≤ (cst rd mv lim s _).2
  unfold cst
  repeat' split
  all_goals first | exact Nat.le_refl _ | exact Nat.le_succ _
theorem ck_mo (rd mv lim s : Nat) : ∀ k, (ck rd mv lim s).2 ≤ (ck rd mv lim (s + k)).2
  | 0 => Nat.le_refl _
  | k + 1 => Nat.le_trans (ck_mo rd mv lim s k) (ck_1 rd mv lim (s + k))
theorem okF_ck (rd mv lim : Nat) : ∀ k s, okF rd mv lim k s (ck rd mv lim s).1 ↔ (ck rd mv lim (s + k)).2 = (ck rd mv lim s).2
  | 0, s => ⟨fun _ => rfl, fun _ => trivial⟩
  | k + 1, s => by
    have ih := okF_ck rd mv lim k (s + 1)
    have e : ck rd mv lim (s + 1) = cst rd mv lim s (ck rd mv lim s) := rfl
    have hm := ck_mo rd mv lim (s + 1) k
    rw [show s + (k + 1) = s + 1 + k by omega]
    show (if bt rd s = 1 then (if mk2 mv s _ = 0 then okF rd mv lim k (s + 1) (s + 1) else s + 1 - mk2 mv s _ < lim ∧ okF rd mv lim k (s + 1) (mk2 mv s _)) else okF rd mv lim k (s + 1) (mk2 mv s _)) ↔ _
    unfold cst at e
    change _ = (if bt rd s = 1 then (if mk2 mv s (ck rd mv lim s).1 = 0 then (s + 1, (ck rd mv lim s).2) else if lim ≤ s + 1 - mk2 mv s (ck rd mv lim s).1 then (s + 1, (ck rd mv lim s).2 + 1) else (mk2 mv s (ck rd mv lim s).1, (ck rd mv lim s).2)) else (mk2 mv s (ck rd mv lim s).1, (ck rd mv lim s).2)) at e
    by_cases c1 : bt rd s = 1
    · rw [if_pos c1] at e ⊢
      by_cases c2 : mk2 mv s (ck rd mv lim s).1 = 0
      · rw [if_pos c2] at e ⊢
        rw [e] at ih; exact ih
      · rw [if_neg c2] at e ⊢
        by_cases c3 : lim ≤ s + 1 - mk2 mv s (ck rd mv lim s).1
        · rw [if_pos c3] at e
          rw [e] at hm
          exact ⟨fun z => absurd z.1 (by omega), fun z => by have : (ck rd mv lim s).2 + 1 ≤ (ck rd mv lim (s + 1 + k)).2 := hm; omega⟩
        · rw [if_neg c3] at e
          rw [e] at ih
          exact ⟨fun z => ih.1 z.2, fun z => ⟨by omega, ih.2 z⟩⟩
    · rw [if_neg c1] at e ⊢
      rw [e] at ih; exact ih
def kyF (mv : Nat) : Nat → Nat → Nat
  | 0, _ => 0
  | k + 1, s => kyF mv k (s + 1) + bt mv s * (4096 + 2 ^ s)
theorem kyF_add (mv : Nat) : ∀ a b s, kyF mv (a + b) s = kyF mv a s + kyF mv b (s + a)
  | 0, b, s => by show kyF mv (0 + b) s = 0 + _; rw [Nat.zero_add, Nat.zero_add, Nat.add_zero]
  | a + 1, b, s => by
    rw [show a + 1 + b = (a + b) + 1 by omega]
    show kyF mv (a + b) (s + 1) + _ = kyF mv a (s + 1) + _ + _
    rw [kyF_add mv a b (s + 1), show s + 1 + a = s + (a + 1) by omega]; omega
theorem kyF_0 {mv : Nat} : ∀ a s, (∀ k, s ≤ k → k < s + a → bt mv k = 0) → kyF mv a s = 0
  | 0, _, _ => rfl
  | a + 1, s, h => by
    show kyF mv a (s + 1) + bt mv s * _ = 0
    rw [kyF_0 a (s + 1) (fun k h1 h2 => h k (by omega) (by omega)), h s (by omega) (by omega), Nat.zero_mul]
theorem kyF_1 {mv q : Nat} (hq : bt mv q = 1) : ∀ a s, s ≤ q → q < s + a → 4096 + 2 ^ s ≤ kyF mv a s
  | 0, s, h1, h2 => by omega
  | a + 1, s, h1, h2 => by
    show _ ≤ kyF mv a (s + 1) + bt mv s * _
    by_cases e : q = s
    · subst e; rw [hq, Nat.one_mul]; omega
    · have := kyF_1 hq a (s + 1) (by omega) (by omega)
      have h4 : 2 ^ s ≤ 2 ^ (s + 1) := Nat.pow_le_pow_right (by decide) (by omega)
      omega
theorem kyF_c {mv m2 : Nat} : ∀ a s, (∀ k, s ≤ k → k < s + a → bt mv k = bt m2 k) → kyF mv a s = kyF m2 a s
  | 0, _, _ => rfl
  | a + 1, s, h => by
    show kyF mv a (s + 1) + bt mv s * _ = kyF m2 a (s + 1) + bt m2 s * _
    rw [kyF_c a (s + 1) (fun k h1 h2 => h k (by omega) (by omega)), h s (by omega) (by omega)]
theorem kyF_v (x : Nat) : ∀ k s, kyF x k s + 4096 * on12 x s + x % 2 ^ s = 4096 * on12 x (s + k) + x % 2 ^ (s + k)
  | 0, s => by show 0 + _ + _ = _; rw [Nat.zero_add]; rfl
  | k + 1, s => by
    have ih := kyF_v x k (s + 1)
    have e1 : on12 x (s + 1) = on12 x s + bt x s := rfl
    have e2 : x % 2 ^ (s + 1) = x % 2 ^ s + 2 ^ s * bt x s := Nat.mod_pow_succ
    rw [show s + (k + 1) = s + 1 + k by omega, ← ih, e1, e2]
    show kyF x k (s + 1) + bt x s * (4096 + 2 ^ s) + _ + _ = _
    rw [Nat.mul_add, Nat.mul_add, Nat.mul_comm (bt x s) 4096, Nat.mul_comm (bt x s) (2 ^ s)]; omega
def keyC (x : Nat) : Nat := 4096 * on12 x 12 + x
theorem kyF_all {x : Nat} (h : x < 4096) : kyF x 12 0 = keyC x := by
  have := kyF_v x 12 0
  rw [show 0 + 12 = 12 from rfl, Nat.mod_eq_of_lt (show x < 2 ^ 12 from h), Nat.pow_zero, Nat.mod_one] at this
  have e : on12 x 0 = 0 := rfl
  rw [e] at this
  unfold keyC; omega
theorem bt_or {a j k : Nat} (h : bt a j = 0) : bt (a ||| 2 ^ j) k = if k = j then 1 else bt a k := by
  have hb : ∀ m i, bt m i = if m.testBit i = true then 1 else 0 := fun m i => by
    rw [Nat.testBit_eq_decide_div_mod_eq]
    have := bt_lt m i
    unfold bt at this ⊢
    by_cases e : m / 2 ^ i % 2 = 1
    · rw [if_pos (decide_eq_true e), e]
    · rw [if_neg (by simpa using e)]; omega
  rw [hb, hb a k, Nat.testBit_or, Nat.testBit_two_pow]
  by_cases e : k = j
  · subst e; rw [if_pos rfl, decide_eq_true (rfl), Bool.or_true]; rfl
  · rw [if_neg e, decide_eq_false (fun z => e z.symm), Bool.or_false]
theorem or_lt {a j : Nat} (ha : a < 4096) (hj : j < 12) : a ||| 2 ^ j < 4096 :=
  Nat.or_lt_two_pow (n := 12) ha (Nat.pow_lt_pow_right (by decide) hj)
/-- a mark that stays -/
theorem okF_st {rd mv lim m : Nat} (hm : 0 < m) : ∀ a b s, (∀ k, s ≤ k → k < s + a → bt mv k = 0) → (∀ k, s ≤ k → k < s + a → bt rd k = 1 → k + 1 - m < lim) → (okF rd mv lim (a + b) s m ↔ okF rd mv lim b (s + a) m)
  | 0, b, s, _, _ => by rw [Nat.zero_add]; exact Iff.rfl
  | a + 1, b, s, h1, h2 => by
    rw [show a + 1 + b = (a + b) + 1 by omega]
    have e : mk2 mv s m = m := if_neg (by rw [h1 s (by omega) (by omega)]; decide)
    have ih := okF_st hm a b (s + 1) (fun k x y => h1 k (by omega) (by omega)) (fun k x y => h2 k (by omega) (by omega))
    rw [show s + 1 + a = s + (a + 1) by omega] at ih
    show (if bt rd s = 1 then (if mk2 mv s m = 0 then _ else _) else okF rd mv lim (a + b) (s + 1) (mk2 mv s m)) ↔ _
    rw [e]
    by_cases c : bt rd s = 1
    · rw [if_pos c, if_neg (by omega)]
      exact ⟨fun z => ih.1 z.2, fun z => ⟨h2 s (by omega) (by omega) c, ih.2 z⟩⟩
    · rw [if_neg c]; exact ih
theorem okF_no {rd mv lim : Nat} : ∀ a b s, (∀ k, s ≤ k → k < s + a → bt rd k ≠ 1) → bt rd (s + a) = 1 → (okF rd mv lim (a + 1 + b) s 0 ↔ okF rd mv lim b (s + a + 1) (s + a + 1))
  | 0, b, s, _, h => by
    have h : bt rd s = 1 := h
    rw [show 0 + 1 + b = b + 1 by omega]
    have e : mk2 mv s 0 = 0 := by unfold mk2; split <;> rfl
    show (if bt rd s = 1 then (if mk2 mv s 0 = 0 then okF rd mv lim b (s + 1) (s + 1) else _) else _) ↔ _
    rw [if_pos h, if_pos e]
  | a + 1, b, s, h1, h => by
    rw [show a + 1 + 1 + b = (a + 1 + b) + 1 by omega]
    have e : mk2 mv s 0 = 0 := by unfold mk2; split <;> rfl
    have ih := okF_no (mv := mv) (lim := lim) a b (s + 1) (fun k x y => h1 k (by omega) (by omega)) (by rw [show s + 1 + a = s + (a + 1) by omega]; exact h)
    rw [show s + 1 + a = s + (a + 1) by omega] at ih
    show (if bt rd s = 1 then _ else okF rd mv lim (a + 1 + b) (s + 1) (mk2 mv s 0)) ↔ _
    rw [if_neg (h1 s (by omega) (by omega)), e]; exact ih
theorem okF_nw {rd mv lim m q : Nat} (hq : bt mv q = 1) : ∀ a b s, s ≤ q → q ≤ s + a → (∀ k, s ≤ k → k < s + a → bt rd k ≠ 1) → bt rd (s + a) = 1 → (okF rd mv lim (a + 1 + b) s m ↔ okF rd mv lim b (s + a + 1) (s + a + 1))
  | 0, b, s, x1, x2, _, h => by
    obtain rfl : q = s := by omega
    have h : bt rd q = 1 := h
    rw [show 0 + 1 + b = b + 1 by omega]
    have e : mk2 mv q m = 0 := if_pos hq
    show (if bt rd q = 1 then (if mk2 mv q m = 0 then okF rd mv lim b (q + 1) (q + 1) else _) else _) ↔ _
    rw [if_pos h, if_pos e]
  | a + 1, b, s, x1, x2, h1, h => by
    rw [show a + 1 + 1 + b = (a + 1 + b) + 1 by omega]
    show (if bt rd s = 1 then _ else okF rd mv lim (a + 1 + b) (s + 1) (mk2 mv s m)) ↔ _
    rw [if_neg (h1 s (by omega) (by omega))]
    have h3 : ∀ k, s + 1 ≤ k → k < s + 1 + a → bt rd k ≠ 1 := fun k x y => h1 k (by omega) (by omega)
    have h4 : bt rd (s + 1 + a) = 1 := by rw [show s + 1 + a = s + (a + 1) by omega]; exact h
    by_cases c : bt mv s = 1
    · have e : mk2 mv s m = 0 := if_pos c
      rw [e, okF_no a b (s + 1) h3 h4, show s + 1 + a = s + (a + 1) by omega]
    · have e : mk2 mv s m = m := if_neg c
      have hne : q ≠ s := fun z => c (by rw [← z]; exact hq)
      rw [e, okF_nw hq a b (s + 1) (by omega) (by omega) h3 h4, show s + 1 + a = s + (a + 1) by omega]
/-- moves that will do behind a mark -/
def acH (rd lim mark F : Nat) : Prop := (∀ k, k ≤ mark → bt F k = 0) ∧ F < 4096 ∧ ∀ M, (∀ k, mark < k → k < 12 → bt M k = bt F k) → okF rd M lim (11 - mark) (mark + 1) (mark + 1)
/-- the best of them -/
def goD (rd lim mark F : Nat) : Prop := acH rd lim mark F ∧ ∀ M, okF rd M lim (11 - mark) (mark + 1) (mark + 1) → kyF F (11 - mark) (mark + 1) ≤ kyF M (11 - mark) (mark + 1)
theorem acH_key {rd lim mark F : Nat} (hm : mark < 12) (h : acH rd lim mark F) : kyF F (11 - mark) (mark + 1) = keyC F := by
  have e := kyF_add F (mark + 1) (11 - mark) 0
  rw [kyF_0 (mark + 1) 0 (fun k _ h2 => h.1 k (by omega)), Nat.zero_add, Nat.zero_add, show mark + 1 + (11 - mark) = 12 by omega, kyF_all h.2.1] at e
  exact e.symm
def pkB (c : Nat) : Option Nat → Nat
  | none => c
  | some b => if keyC c < keyC b then c else b
theorem pkB_c (c : Nat) : ∀ b, keyC (pkB c b) ≤ keyC c
  | none => Nat.le_refl _
  | some b => by
    by_cases h : keyC c < keyC b
    · rw [show pkB c (some b) = c from if_pos h]; exact Nat.le_refl _
    · rw [show pkB c (some b) = b from if_neg h]; exact Nat.le_of_not_lt h
theorem pkB_s (c b : Nat) : keyC (pkB c (some b)) ≤ keyC b := by
  by_cases h : keyC c < keyC b
  · rw [show pkB c (some b) = c from if_pos h]; exact Nat.le_of_lt h
  · rw [show pkB c (some b) = b from if_neg h]; exact Nat.le_refl _
theorem pkB_or (c : Nat) : ∀ b, pkB c b = c ∨ b = some (pkB c b)
  | none => Or.inl rfl
  | some b => by
    by_cases h : keyC c < keyC b
    · exact Or.inl (if_pos h)
    · exact Or.inr (congrArg some (show b = pkB c (some b) from (if_neg h).symm))
def mvB (rd lim : Nat) (f : Nat → Nat) (mark : Nat) : Nat → Nat → Nat → Option Nat → Nat
  | 0, _, _, _ => 0
  | k + 1, nx, ah, b => if bt rd nx = 1 then (if lim ≤ nx - mark then pkB (f nx ||| 2 ^ (ah + 1)) b else mvB rd lim f mark k (nx + 1) nx (some (pkB (f nx ||| 2 ^ (ah + 1)) b))) else mvB rd lim f mark k (nx + 1) ah b
theorem okF_to {rd lim mark nx ah M : Nat} (h1 : mark ≤ ah) (h2 : ah < nx) (h3 : nx < 12) (hr : bt rd nx = 1) (hn : ∀ r, ah < r → r < nx → bt rd r ≠ 1) (hl : ∀ r, mark < r → r < nx → bt rd r = 1 → r - mark < lim) (h0 : ∀ k, mark < k → k ≤ ah → bt M k = 0) {q : Nat} (hq : bt M q = 1) (q1 : ah < q) (q2 : q ≤ nx) : okF rd M lim (11 - mark) (mark + 1) (mark + 1) ↔ okF rd M lim (11 - nx) (nx + 1) (nx + 1) := by
  have e1 := okF_st (rd := rd) (mv := M) (lim := lim) (m := mark + 1) (by omega) (ah - mark) (11 - ah) (mark + 1) (fun k x y => h0 k (by omega) (by omega)) (fun k x y z => by have := hl k (by omega) (by omega) z; omega)
  have e2 := okF_nw (rd := rd) (lim := lim) (m := mark + 1) hq (nx - (ah + 1)) (11 - nx) (ah + 1) (by omega) (by omega) (fun k x y => hn k (by omega) (by omega)) (by rw [show ah + 1 + (nx - (ah + 1)) = nx by omega]; exact hr)
  rw [show ah - mark + (11 - ah) = 11 - mark by omega, show mark + 1 + (ah - mark) = ah + 1 by omega] at e1
  rw [show nx - (ah + 1) + 1 + (11 - nx) = 11 - ah by omega, show ah + 1 + (nx - (ah + 1)) + 1 = nx + 1 by omega] at e2
  exact e1.trans e2
theorem mvB_ok {rd lim mark : Nat} {f : Nat → Nat} (hf : ∀ r, mark < r → r < 12 → bt rd r = 1 → goD rd lim r (f r)) : ∀ k nx ah b, nx + k = 12 → mark ≤ ah → ah < nx → (∀ r, ah < r → r < nx → bt rd r ≠ 1) → (∀ r, mark < r → r < nx → bt rd r = 1 → r - mark < lim) →
    (∀ x, b = some x → acH rd lim mark x) → (∀ M, okF rd M lim (11 - mark) (mark + 1) (mark + 1) → (∃ j, mark < j ∧ j ≤ ah ∧ bt M j = 1) → ∃ x, b = some x ∧ keyC x ≤ kyF M (11 - mark) (mark + 1)) → goD rd lim mark (mvB rd lim f mark k nx ah b)
  | 0, nx, ah, b, hk, h1, h2, hn, hl, hb, hv => by
    have hz : ∀ k, bt 0 k = 0 := fun k => by unfold bt; rw [Nat.zero_div]
    refine ⟨⟨fun k _ => hz k, by show 0 < 4096; decide, fun M hM => ?_⟩, fun M _ => ?_⟩
    · have e := okF_st (rd := rd) (mv := M) (lim := lim) (m := mark + 1) (by omega) (11 - mark) 0 (mark + 1) (fun k x y => (hM k (by omega) (by omega)).trans (hz k)) (fun k x y z => by have := hl k (by omega) (by omega) z; omega)
      exact e.2 trivial
    · rw [show kyF (mvB rd lim f mark 0 nx ah b) (11 - mark) (mark + 1) = 0 from kyF_0 _ _ (fun k _ _ => hz k)]; exact Nat.zero_le _
  | k + 1, nx, ah, b, hk, h1, h2, hn, hl, hb, hv => by
    show goD rd lim mark (if bt rd nx = 1 then _ else _)
    by_cases c : bt rd nx = 1
    · rw [if_pos c]
      obtain ⟨⟨g1, g2, g3⟩, g4⟩ := hf nx (by omega) (by omega) c
      have hor : ∀ j, bt (f nx ||| 2 ^ (ah + 1)) j = if j = ah + 1 then 1 else bt (f nx) j := fun j => bt_or (g1 (ah + 1) (by omega))
      have hc : acH rd lim mark (f nx ||| 2 ^ (ah + 1)) := by
        refine ⟨fun j hj => by rw [hor, if_neg (by omega)]; exact g1 j (by omega), or_lt g2 (by omega), fun M hM => ?_⟩
        refine (okF_to h1 h2 (by omega) c hn hl (fun j x y => by rw [hM j x (by omega), hor, if_neg (by omega)]; exact g1 j (by omega)) (q := ah + 1) (by rw [hM (ah + 1) (by omega) (by omega), hor, if_pos rfl]) (by omega) (by omega)).2 ?_
        exact g3 M (fun j x y => by rw [hM j (by omega) y, hor, if_neg (by omega)])
      have hkc : keyC (f nx ||| 2 ^ (ah + 1)) = 4096 + 2 ^ (ah + 1) + kyF (f nx) (11 - nx) (nx + 1) := by
        rw [← acH_key (by omega) hc, show 11 - mark = ah - mark + ((nx - ah) + (11 - nx)) by omega, kyF_add, kyF_add, kyF_0 (ah - mark) (mark + 1) (fun j x y => by rw [hor, if_neg (by omega)]; exact g1 j (by omega)), show mark + 1 + (ah - mark) = ah + 1 by omega, show ah + 1 + (nx - ah) = nx + 1 by omega]
        rw [kyF_c (mv := f nx ||| 2 ^ (ah + 1)) (m2 := f nx) (11 - nx) (nx + 1) (fun j x y => by rw [hor, if_neg (by omega)])]
        rw [show nx - ah = (nx - ah - 1) + 1 by omega]
        show 0 + (kyF _ (nx - ah - 1) (ah + 1 + 1) + bt _ (ah + 1) * _ + _) = _
        rw [kyF_0 (nx - ah - 1) (ah + 1 + 1) (fun j x y => by rw [hor, if_neg (by omega)]; exact g1 j (by omega)), hor, if_pos rfl]; omega
      have hp1 : acH rd lim mark (pkB (f nx ||| 2 ^ (ah + 1)) b) := by
        rcases pkB_or (f nx ||| 2 ^ (ah + 1)) b with e | e
        · rw [e]; exact hc
        · exact hb _ e
      have hp2 : ∀ M, okF rd M lim (11 - mark) (mark + 1) (mark + 1) → (∃ j, mark < j ∧ j ≤ nx ∧ bt M j = 1) → keyC (pkB (f nx ||| 2 ^ (ah + 1)) b) ≤ kyF M (11 - mark) (mark + 1) := fun M hM hj => by
        by_cases hj2 : ∃ j, mark < j ∧ j ≤ ah ∧ bt M j = 1
        · obtain ⟨x, hx, hx2⟩ := hv M hM hj2
          rw [hx]
          exact Nat.le_trans (pkB_s _ x) hx2
        · obtain ⟨j, j1, j2, j3⟩ := hj
          have h0 : ∀ i, mark < i → i ≤ ah → bt M i = 0 := fun i x y => by
            have := bt_lt M i
            have h5 : bt M i ≠ 1 := fun z => hj2 ⟨i, x, y, z⟩
            omega
          have j4 : ah < j := by
            by_cases z : ah < j
            · exact z
            · exact absurd ⟨j, j1, by omega, j3⟩ hj2
          have h6 := g4 M ((okF_to h1 h2 (by omega) c hn hl h0 j3 j4 j2).1 hM)
          have h7 : keyC (f nx ||| 2 ^ (ah + 1)) ≤ kyF M (11 - mark) (mark + 1) := by
            rw [hkc, show 11 - mark = ah - mark + ((nx - ah) + (11 - nx)) by omega, kyF_add, kyF_add, show mark + 1 + (ah - mark) = ah + 1 by omega, show ah + 1 + (nx - ah) = nx + 1 by omega]
            have h8 := kyF_1 j3 (nx - ah) (ah + 1) (by omega) (by omega)
            omega
          exact Nat.le_trans (pkB_c _ b) h7
      by_cases c2 : lim ≤ nx - mark
      · rw [if_pos c2]
        refine ⟨hp1, fun M hM => ?_⟩
        rw [acH_key (by omega) hp1]
        refine hp2 M hM ?_
        by_cases hj : ∃ j, mark < j ∧ j ≤ nx ∧ bt M j = 1
        · exact hj
        · exfalso
          have h0 : ∀ i, mark < i → i ≤ nx → bt M i = 0 := fun i x y => by
            have := bt_lt M i
            have h5 : bt M i ≠ 1 := fun z => hj ⟨i, x, y, z⟩
            omega
          have e1 := okF_st (rd := rd) (mv := M) (lim := lim) (m := mark + 1) (by omega) (nx - (mark + 1)) (11 - nx + 1) (mark + 1) (fun k x y => h0 k (by omega) (by omega)) (fun k x y z => by have := hl k (by omega) (by omega) z; omega)
          rw [show nx - (mark + 1) + (11 - nx + 1) = 11 - mark by omega, show mark + 1 + (nx - (mark + 1)) = nx by omega] at e1
          have e2 := e1.1 hM
          change (if bt rd nx = 1 then (if mk2 M nx (mark + 1) = 0 then _ else nx + 1 - mk2 M nx (mark + 1) < lim ∧ _) else _) at e2
          have e3 : mk2 M nx (mark + 1) = mark + 1 := if_neg (by rw [h0 nx (by omega) (by omega)]; decide)
          rw [if_pos c, e3, if_neg (by omega)] at e2
          have := e2.1
          omega
      · rw [if_neg c2]
        refine mvB_ok hf k (nx + 1) nx _ (by omega) (by omega) (by omega) (fun r x y => absurd x (by omega)) (fun r x y z => ?_) (fun x hx => by cases hx; exact hp1) (fun M hM hj => ⟨_, rfl, hp2 M hM hj⟩)
        by_cases e : r = nx
        · subst e; omega
        · exact hl r x (by omega) z
    · rw [if_neg c]
      refine mvB_ok hf k (nx + 1) ah b (by omega) h1 (by omega) (fun r x y => ?_) (fun r x y z => ?_) hb hv
      · by_cases e : r = nx
        · subst e; exact c
        · exact hn r x (by omega)
      · by_cases e : r = nx
        · subst e; exact absurd z c
        · exact hl r x (by omega) z
theorem mvB_go {rd lim mark : Nat} {f : Nat → Nat} (hm : mark < 12) (hf : ∀ r, mark < r → r < 12 → bt rd r = 1 → goD rd lim r (f r)) : goD rd lim mark (mvB rd lim f mark (11 - mark) (mark + 1) mark none) :=
  mvB_ok hf (11 - mark) (mark + 1) mark none (by omega) (Nat.le_refl _) (by omega) (fun r x y => absurd x (by omega)) (fun r x y => absurd x (by omega)) (fun x hx => by cases hx) (fun M _ hj => by obtain ⟨j, a, b, _⟩ := hj; omega)
/-- the least key is what the brute force finds -/
theorem cb_is {rd lim F : Nat} (hF : F < 4096) (h1 : (ck rd F lim 12).2 = 0) (h2 : ∀ M, M < 4096 → (ck rd M lim 12).2 = 0 → keyC F ≤ keyC M) : cb rd lim 4096 = (on12 F 12, F) := by
  have hlo : ∀ s, s ≤ F → on12 F 12 < (cb rd lim s).1 := fun s => by
    induction s with
    | zero => intro _; have := on12_le F 12; show _ < 13; omega
    | succ s ih =>
      intro hs
      show _ < (if on12 s 12 < (cb rd lim s).1 ∧ (ck rd s lim 12).2 = 0 then (on12 s 12, s) else cb rd lim s : Nat × Nat).1
      split
      · next c =>
        have := h2 s (by omega) c.2
        unfold keyC at this
        show on12 F 12 < on12 s 12
        omega
      · exact ih (by omega)
  have hhi : ∀ k, F + 1 + k ≤ 4096 → cb rd lim (F + 1 + k) = (on12 F 12, F) := fun k => by
    induction k with
    | zero => intro _; exact if_pos ⟨hlo F (Nat.le_refl _), h1⟩
    | succ k ih =>
      intro hk
      have e := ih (by omega)
      show (if on12 (F + 1 + k) 12 < (cb rd lim (F + 1 + k)).1 ∧ (ck rd (F + 1 + k) lim 12).2 = 0 then _ else cb rd lim (F + 1 + k) : Nat × Nat) = _
      rw [e, if_neg]
      intro c
      have c1 : on12 (F + 1 + k) 12 < on12 F 12 := c.1
      have := h2 (F + 1 + k) (by omega) c.2
      unfold keyC at this
      omega
  have := hhi (4095 - F) (by omega)
  rwa [show F + 1 + (4095 - F) = 4096 by omega] at this
theorem cb_go {rd lim r F : Nat} (hr : r < 12) (hrd : bt rd r = 1) (hn : ∀ k, k < r → bt rd k ≠ 1) (h : goD rd lim r F) : cb rd lim 4096 = (on12 F 12, F) := by
  have hall : ∀ M, (ck rd M lim 12).2 = 0 ↔ okF rd M lim (11 - r) (r + 1) (r + 1) := fun M => by
    have e1 := okF_ck rd M lim 12 0
    have e2 := okF_no (rd := rd) (mv := M) (lim := lim) r (11 - r) 0 (fun k _ y => hn k (by omega)) (by rw [Nat.zero_add]; exact hrd)
    rw [show r + 1 + (11 - r) = 12 by omega, Nat.zero_add] at e2
    exact (e1.symm.trans e2 : (ck rd M lim (0 + 12)).2 = 0 ↔ _)
  refine cb_is h.1.2.1 ((hall F).2 (h.1.2.2 F (fun _ _ _ => rfl))) (fun M hM hM2 => ?_)
  have h3 := h.2 M ((hall M).1 hM2)
  rw [acH_key hr h.1] at h3
  have e := kyF_add M (r + 1) (11 - r) 0
  rw [Nat.zero_add, show r + 1 + (11 - r) = 12 by omega, kyF_all hM] at e
  omega
theorem cb_no {rd lim : Nat} (hn : ∀ k, k < 12 → bt rd k ≠ 1) : cb rd lim 4096 = (on12 0 12, 0) := by
  have hno : ∀ M k s m, s + k ≤ 12 → okF rd M lim k s m := fun M k => by
    induction k with
    | zero => intro s m _; trivial
    | succ k ih =>
      intro s m hs
      show (if bt rd s = 1 then _ else okF rd M lim k (s + 1) (mk2 M s m))
      rw [if_neg (hn s (by omega))]; exact ih _ _ (by omega)
  refine cb_is (by decide) ((okF_ck rd 0 lim 12 0).1 (hno 0 12 0 _ (by omega))) (fun M _ _ => ?_)
  have : keyC 0 = 0 := by decide
  omega
