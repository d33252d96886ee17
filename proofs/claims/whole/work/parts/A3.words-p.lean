theorem wwI_s {tp : Nat → Nat} {f m : Nat} (h : m < 10) : wwI tp f (m + 1) = wwI tp f m * 32 + tp (f + m) - 96 := if_pos h
theorem wwI_b {tp : Nat → Nat} {f m : Nat} (h : 10 ≤ m) : wwI tp f (m + 1) = -1 := if_neg (by omega)
theorem wwI_inj {tp tq : Nat → Nat} {f g : Nat} : ∀ n m, n ≤ 10 → (∀ q, q < m → isL (tp (f + q))) → (∀ q, q < n → isL (tq (g + q))) → (wwI tp f m = wwI tq g n ↔ m = n ∧ ∀ q, q < n → tq (g + q) = tp (f + q))
  | 0, 0, _, _, _ => ⟨fun _ => ⟨rfl, fun q h => by omega⟩, fun _ => rfl⟩
  | 0, m + 1, _, h1, _ => by
    refine ⟨fun z => ?_, fun z => by omega⟩
    exfalso
    have e0 : wwI tq g 0 = 0 := rfl
    rw [e0] at z
    by_cases hm : m < 10
    · have h3 := (wwI_le tp f m (fun q hq => h1 q (by omega))).2.2 (by omega)
      have h4 := h1 m (by omega)
      rw [wwI_s hm] at z
      omega
    · rw [wwI_b (by omega)] at z; omega
  | n + 1, 0, hn, _, h2 => by
    refine ⟨fun z => ?_, fun z => by omega⟩
    exfalso
    have e0 : wwI tp f 0 = 0 := rfl
    have h3 := (wwI_le tq g n (fun q hq => h2 q (by omega))).2.2 (by omega)
    have h4 := h2 n (by omega)
    rw [e0, wwI_s (by omega)] at z
    omega
  | n + 1, m + 1, hn, h1, h2 => by
    have h3 := (wwI_le tq g n (fun q hq => h2 q (by omega))).2.2 (by omega)
    have h4 := h2 n (by omega)
    rw [wwI_s (tp := tq) (by omega)]
    by_cases hm : m < 10
    · have h5 := (wwI_le tp f m (fun q hq => h1 q (by omega))).2.2 (by omega)
      have h6 := h1 m (by omega)
      have ih := wwI_inj (tp := tp) (tq := tq) (f := f) (g := g) n m (by omega) (fun q hq => h1 q (by omega)) (fun q hq => h2 q (by omega))
      rw [wwI_s hm]
      refine ⟨fun z => ?_, fun z => ?_⟩
      · obtain ⟨e1, e2⟩ := ih.1 (by omega)
        subst e1
        refine ⟨rfl, fun q hq => ?_⟩
        by_cases e : q = m
        · subst e; omega
        · exact e2 q (by omega)
      · obtain ⟨e1, e2⟩ := z
        have e3 : m = n := by omega
        subst e3
        rw [ih.2 ⟨rfl, fun q hq => e2 q (by omega)⟩, e2 m (by omega)]
    · rw [wwI_b (by omega)]
      exact ⟨fun z => by omega, fun z => by omega⟩
theorem parB_iff {tp : Nat → Nat} {t f i a b : Nat} (hk : kd tp t f = 1) (hl : ∀ q, q < b - a → isL (scH i (a + q))) (h10 : b - a ≤ 10) : parB tp f (tE tp t f) i a b = true ↔ wwI tp f (tE tp t f - f) = wwI (scH i) a (b - a) := by
  rw [wwI_inj (b - a) (tE tp t f - f) h10 (ww_all hk) hl]
  unfold parB
  rw [Bool.and_eq_true, decide_eq_true_eq, eqB_all]
  exact ⟨fun z => ⟨z.1.symm, z.2⟩, fun z => ⟨z.1.symm, z.2⟩⟩
theorem wls_0 : wls 0 (scN 0 + 1) 0 0 = [(0, 5), (6, 11), (12, 18)] := by decide +kernel
theorem par_0_0 {tp : Nat → Nat} {t f : Nat} (hk : kd tp t f = 1) : parB tp f (tE tp t f) 0 0 5 = true ↔ wwI tp f (tE tp t f - f) = (3650739 : Int) := by
  rw [parB_iff hk (by decide +kernel) (by decide), show wwI (scH 0) 0 (5 - 0) = (3650739 : Int) by decide +kernel]
theorem par_0_1 {tp : Nat → Nat} {t f : Nat} (hk : kd tp t f = 1) : parB tp f (tE tp t f) 0 6 11 = true ↔ wwI tp f (tE tp t f - f) = (6600883 : Int) := by
  rw [parB_iff hk (by decide +kernel) (by decide), show wwI (scH 0) 6 (11 - 6) = (6600883 : Int) by decide +kernel]
theorem par_0_2 {tp : Nat → Nat} {t f : Nat} (hk : kd tp t f = 1) : parB tp f (tE tp t f) 0 12 18 = true ↔ wwI tp f (tE tp t f - f) = (654362803 : Int) := by
  rw [parB_iff hk (by decide +kernel) (by decide), show wwI (scH 0) 12 (18 - 12) = (654362803 : Int) by decide +kernel]
theorem wrd_0 {tp : Nat → Nat} {t f : Nat} : wrd tp t f 0 = if iw tp t f 3650739 then some 0 else if iw tp t f 6600883 then some 1 else if iw tp t f 654362803 then some 2 else none := by
  unfold wrd iw
  by_cases hk : kd tp t f = 1
  · rw [if_pos hk, wls_0]
    simp only [fsT, par_0_0 hk, par_0_1 hk, par_0_2 hk]
    repeat' split
    all_goals first | rfl | omega
  · rw [if_neg hk]
    repeat' split
    all_goals first | rfl | omega
theorem wls_1 : wls 1 (scN 1 + 1) 0 0 = [(0, 5)] := by decide +kernel
theorem par_1_0 {tp : Nat → Nat} {t f : Nat} (hk : kd tp t f = 1) : parB tp f (tE tp t f) 1 0 5 = true ↔ wwI tp f (tE tp t f - f) = (21252599 : Int) := by
  rw [parB_iff hk (by decide +kernel) (by decide), show wwI (scH 1) 0 (5 - 0) = (21252599 : Int) by decide +kernel]
theorem wrd_1 {tp : Nat → Nat} {t f : Nat} : wrd tp t f 1 = if iw tp t f 21252599 then some 0 else none := by
  unfold wrd iw
  by_cases hk : kd tp t f = 1
  · rw [if_pos hk, wls_1]
    simp only [fsT, par_1_0 hk]
    repeat' split
    all_goals first | rfl | omega
  · rw [if_neg hk]
    repeat' split
    all_goals first | rfl | omega
theorem wls_2 : wls 2 (scN 2 + 1) 0 0 = [(0, 3)] := by decide +kernel
theorem par_2_0 {tp : Nat → Nat} {t f : Nat} (hk : kd tp t f = 1) : parB tp f (tE tp t f) 2 0 3 = true ↔ wwI tp f (tE tp t f - f) = (14836 : Int) := by
  rw [parB_iff hk (by decide +kernel) (by decide), show wwI (scH 2) 0 (3 - 0) = (14836 : Int) by decide +kernel]
theorem wrd_2 {tp : Nat → Nat} {t f : Nat} : wrd tp t f 2 = if iw tp t f 14836 then some 0 else none := by
  unfold wrd iw
  by_cases hk : kd tp t f = 1
  · rw [if_pos hk, wls_2]
    simp only [fsT, par_2_0 hk]
    repeat' split
    all_goals first | rfl | omega
  · rw [if_neg hk]
    repeat' split
    all_goals first | rfl | omega
theorem wls_3 : wls 3 (scN 3 + 1) 0 0 = [(0, 3)] := by decide +kernel
theorem par_3_0 {tp : Nat → Nat} {t f : Nat} (hk : kd tp t f = 1) : parB tp f (tE tp t f) 3 0 3 = true ↔ wwI tp f (tE tp t f - f) = (1476 : Int) := by
  rw [parB_iff hk (by decide +kernel) (by decide), show wwI (scH 3) 0 (3 - 0) = (1476 : Int) by decide +kernel]
theorem wrd_3 {tp : Nat → Nat} {t f : Nat} : wrd tp t f 3 = if iw tp t f 1476 then some 0 else none := by
  unfold wrd iw
  by_cases hk : kd tp t f = 1
  · rw [if_pos hk, wls_3]
    simp only [fsT, par_3_0 hk]
    repeat' split
    all_goals first | rfl | omega
  · rw [if_neg hk]
    repeat' split
    all_goals first | rfl | omega
theorem wls_4 : wls 4 (scN 4 + 1) 0 0 = [(0, 2)] := by decide +kernel
theorem par_4_0 {tp : Nat → Nat} {t f : Nat} (hk : kd tp t f = 1) : parB tp f (tE tp t f) 4 0 2 = true ↔ wwI tp f (tE tp t f - f) = (498 : Int) := by
  rw [parB_iff hk (by decide +kernel) (by decide), show wwI (scH 4) 0 (2 - 0) = (498 : Int) by decide +kernel]
theorem wrd_4 {tp : Nat → Nat} {t f : Nat} : wrd tp t f 4 = if iw tp t f 498 then some 0 else none := by
  unfold wrd iw
  by_cases hk : kd tp t f = 1
  · rw [if_pos hk, wls_4]
    simp only [fsT, par_4_0 hk]
    repeat' split
    all_goals first | rfl | omega
  · rw [if_neg hk]
    repeat' split
    all_goals first | rfl | omega
theorem wls_5 : wls 5 (scN 5 + 1) 0 0 = [(0, 4), (5, 10), (11, 15), (16, 23), (24, 27), (28, 32), (33, 37)] := by decide +kernel
theorem par_5_0 {tp : Nat → Nat} {t f : Nat} (hk : kd tp t f = 1) : parB tp f (tE tp t f) 5 0 4 = true ↔ wwI tp f (tE tp t f - f) = (635380 : Int) := by
  rw [parB_iff hk (by decide +kernel) (by decide), show wwI (scH 5) 0 (4 - 0) = (635380 : Int) by decide +kernel]
theorem par_5_1 {tp : Nat → Nat} {t f : Nat} (hk : kd tp t f = 1) : parB tp f (tE tp t f) 5 5 10 = true ↔ wwI tp f (tE tp t f - f) = (20232293 : Int) := by
  rw [parB_iff hk (by decide +kernel) (by decide), show wwI (scH 5) 5 (10 - 5) = (20232293 : Int) by decide +kernel]
theorem par_5_2 {tp : Nat → Nat} {t f : Nat} (hk : kd tp t f = 1) : parB tp f (tE tp t f) 5 11 15 = true ↔ wwI tp f (tE tp t f - f) = (591150 : Int) := by
  rw [parB_iff hk (by decide +kernel) (by decide), show wwI (scH 5) 11 (15 - 11) = (591150 : Int) by decide +kernel]
theorem par_5_3 {tp : Nat → Nat} {t f : Nat} (hk : kd tp t f = 1) : parB tp f (tE tp t f) 5 16 23 = true ↔ wwI tp f (tE tp t f - f) = (24748627411 : Int) := by
  rw [parB_iff hk (by decide +kernel) (by decide), show wwI (scH 5) 16 (23 - 16) = (24748627411 : Int) by decide +kernel]
theorem par_5_4 {tp : Nat → Nat} {t f : Nat} (hk : kd tp t f = 1) : parB tp f (tE tp t f) 5 24 27 = true ↔ wwI tp f (tE tp t f - f) = (3122 : Int) := by
  rw [parB_iff hk (by decide +kernel) (by decide), show wwI (scH 5) 24 (27 - 24) = (3122 : Int) by decide +kernel]
theorem par_5_5 {tp : Nat → Nat} {t f : Nat} (hk : kd tp t f = 1) : parB tp f (tE tp t f) 5 28 32 = true ↔ wwI tp f (tE tp t f - f) = (643129 : Int) := by
  rw [parB_iff hk (by decide +kernel) (by decide), show wwI (scH 5) 28 (32 - 28) = (643129 : Int) by decide +kernel]
theorem par_5_6 {tp : Nat → Nat} {t f : Nat} (hk : kd tp t f = 1) : parB tp f (tE tp t f) 5 33 37 = true ↔ wwI tp f (tE tp t f - f) = (441828 : Int) := by
  rw [parB_iff hk (by decide +kernel) (by decide), show wwI (scH 5) 33 (37 - 33) = (441828 : Int) by decide +kernel]
theorem wpa_5 {tp : Nat → Nat} {t f : Nat} : wpa tp t f true 7 = (if iw tp t f 441828 then 7 else if iw tp t f 643129 then 6 else if iw tp t f 3122 then 5 else if iw tp t f 24748627411 then 4 else if iw tp t f 591150 then 3 else if iw tp t f 20232293 then 2 else if iw tp t f 635380 then 1 else 0) := rfl
theorem wrd_5 {tp : Nat → Nat} {t f : Nat} : wrd tp t f 5 = (if wpa tp t f true 7 = 0 then none else some (wpa tp t f true 7 - 1)) := by
  rw [wpa_5]
  unfold wrd
  by_cases hk : kd tp t f = 1
  · rw [if_pos hk, wls_5]
    simp only [fsT, par_5_0 hk, par_5_1 hk, par_5_2 hk, par_5_3 hk, par_5_4 hk, par_5_5 hk, par_5_6 hk]
    by_cases h0 : wwI tp f (tE tp t f - f) = (635380 : Int)
    · rw [if_pos h0, if_neg (show ¬ iw tp t f 441828 from fun z => by have := z.2; omega), if_neg (show ¬ iw tp t f 643129 from fun z => by have := z.2; omega), if_neg (show ¬ iw tp t f 3122 from fun z => by have := z.2; omega), if_neg (show ¬ iw tp t f 24748627411 from fun z => by have := z.2; omega), if_neg (show ¬ iw tp t f 591150 from fun z => by have := z.2; omega), if_neg (show ¬ iw tp t f 20232293 from fun z => by have := z.2; omega), if_pos (show iw tp t f 635380 from ⟨hk, h0⟩)]
      rfl
    by_cases h1 : wwI tp f (tE tp t f - f) = (20232293 : Int)
    · rw [if_neg h0, if_pos h1, if_neg (show ¬ iw tp t f 441828 from fun z => by have := z.2; omega), if_neg (show ¬ iw tp t f 643129 from fun z => by have := z.2; omega), if_neg (show ¬ iw tp t f 3122 from fun z => by have := z.2; omega), if_neg (show ¬ iw tp t f 24748627411 from fun z => by have := z.2; omega), if_neg (show ¬ iw tp t f 591150 from fun z => by have := z.2; omega), if_pos (show iw tp t f 20232293 from ⟨hk, h1⟩)]
      rfl
    by_cases h2 : wwI tp f (tE tp t f - f) = (591150 : Int)
    · rw [if_neg h0, if_neg h1, if_pos h2, if_neg (show ¬ iw tp t f 441828 from fun z => by have := z.2; omega), if_neg (show ¬ iw tp t f 643129 from fun z => by have := z.2; omega), if_neg (show ¬ iw tp t f 3122 from fun z => by have := z.2; omega), if_neg (show ¬ iw tp t f 24748627411 from fun z => by have := z.2; omega), if_pos (show iw tp t f 591150 from ⟨hk, h2⟩)]
      rfl
    by_cases h3 : wwI tp f (tE tp t f - f) = (24748627411 : Int)
    · rw [if_neg h0, if_neg h1, if_neg h2, if_pos h3, if_neg (show ¬ iw tp t f 441828 from fun z => by have := z.2; omega), if_neg (show ¬ iw tp t f 643129 from fun z => by have := z.2; omega), if_neg (show ¬ iw tp t f 3122 from fun z => by have := z.2; omega), if_pos (show iw tp t f 24748627411 from ⟨hk, h3⟩)]
      rfl
    by_cases h4 : wwI tp f (tE tp t f - f) = (3122 : Int)
    · rw [if_neg h0, if_neg h1, if_neg h2, if_neg h3, if_pos h4, if_neg (show ¬ iw tp t f 441828 from fun z => by have := z.2; omega), if_neg (show ¬ iw tp t f 643129 from fun z => by have := z.2; omega), if_pos (show iw tp t f 3122 from ⟨hk, h4⟩)]
      rfl
    by_cases h5 : wwI tp f (tE tp t f - f) = (643129 : Int)
    · rw [if_neg h0, if_neg h1, if_neg h2, if_neg h3, if_neg h4, if_pos h5, if_neg (show ¬ iw tp t f 441828 from fun z => by have := z.2; omega), if_pos (show iw tp t f 643129 from ⟨hk, h5⟩)]
      rfl
    by_cases h6 : wwI tp f (tE tp t f - f) = (441828 : Int)
    · rw [if_neg h0, if_neg h1, if_neg h2, if_neg h3, if_neg h4, if_neg h5, if_pos h6, if_pos (show iw tp t f 441828 from ⟨hk, h6⟩)]
      rfl
    rw [if_neg h0, if_neg h1, if_neg h2, if_neg h3, if_neg h4, if_neg h5, if_neg h6, if_neg (show ¬ iw tp t f 441828 from fun z => h6 z.2), if_neg (show ¬ iw tp t f 643129 from fun z => h5 z.2), if_neg (show ¬ iw tp t f 3122 from fun z => h4 z.2), if_neg (show ¬ iw tp t f 24748627411 from fun z => h3 z.2), if_neg (show ¬ iw tp t f 591150 from fun z => h2 z.2), if_neg (show ¬ iw tp t f 20232293 from fun z => h1 z.2), if_neg (show ¬ iw tp t f 635380 from fun z => h0 z.2)]
    rfl
  · rw [if_neg hk, if_neg (show ¬ iw tp t f 441828 from fun z => hk z.1), if_neg (show ¬ iw tp t f 643129 from fun z => hk z.1), if_neg (show ¬ iw tp t f 3122 from fun z => hk z.1), if_neg (show ¬ iw tp t f 24748627411 from fun z => hk z.1), if_neg (show ¬ iw tp t f 591150 from fun z => hk z.1), if_neg (show ¬ iw tp t f 20232293 from fun z => hk z.1), if_neg (show ¬ iw tp t f 635380 from fun z => hk z.1)]
    rfl
theorem wls_6 : wls 6 (scN 6 + 1) 0 0 = [(0, 4), (5, 9), (10, 14), (15, 19), (20, 25), (26, 30), (31, 34)] := by decide +kernel
theorem par_6_0 {tp : Nat → Nat} {t f : Nat} (hk : kd tp t f = 1) : parB tp f (tE tp t f) 6 0 4 = true ↔ wwI tp f (tE tp t f - f) = (635380 : Int) := by
  rw [parB_iff hk (by decide +kernel) (by decide), show wwI (scH 6) 0 (4 - 0) = (635380 : Int) by decide +kernel]
theorem par_6_1 {tp : Nat → Nat} {t f : Nat} (hk : kd tp t f = 1) : parB tp f (tE tp t f) 6 5 9 = true ↔ wwI tp f (tE tp t f - f) = (398548 : Int) := by
  rw [parB_iff hk (by decide +kernel) (by decide), show wwI (scH 6) 5 (9 - 5) = (398548 : Int) by decide +kernel]
theorem par_6_2 {tp : Nat → Nat} {t f : Nat} (hk : kd tp t f = 1) : parB tp f (tE tp t f) 6 10 14 = true ↔ wwI tp f (tE tp t f - f) = (643129 : Int) := by
  rw [parB_iff hk (by decide +kernel) (by decide), show wwI (scH 6) 10 (14 - 10) = (643129 : Int) by decide +kernel]
theorem par_6_3 {tp : Nat → Nat} {t f : Nat} (hk : kd tp t f = 1) : parB tp f (tE tp t f) 6 15 19 = true ↔ wwI tp f (tE tp t f - f) = (441925 : Int) := by
  rw [parB_iff hk (by decide +kernel) (by decide), show wwI (scH 6) 15 (19 - 15) = (441925 : Int) by decide +kernel]
theorem par_6_4 {tp : Nat → Nat} {t f : Nat} (hk : kd tp t f = 1) : parB tp f (tE tp t f) 6 20 25 = true ↔ wwI tp f (tE tp t f - f) = (20232293 : Int) := by
  rw [parB_iff hk (by decide +kernel) (by decide), show wwI (scH 6) 20 (25 - 20) = (20232293 : Int) by decide +kernel]
theorem par_6_5 {tp : Nat → Nat} {t f : Nat} (hk : kd tp t f = 1) : parB tp f (tE tp t f) 6 26 30 = true ↔ wwI tp f (tE tp t f - f) = (113966 : Int) := by
  rw [parB_iff hk (by decide +kernel) (by decide), show wwI (scH 6) 26 (30 - 26) = (113966 : Int) by decide +kernel]
theorem par_6_6 {tp : Nat → Nat} {t f : Nat} (hk : kd tp t f = 1) : parB tp f (tE tp t f) 6 31 34 = true ↔ wwI tp f (tE tp t f - f) = (16562 : Int) := by
  rw [parB_iff hk (by decide +kernel) (by decide), show wwI (scH 6) 31 (34 - 31) = (16562 : Int) by decide +kernel]
theorem wpa_6 {tp : Nat → Nat} {t f : Nat} : wpa tp t f false 7 = (if iw tp t f 16562 then 7 else if iw tp t f 113966 then 6 else if iw tp t f 20232293 then 5 else if iw tp t f 441925 then 4 else if iw tp t f 643129 then 3 else if iw tp t f 398548 then 2 else if iw tp t f 635380 then 1 else 0) := rfl
theorem wrd_6 {tp : Nat → Nat} {t f : Nat} : wrd tp t f 6 = (if wpa tp t f false 7 = 0 then none else some (wpa tp t f false 7 - 1)) := by
  rw [wpa_6]
  unfold wrd
  by_cases hk : kd tp t f = 1
  · rw [if_pos hk, wls_6]
    simp only [fsT, par_6_0 hk, par_6_1 hk, par_6_2 hk, par_6_3 hk, par_6_4 hk, par_6_5 hk, par_6_6 hk]
    by_cases h0 : wwI tp f (tE tp t f - f) = (635380 : Int)
    · rw [if_pos h0, if_neg (show ¬ iw tp t f 16562 from fun z => by have := z.2; omega), if_neg (show ¬ iw tp t f 113966 from fun z => by have := z.2; omega), if_neg (show ¬ iw tp t f 20232293 from fun z => by have := z.2; omega), if_neg (show ¬ iw tp t f 441925 from fun z => by have := z.2; omega), if_neg (show ¬ iw tp t f 643129 from fun z => by have := z.2; omega), if_neg (show ¬ iw tp t f 398548 from fun z => by have := z.2; omega), if_pos (show iw tp t f 635380 from ⟨hk, h0⟩)]
      rfl
    by_cases h1 : wwI tp f (tE tp t f - f) = (398548 : Int)
    · rw [if_neg h0, if_pos h1, if_neg (show ¬ iw tp t f 16562 from fun z => by have := z.2; omega), if_neg (show ¬ iw tp t f 113966 from fun z => by have := z.2; omega), if_neg (show ¬ iw tp t f 20232293 from fun z => by have := z.2; omega), if_neg (show ¬ iw tp t f 441925 from fun z => by have := z.2; omega), if_neg (show ¬ iw tp t f 643129 from fun z => by have := z.2; omega), if_pos (show iw tp t f 398548 from ⟨hk, h1⟩)]
      rfl
    by_cases h2 : wwI tp f (tE tp t f - f) = (643129 : Int)
    · rw [if_neg h0, if_neg h1, if_pos h2, if_neg (show ¬ iw tp t f 16562 from fun z => by have := z.2; omega), if_neg (show ¬ iw tp t f 113966 from fun z => by have := z.2; omega), if_neg (show ¬ iw tp t f 20232293 from fun z => by have := z.2; omega), if_neg (show ¬ iw tp t f 441925 from fun z => by have := z.2; omega), if_pos (show iw tp t f 643129 from ⟨hk, h2⟩)]
      rfl
    by_cases h3 : wwI tp f (tE tp t f - f) = (441925 : Int)
    · rw [if_neg h0, if_neg h1, if_neg h2, if_pos h3, if_neg (show ¬ iw tp t f 16562 from fun z => by have := z.2; omega), if_neg (show ¬ iw tp t f 113966 from fun z => by have := z.2; omega), if_neg (show ¬ iw tp t f 20232293 from fun z => by have := z.2; omega), if_pos (show iw tp t f 441925 from ⟨hk, h3⟩)]
      rfl
    by_cases h4 : wwI tp f (tE tp t f - f) = (20232293 : Int)
    · rw [if_neg h0, if_neg h1, if_neg h2, if_neg h3, if_pos h4, if_neg (show ¬ iw tp t f 16562 from fun z => by have := z.2; omega), if_neg (show ¬ iw tp t f 113966 from fun z => by have := z.2; omega), if_pos (show iw tp t f 20232293 from ⟨hk, h4⟩)]
      rfl
    by_cases h5 : wwI tp f (tE tp t f - f) = (113966 : Int)
    · rw [if_neg h0, if_neg h1, if_neg h2, if_neg h3, if_neg h4, if_pos h5, if_neg (show ¬ iw tp t f 16562 from fun z => by have := z.2; omega), if_pos (show iw tp t f 113966 from ⟨hk, h5⟩)]
      rfl
    by_cases h6 : wwI tp f (tE tp t f - f) = (16562 : Int)
    · rw [if_neg h0, if_neg h1, if_neg h2, if_neg h3, if_neg h4, if_neg h5, if_pos h6, if_pos (show iw tp t f 16562 from ⟨hk, h6⟩)]
      rfl
    rw [if_neg h0, if_neg h1, if_neg h2, if_neg h3, if_neg h4, if_neg h5, if_neg h6, if_neg (show ¬ iw tp t f 16562 from fun z => h6 z.2), if_neg (show ¬ iw tp t f 113966 from fun z => h5 z.2), if_neg (show ¬ iw tp t f 20232293 from fun z => h4 z.2), if_neg (show ¬ iw tp t f 441925 from fun z => h3 z.2), if_neg (show ¬ iw tp t f 643129 from fun z => h2 z.2), if_neg (show ¬ iw tp t f 398548 from fun z => h1 z.2), if_neg (show ¬ iw tp t f 635380 from fun z => h0 z.2)]
    rfl
  · rw [if_neg hk, if_neg (show ¬ iw tp t f 16562 from fun z => hk z.1), if_neg (show ¬ iw tp t f 113966 from fun z => hk z.1), if_neg (show ¬ iw tp t f 20232293 from fun z => hk z.1), if_neg (show ¬ iw tp t f 441925 from fun z => hk z.1), if_neg (show ¬ iw tp t f 643129 from fun z => hk z.1), if_neg (show ¬ iw tp t f 398548 from fun z => hk z.1), if_neg (show ¬ iw tp t f 635380 from fun z => hk z.1)]
    rfl
theorem wls_7 : wls 7 (scN 7 + 1) 0 0 = [(0, 2)] := by decide +kernel
theorem par_7_0 {tp : Nat → Nat} {t f : Nat} (hk : kd tp t f = 1) : parB tp f (tE tp t f) 7 0 2 = true ↔ wwI tp f (tE tp t f - f) = (294 : Int) := by
  rw [parB_iff hk (by decide +kernel) (by decide), show wwI (scH 7) 0 (2 - 0) = (294 : Int) by decide +kernel]
theorem wrd_7 {tp : Nat → Nat} {t f : Nat} : wrd tp t f 7 = if iw tp t f 294 then some 0 else none := by
  unfold wrd iw
  by_cases hk : kd tp t f = 1
  · rw [if_pos hk, wls_7]
    simp only [fsT, par_7_0 hk]
    repeat' split
    all_goals first | rfl | omega
  · rw [if_neg hk]
    repeat' split
    all_goals first | rfl | omega
theorem wrd_w {tp : Nat → Nat} {t f : Nat} (lw : Bool) : wrd tp t f (if lw = true then 5 else 6) = (if wpa tp t f lw 7 = 0 then none else some (wpa tp t f lw 7 - 1)) := by
  cases lw
  · exact wrd_6
  · exact wrd_5
theorem cn_wn {tp : Nat → Nat} {f : Nat} : ∀ m, (∀ q, q < m → isD (tp (f + q))) → (cn tp f m = wn tp f m ∧ wn tp f m ≤ 1000) ∨ (1000 < cn tp f m ∧ 1000 < wn tp f m)
  | 0, _ => Or.inl ⟨rfl, Nat.zero_le _⟩
  | m + 1, h => by
    have ih := cn_wn m (fun q hq => h q (by omega))
    have hd := h m (by omega)
    show (min 100000 (cn tp f m * 10 + (tp (f + m) - 48)) = (if 1000000 < wn tp f m then wn tp f m else wn tp f m * 10 + (tp (f + m) - 48)) ∧ (if 1000000 < wn tp f m then wn tp f m else wn tp f m * 10 + (tp (f + m) - 48)) ≤ 1000) ∨ (1000 < min 100000 (cn tp f m * 10 + (tp (f + m) - 48)) ∧ 1000 < (if 1000000 < wn tp f m then wn tp f m else wn tp f m * 10 + (tp (f + m) - 48)))
    by_cases c : 1000000 < wn tp f m
    · rw [if_pos c]; omega
    · rw [if_neg c]; omega
theorem cn_nu {tp : Nat → Nat} {t f : Nat} (h : kd tp t f = 2) : (cn tp f (tE tp t f - f) = nu tp t f ∧ nu tp t f ≤ 1000) ∨ (1000 < cn tp f (tE tp t f - f) ∧ 1000 < nu tp t f) := cn_wn _ (wn_all h)
